-- laid by wip/whole/gen
theorem i64_add {a b : Int64} {x y : Int} (ha : a.toInt = x) (hb : b.toInt = y) (h1 : -9223372036854775808 ≤ x + y) (h2 : x + y < 9223372036854775808) : (a + b).toInt = x + y := by
  rw [Int64.toInt_add, ha, hb]
  exact Int.bmod_eq_of_le (by omega) (by omega)
theorem i64_sub {a b : Int64} {x y : Int} (ha : a.toInt = x) (hb : b.toInt = y) (h1 : -9223372036854775808 ≤ x - y) (h2 : x - y < 9223372036854775808) : (a - b).toInt = x - y := by
  rw [Int64.toInt_sub, ha, hb]
  exact Int.bmod_eq_of_le (by omega) (by omega)
theorem i64_mid {lo hi : Int64} (h0 : 0 ≤ lo.toInt) (h1 : lo.toInt < hi.toInt) (h2 : hi.toInt ≤ 3000000000) : ((lo + hi + 1) / 2).toInt = (lo.toInt + hi.toInt + 1) / 2 := by
  have z1 : (1 : Int64).toInt = 1 := by decide
  have z2 : (2 : Int64).toInt = 2 := by decide
  have e1 := i64_add (a := lo) (b := hi) rfl rfl (by omega) (by omega)
  have e2 := i64_add (a := lo + hi) (b := 1) e1 z1 (by omega) (by omega)
  rw [Int64.toInt_div, e2, z2, Int.tdiv_eq_ediv_of_nonneg (by omega)]
  exact Int.bmod_eq_of_le (by omega) (by omega)
def z5_rootl : Nat → Int64 → Int64 → Int64 → Int64
  | 0, _, lo, _ => lo
  | n + 1, v, lo, hi => if hi ≤ lo then lo else if v / ((lo + hi + 1) / 2) < (lo + hi + 1) / 2 then z5_rootl n v lo ((lo + hi + 1) / 2 - 1) else z5_rootl n v ((lo + hi + 1) / 2) hi
def ro_ok (n : Nat) (lo hi : Int64) : Prop := 0 ≤ lo.toInt ∧ lo.toInt ≤ hi.toInt ∧ hi.toInt ≤ 3000000000 ∧ hi.toInt - lo.toInt < 2 ^ n
theorem ro_0 {lo hi : Int64} (h : ro_ok 0 lo hi) : hi ≤ lo := by
  obtain ⟨a, b, c, d⟩ := h
  rw [Int64.le_iff_toInt_le]
  have : (2 : Int) ^ 0 = 1 := rfl
  omega
theorem ro_ne {n : Nat} {lo hi : Int64} (h : ro_ok n lo hi) (h1 : ¬ hi ≤ lo) : ¬ (lo + hi + 1) / 2 = 0 := by
  obtain ⟨a, b, c, d⟩ := h
  rw [Int64.le_iff_toInt_le] at h1
  intro q
  have e := i64_mid a (by omega) c
  rw [q, show (0 : Int64).toInt = 0 by decide] at e
  omega
theorem ro_lo {n : Nat} {lo hi : Int64} (h : ro_ok (n + 1) lo hi) (h1 : ¬ hi ≤ lo) : ro_ok n lo ((lo + hi + 1) / 2 - 1) := by
  obtain ⟨a, b, c, d⟩ := h
  rw [Int64.le_iff_toInt_le] at h1
  have e := i64_mid a (by omega) c
  have z1 : (1 : Int64).toInt = 1 := by decide
  have e2 := i64_sub (a := (lo + hi + 1) / 2) (b := 1) e z1 (by omega) (by omega)
  have p2 : (2 : Int) ^ (n + 1) = 2 * 2 ^ n := by rw [Int.pow_succ, Int.mul_comm]
  unfold ro_ok
  rw [e2]
  omega
theorem ro_hi {n : Nat} {lo hi : Int64} (h : ro_ok (n + 1) lo hi) (h1 : ¬ hi ≤ lo) : ro_ok n ((lo + hi + 1) / 2) hi := by
  obtain ⟨a, b, c, d⟩ := h
  rw [Int64.le_iff_toInt_le] at h1
  have e := i64_mid a (by omega) c
  have p2 : (2 : Int) ^ (n + 1) = 2 * 2 ^ n := by rw [Int.pow_succ, Int.mul_comm]
  unfold ro_ok
  rw [e]
  omega
def z5_rootOf (v : Int64) : Int64 := z5_rootl 32 v 0 3000000000
set_option maxHeartbeats 4000000 in
set_option maxRecDepth 100000 in
/-- X5.rootOf -/
theorem c_X5_rootOf (l : Launch) (D : va_G) (cI cJ : ClassId) (v : Int64) : mr_C l yX5_rootOf wsX5_rootOf ({ frames := 0, cells := 0, slots := 0, locals := 0 }) D cI cJ [.long v] [] (vp_Sl (fun r : Int64 => r = z5_rootOf v)) := by
  refine mr_in (cc := cX5_rootOf) (lv := [(0, .long v)]) (by decide) rfl (Nat.le_of_ble_eq_true rfl) rfl ?_
  intro pG eG sG mG below meth cG ls hx hb hr hml hown hts hlk hP hK hl
  have hown : sG.vm.findClass RX5 = some mG.cls := hown
  have k_1 := hts (.constantLong RX5 95 (2)) (by decide +kernel)
  have k_2 := hts (.constantLong RX5 186 (3000000000)) (by decide +kernel)
  have loop : ∀ (n : Nat) (lo hi : Int64), ro_ok n lo hi → z5_rootl n v lo hi = z5_rootOf v → ∀ ls : Array Slot, lv_has ls 8 [(2, .long lo), (4, .long hi), (0, .long v)] → W pG l eG (headSpec wsX5_rootOf ({ frames := 0, cells := 0, slots := 0, locals := 0 })).room sG mG ([.long v] : List Value).toArray below meth cG sG.heap [] 0 0 (MQ below (vp_Sl (fun r : Int64 => r = z5_rootOf v)) ([.long v] : List Value).toArray sG 0 0 (fun _ => False)) (F0 mG 7 ls []) := by
    intro n
    induction n with
    | zero =>
      intro lo hi ho hv ls hl
      refine lv_lload_n hx hb dX5_rootOf_7 rfl (lv_at hl 0 rfl) ?_
      refine lv_lload hx hb dX5_rootOf_8 (lv_at hl 1 rfl) ?_
      refine lb_ge (tgt := 51) hx hb dX5_rootOf_10 rfl dX5_rootOf_11 (by decide) (fun _ => ?_) (fun h => absurd (ro_0 ho) h)
      refine lv_lload_n hx hb dX5_rootOf_51 rfl (lv_at hl 0 rfl) ?_
      exact rr_l hx hb hr hlk dX5_rootOf_52 hv
    | succ n ih =>
      intro lo hi ho hv ls hl
      rw [z5_rootl] at hv
      refine lv_lload_n hx hb dX5_rootOf_7 rfl (lv_at hl 0 rfl) ?_
      refine lv_lload hx hb dX5_rootOf_8 (lv_at hl 1 rfl) ?_
      refine lb_ge (tgt := 51) hx hb dX5_rootOf_10 rfl dX5_rootOf_11 (by decide) (fun c_1 => ?_) (fun c_1 => ?_)
      · skip
        refine lv_lload_n hx hb dX5_rootOf_51 rfl (lv_at hl 0 rfl) ?_
        exact rr_l hx hb hr hlk dX5_rootOf_52 (by rw [if_pos c_1] at hv; exact hv)
      · skip
        refine lv_lload_n hx hb dX5_rootOf_14 rfl (lv_at hl 0 rfl) ?_
        refine lv_lload hx hb dX5_rootOf_15 (lv_at hl 1 rfl) ?_
        refine lv_ladd hx hb dX5_rootOf_17 ?_
        refine lv_lconst (v := 1) hx hb dX5_rootOf_18 (by decide) ?_
        refine lv_ladd hx hb dX5_rootOf_19 ?_
        refine lv_ldc2 hx hb hown k_1 dX5_rootOf_20 ?_
        refine lv_ldiv hx hb dX5_rootOf_23 (by decide) ?_
        refine lv_lstore (lv' := [(6, .long (((lo + hi) + 1) / 2)), (2, .long lo), (4, .long hi), (0, .long v)]) hx hb dX5_rootOf_24 hl (by decide) rfl (fun ls hl => ?_)
        refine lv_lload hx hb dX5_rootOf_26 (lv_at hl 0 rfl) ?_
        refine lv_lload_n hx hb dX5_rootOf_28 rfl (lv_at hl 3 rfl) ?_
        refine lv_lload hx hb dX5_rootOf_29 (lv_at hl 0 rfl) ?_
        refine lv_ldiv hx hb dX5_rootOf_31 (ro_ne ho c_1) ?_
        refine lb_gt (tgt := 42) hx hb dX5_rootOf_32 rfl dX5_rootOf_33 (by decide) (fun c_2 => ?_) (fun c_2 => ?_)
        · skip
          refine lv_lload hx hb dX5_rootOf_42 (lv_at hl 0 rfl) ?_
          refine lv_lconst (v := 1) hx hb dX5_rootOf_44 (by decide) ?_
          refine lv_lsub hx hb dX5_rootOf_45 ?_
          refine lv_lstore (lv' := [(4, .long ((((lo + hi) + 1) / 2) - 1)), (6, .long (((lo + hi) + 1) / 2)), (2, .long lo), (0, .long v)]) hx hb dX5_rootOf_46 hl (by decide) rfl (fun ls hl => ?_)
          refine lv_goto (tgt := 7) hx hb dX5_rootOf_48 (by decide) ?_
          exact ih lo ((((lo + hi) + 1) / 2) - 1) (ro_lo ho c_1) (by rw [if_neg c_1, if_pos c_2] at hv; exact hv) ls (lv_sub hl [2, 0, 3] rfl)
        · skip
          refine lv_lload hx hb dX5_rootOf_36 (lv_at hl 0 rfl) ?_
          refine lv_lstore_n (lv' := [(2, .long (((lo + hi) + 1) / 2)), (6, .long (((lo + hi) + 1) / 2)), (4, .long hi), (0, .long v)]) hx hb dX5_rootOf_38 rfl hl (by decide) rfl (fun ls hl => ?_)
          refine lv_goto (tgt := 48) hx hb dX5_rootOf_39 (by decide) ?_
          refine lv_goto (tgt := 7) hx hb dX5_rootOf_48 (by decide) ?_
          exact ih (((lo + hi) + 1) / 2) hi (ro_hi ho c_1) (by rw [if_neg c_1, if_neg c_2] at hv; exact hv) ls (lv_sub hl [0, 2, 3] rfl)
  refine lv_lconst (v := 0) hx hb dX5_rootOf_0 (by decide) ?_
  refine lv_lstore_n (lv' := [(2, .long 0), (0, .long v)]) hx hb dX5_rootOf_1 rfl hl (by decide) rfl (fun ls hl => ?_)
  refine lv_ldc2 hx hb hown k_2 dX5_rootOf_2 ?_
  refine lv_lstore (lv' := [(4, .long 3000000000), (2, .long 0), (0, .long v)]) hx hb dX5_rootOf_5 hl (by decide) rfl (fun ls hl => ?_)
  exact loop 32 0 3000000000 (by unfold ro_ok; decide) rfl ls (lv_sub hl [1, 0, 2] rfl)
def z5_arrange (f : Nat → Int64) : (Nat → Int64) := if (f 0) = (f 3) then if (f 1) = (f 4) then if (f 2) ≤ (f 5) then f else vp_updL (vp_updL (vp_updL (vp_updL (vp_updL (vp_updL f 0 (f 3)) 3 (f 0)) 1 (f 4)) 4 (f 1)) 2 (f 5)) 5 (f 2) else if (f 1) ≤ (f 4) then f else vp_updL (vp_updL (vp_updL (vp_updL (vp_updL (vp_updL f 2 (f 5)) 5 (f 2)) 0 (f 3)) 3 (f 0)) 1 (f 4)) 4 (f 1) else if (f 0) ≤ (f 3) then f else vp_updL (vp_updL (vp_updL (vp_updL (vp_updL (vp_updL f 1 (f 4)) 4 (f 1)) 2 (f 5)) 5 (f 2)) 0 (f 3)) 3 (f 0)
set_option maxHeartbeats 4000000 in
set_option maxRecDepth 100000 in
/-- X5.arrange -/
theorem c_X5_arrange (l : Launch) (D : va_G) (cI cJ : ClassId) (h : Nat) (f : Nat → Int64) : mw_C l yX5_arrange wsX5_arrange ({ frames := 0, cells := 0, slots := 0, locals := 0 }) D cI cJ [.ref h] [kJ h cJ 6 f] (qe_v (fun _ : Unit => True) (fun uu => [kJ h cJ 6 (z5_arrange f)])) := by
  refine mw_in (cc := cX5_arrange) (lv := [(0, .ref h)]) (by decide) rfl (Nat.le_of_ble_eq_true rfl) rfl ?_
  intro pG eG sG mG below meth cG ls A hx hb hr hml hown hts hlk hin hP hK hD hA hS hl
  have hown : sG.vm.findClass RX5 = some mG.cls := hown
  refine lv_iconst (v := 0) hx hb dX5_arrange_0 (by decide) ?_
  refine lv_istore_n (lv' := [(1, .int 0), (0, .ref h)]) hx hb dX5_arrange_1 rfl hl (by decide) rfl (fun ls hl => ?_)
  refine lv_iload_n hx hb dX5_arrange_2 rfl (lv_at hl 0 rfl) ?_
  refine lv_iconst (v := 2) hx hb dX5_arrange_3 (by decide) ?_
  refine lv_icmp_ge (tgt := 25) hx hb dX5_arrange_4 (by decide) (fun h => absurd h (by decide)) (fun _ => ?_)
  refine lv_aload_n hx hb dX5_arrange_7 rfl (lv_at hl 1 rfl) ?_
  refine lv_iload_n hx hb dX5_arrange_8 rfl (lv_at hl 0 rfl) ?_
  refine ld_l hx hb hK.1 hP 0 1 rfl rfl (ix_lit (by decide)) 0 (by decide) (v := f 0) rfl dX5_arrange_9 ?_
  refine lv_aload_n hx hb dX5_arrange_10 rfl (lv_at hl 1 rfl) ?_
  refine lv_iconst (v := 3) hx hb dX5_arrange_11 (by decide) ?_
  refine lv_iload_n hx hb dX5_arrange_12 rfl (lv_at hl 0 rfl) ?_
  refine lv_iadd hx hb dX5_arrange_13 ?_
  refine lv_eqi (v := 3) (by decide) ?_
  refine ld_l hx hb hK.1 hP 0 1 rfl rfl (ix_lit (by decide)) 3 (by decide) (v := f 3) rfl dX5_arrange_14 ?_
  refine lb_ne (tgt := 25) hx hb dX5_arrange_15 rfl dX5_arrange_16 (by decide) (fun c_1 => ?_) (fun c_1 => ?_)
  · skip
    refine lv_iconst (v := 0) hx hb dX5_arrange_25 (by decide) ?_
    refine lv_istore_n (lv' := [(2, .int 0), (1, .int 0), (0, .ref h)]) hx hb dX5_arrange_26 rfl hl (by decide) rfl (fun ls hl => ?_)
    refine lv_iload_n hx hb dX5_arrange_27 rfl (lv_at hl 0 rfl) ?_
    refine lv_iconst (v := 3) hx hb dX5_arrange_28 (by decide) ?_
    refine lv_icmp_ge (tgt := 78) hx hb dX5_arrange_29 (by decide) (fun h => absurd h (by decide)) (fun _ => ?_)
    refine lv_aload_n hx hb dX5_arrange_32 rfl (lv_at hl 2 rfl) ?_
    refine lv_iload_n hx hb dX5_arrange_33 rfl (lv_at hl 1 rfl) ?_
    refine ld_l hx hb hK.1 hP 0 1 rfl rfl (ix_lit (by decide)) 0 (by decide) (v := f 0) rfl dX5_arrange_34 ?_
    refine lv_aload_n hx hb dX5_arrange_35 rfl (lv_at hl 2 rfl) ?_
    refine lv_iconst (v := 3) hx hb dX5_arrange_36 (by decide) ?_
    refine lv_iload_n hx hb dX5_arrange_37 rfl (lv_at hl 1 rfl) ?_
    refine lv_iadd hx hb dX5_arrange_38 ?_
    refine lv_eqi (v := 3) (by decide) ?_
    refine ld_l hx hb hK.1 hP 0 1 rfl rfl (ix_lit (by decide)) 3 (by decide) (v := f 3) rfl dX5_arrange_39 ?_
    refine lb_le (tgt := 78) hx hb dX5_arrange_40 rfl dX5_arrange_41 (by decide) (fun c_2 => ?_) (fun c_2 => ?_)
    · skip
      have he : z5_arrange f = f := by unfold z5_arrange; rw [if_neg c_1, if_pos c_2]
      exact rt_v (w1 := fun uu : Unit => [kJ h cJ 6 (z5_arrange f)]) hx hb hr hlk hS dX5_arrange_78 (()) trivial (by rw [he]; exact hP) (by rw [he]; exact hD)
    · skip
      refine lv_iload_n hx hb dX5_arrange_44 rfl (lv_at hl 1 rfl) ?_
      refine lv_iconst (v := 1) hx hb dX5_arrange_45 (by decide) ?_
      refine lv_iadd hx hb dX5_arrange_46 ?_
      refine lv_eqi (v := 1) (by decide) ?_
      refine lv_iload_n hx hb dX5_arrange_47 rfl (lv_at hl 0 rfl) ?_
      refine lv_iadd hx hb dX5_arrange_48 ?_
      refine lv_eqi (v := 1) (by decide) ?_
      refine lv_iconst (v := 3) hx hb dX5_arrange_49 (by decide) ?_
      refine lv_irem hx hb dX5_arrange_50 (by decide) ?_
      refine lv_eqi (v := 1) (by decide) ?_
      refine lv_istore_n (lv' := [(3, .int 1), (2, .int 0), (1, .int 0), (0, .ref h)]) hx hb dX5_arrange_51 rfl hl (by decide) rfl (fun ls hl => ?_)
      refine lv_aload_n hx hb dX5_arrange_52 rfl (lv_at hl 3 rfl) ?_
      refine lv_iload_n hx hb dX5_arrange_53 rfl (lv_at hl 0 rfl) ?_
      refine ld_l hx hb hK.1 hP 0 1 rfl rfl (ix_lit (by decide)) 1 (by decide) (v := f 1) rfl dX5_arrange_54 ?_
      refine lv_lstore (lv' := [(4, .long (f 1)), (3, .int 1), (2, .int 0), (1, .int 0), (0, .ref h)]) hx hb dX5_arrange_55 hl (by decide) rfl (fun ls hl => ?_)
      refine lv_aload_n hx hb dX5_arrange_57 rfl (lv_at hl 4 rfl) ?_
      refine lv_iload_n hx hb dX5_arrange_58 rfl (lv_at hl 1 rfl) ?_
      refine lv_aload_n hx hb dX5_arrange_59 rfl (lv_at hl 4 rfl) ?_
      refine lv_iconst (v := 3) hx hb dX5_arrange_60 (by decide) ?_
      refine lv_iload_n hx hb dX5_arrange_61 rfl (lv_at hl 1 rfl) ?_
      refine lv_iadd hx hb dX5_arrange_62 ?_
      refine lv_eqi (v := 4) (by decide) ?_
      refine ld_l hx hb hK.1 hP 0 1 rfl rfl (ix_lit (by decide)) 4 (by decide) (v := f 4) rfl dX5_arrange_63 ?_
      refine st_l hx hb hK.1 hP hD hS 0 1 rfl rfl (ix_lit (by decide)) 1 (by decide) dX5_arrange_64 (fun H locs hP hD hS => ?_)
      have hP : va_P D vwCl [kJ h cJ 6 (vp_updL f 1 (f 4))] H := hP
      have hD : va_D A [kJ h cJ 6 (vp_updL f 1 (f 4))] := hD
      refine lv_aload_n hx hb dX5_arrange_65 rfl (lv_at hl 4 rfl) ?_
      refine lv_iconst (v := 3) hx hb dX5_arrange_66 (by decide) ?_
      refine lv_iload_n hx hb dX5_arrange_67 rfl (lv_at hl 1 rfl) ?_
      refine lv_iadd hx hb dX5_arrange_68 ?_
      refine lv_eqi (v := 4) (by decide) ?_
      refine lv_lload hx hb dX5_arrange_69 (lv_at hl 0 rfl) ?_
      refine st_l hx hb hK.1 hP hD hS 0 1 rfl rfl (ix_lit (by decide)) 4 (by decide) dX5_arrange_71 (fun H locs hP hD hS => ?_)
      have hP : va_P D vwCl [kJ h cJ 6 (vp_updL (vp_updL f 1 (f 4)) 4 (f 1))] H := hP
      have hD : va_D A [kJ h cJ 6 (vp_updL (vp_updL f 1 (f 4)) 4 (f 1))] := hD
      refine lv_iinc (v := 1) (lv' := [(2, .int 1), (4, .long (f 1)), (3, .int 1), (1, .int 0), (0, .ref h)]) hx hb dX5_arrange_72 hl (k := 2) rfl (by decide) (by decide) rfl (fun ls hl => ?_)
      refine lv_goto (tgt := 27) hx hb dX5_arrange_75 (by decide) ?_
      refine lv_iload_n hx hb dX5_arrange_27 rfl (lv_at hl 0 rfl) ?_
      refine lv_iconst (v := 3) hx hb dX5_arrange_28 (by decide) ?_
      refine lv_icmp_ge (tgt := 78) hx hb dX5_arrange_29 (by decide) (fun h => absurd h (by decide)) (fun _ => ?_)
      refine lv_aload_n hx hb dX5_arrange_32 rfl (lv_at hl 4 rfl) ?_
      refine lv_iload_n hx hb dX5_arrange_33 rfl (lv_at hl 3 rfl) ?_
      refine ld_l hx hb hK.1 hP 0 1 rfl rfl (ix_lit (by decide)) 0 (by decide) (v := f 0) rfl dX5_arrange_34 ?_
      refine lv_aload_n hx hb dX5_arrange_35 rfl (lv_at hl 4 rfl) ?_
      refine lv_iconst (v := 3) hx hb dX5_arrange_36 (by decide) ?_
      refine lv_iload_n hx hb dX5_arrange_37 rfl (lv_at hl 3 rfl) ?_
      refine lv_iadd hx hb dX5_arrange_38 ?_
      refine lv_eqi (v := 3) (by decide) ?_
      refine ld_l hx hb hK.1 hP 0 1 rfl rfl (ix_lit (by decide)) 3 (by decide) (v := f 3) rfl dX5_arrange_39 ?_
      refine lb_le (tgt := 78) hx hb dX5_arrange_40 rfl dX5_arrange_41 (by decide) (fun h => absurd h c_2) (fun _ => ?_)
      refine lv_iload_n hx hb dX5_arrange_44 rfl (lv_at hl 3 rfl) ?_
      refine lv_iconst (v := 1) hx hb dX5_arrange_45 (by decide) ?_
      refine lv_iadd hx hb dX5_arrange_46 ?_
      refine lv_eqi (v := 1) (by decide) ?_
      refine lv_iload_n hx hb dX5_arrange_47 rfl (lv_at hl 0 rfl) ?_
      refine lv_iadd hx hb dX5_arrange_48 ?_
      refine lv_eqi (v := 2) (by decide) ?_
      refine lv_iconst (v := 3) hx hb dX5_arrange_49 (by decide) ?_
      refine lv_irem hx hb dX5_arrange_50 (by decide) ?_
      refine lv_eqi (v := 2) (by decide) ?_
      refine lv_istore_n (lv' := [(3, .int 2), (2, .int 1), (4, .long (f 1)), (1, .int 0), (0, .ref h)]) hx hb dX5_arrange_51 rfl hl (by decide) rfl (fun ls hl => ?_)
      refine lv_aload_n hx hb dX5_arrange_52 rfl (lv_at hl 4 rfl) ?_
      refine lv_iload_n hx hb dX5_arrange_53 rfl (lv_at hl 0 rfl) ?_
      refine ld_l hx hb hK.1 hP 0 1 rfl rfl (ix_lit (by decide)) 2 (by decide) (v := f 2) rfl dX5_arrange_54 ?_
      refine lv_lstore (lv' := [(4, .long (f 2)), (3, .int 2), (2, .int 1), (1, .int 0), (0, .ref h)]) hx hb dX5_arrange_55 hl (by decide) rfl (fun ls hl => ?_)
      refine lv_aload_n hx hb dX5_arrange_57 rfl (lv_at hl 4 rfl) ?_
      refine lv_iload_n hx hb dX5_arrange_58 rfl (lv_at hl 1 rfl) ?_
      refine lv_aload_n hx hb dX5_arrange_59 rfl (lv_at hl 4 rfl) ?_
      refine lv_iconst (v := 3) hx hb dX5_arrange_60 (by decide) ?_
      refine lv_iload_n hx hb dX5_arrange_61 rfl (lv_at hl 1 rfl) ?_
      refine lv_iadd hx hb dX5_arrange_62 ?_
      refine lv_eqi (v := 5) (by decide) ?_
      refine ld_l hx hb hK.1 hP 0 1 rfl rfl (ix_lit (by decide)) 5 (by decide) (v := f 5) rfl dX5_arrange_63 ?_
      refine st_l hx hb hK.1 hP hD hS 0 1 rfl rfl (ix_lit (by decide)) 2 (by decide) dX5_arrange_64 (fun H locs hP hD hS => ?_)
      have hP : va_P D vwCl [kJ h cJ 6 (vp_updL (vp_updL (vp_updL f 1 (f 4)) 4 (f 1)) 2 (f 5))] H := hP
      have hD : va_D A [kJ h cJ 6 (vp_updL (vp_updL (vp_updL f 1 (f 4)) 4 (f 1)) 2 (f 5))] := hD
      refine lv_aload_n hx hb dX5_arrange_65 rfl (lv_at hl 4 rfl) ?_
      refine lv_iconst (v := 3) hx hb dX5_arrange_66 (by decide) ?_
      refine lv_iload_n hx hb dX5_arrange_67 rfl (lv_at hl 1 rfl) ?_
      refine lv_iadd hx hb dX5_arrange_68 ?_
      refine lv_eqi (v := 5) (by decide) ?_
      refine lv_lload hx hb dX5_arrange_69 (lv_at hl 0 rfl) ?_
      refine st_l hx hb hK.1 hP hD hS 0 1 rfl rfl (ix_lit (by decide)) 5 (by decide) dX5_arrange_71 (fun H locs hP hD hS => ?_)
      have hP : va_P D vwCl [kJ h cJ 6 (vp_updL (vp_updL (vp_updL (vp_updL f 1 (f 4)) 4 (f 1)) 2 (f 5)) 5 (f 2))] H := hP
      have hD : va_D A [kJ h cJ 6 (vp_updL (vp_updL (vp_updL (vp_updL f 1 (f 4)) 4 (f 1)) 2 (f 5)) 5 (f 2))] := hD
      refine lv_iinc (v := 2) (lv' := [(2, .int 2), (4, .long (f 2)), (3, .int 2), (1, .int 0), (0, .ref h)]) hx hb dX5_arrange_72 hl (k := 2) rfl (by decide) (by decide) rfl (fun ls hl => ?_)
      refine lv_goto (tgt := 27) hx hb dX5_arrange_75 (by decide) ?_
      refine lv_iload_n hx hb dX5_arrange_27 rfl (lv_at hl 0 rfl) ?_
      refine lv_iconst (v := 3) hx hb dX5_arrange_28 (by decide) ?_
      refine lv_icmp_ge (tgt := 78) hx hb dX5_arrange_29 (by decide) (fun h => absurd h (by decide)) (fun _ => ?_)
      refine lv_aload_n hx hb dX5_arrange_32 rfl (lv_at hl 4 rfl) ?_
      refine lv_iload_n hx hb dX5_arrange_33 rfl (lv_at hl 3 rfl) ?_
      refine ld_l hx hb hK.1 hP 0 1 rfl rfl (ix_lit (by decide)) 0 (by decide) (v := f 0) rfl dX5_arrange_34 ?_
      refine lv_aload_n hx hb dX5_arrange_35 rfl (lv_at hl 4 rfl) ?_
      refine lv_iconst (v := 3) hx hb dX5_arrange_36 (by decide) ?_
      refine lv_iload_n hx hb dX5_arrange_37 rfl (lv_at hl 3 rfl) ?_
      refine lv_iadd hx hb dX5_arrange_38 ?_
      refine lv_eqi (v := 3) (by decide) ?_
      refine ld_l hx hb hK.1 hP 0 1 rfl rfl (ix_lit (by decide)) 3 (by decide) (v := f 3) rfl dX5_arrange_39 ?_
      refine lb_le (tgt := 78) hx hb dX5_arrange_40 rfl dX5_arrange_41 (by decide) (fun h => absurd h c_2) (fun _ => ?_)
      refine lv_iload_n hx hb dX5_arrange_44 rfl (lv_at hl 3 rfl) ?_
      refine lv_iconst (v := 1) hx hb dX5_arrange_45 (by decide) ?_
      refine lv_iadd hx hb dX5_arrange_46 ?_
      refine lv_eqi (v := 1) (by decide) ?_
      refine lv_iload_n hx hb dX5_arrange_47 rfl (lv_at hl 0 rfl) ?_
      refine lv_iadd hx hb dX5_arrange_48 ?_
      refine lv_eqi (v := 3) (by decide) ?_
      refine lv_iconst (v := 3) hx hb dX5_arrange_49 (by decide) ?_
      refine lv_irem hx hb dX5_arrange_50 (by decide) ?_
      refine lv_eqi (v := 0) (by decide) ?_
      refine lv_istore_n (lv' := [(3, .int 0), (2, .int 2), (4, .long (f 2)), (1, .int 0), (0, .ref h)]) hx hb dX5_arrange_51 rfl hl (by decide) rfl (fun ls hl => ?_)
      refine lv_aload_n hx hb dX5_arrange_52 rfl (lv_at hl 4 rfl) ?_
      refine lv_iload_n hx hb dX5_arrange_53 rfl (lv_at hl 0 rfl) ?_
      refine ld_l hx hb hK.1 hP 0 1 rfl rfl (ix_lit (by decide)) 0 (by decide) (v := f 0) rfl dX5_arrange_54 ?_
      refine lv_lstore (lv' := [(4, .long (f 0)), (3, .int 0), (2, .int 2), (1, .int 0), (0, .ref h)]) hx hb dX5_arrange_55 hl (by decide) rfl (fun ls hl => ?_)
      refine lv_aload_n hx hb dX5_arrange_57 rfl (lv_at hl 4 rfl) ?_
      refine lv_iload_n hx hb dX5_arrange_58 rfl (lv_at hl 1 rfl) ?_
      refine lv_aload_n hx hb dX5_arrange_59 rfl (lv_at hl 4 rfl) ?_
      refine lv_iconst (v := 3) hx hb dX5_arrange_60 (by decide) ?_
      refine lv_iload_n hx hb dX5_arrange_61 rfl (lv_at hl 1 rfl) ?_
      refine lv_iadd hx hb dX5_arrange_62 ?_
      refine lv_eqi (v := 3) (by decide) ?_
      refine ld_l hx hb hK.1 hP 0 1 rfl rfl (ix_lit (by decide)) 3 (by decide) (v := f 3) rfl dX5_arrange_63 ?_
      refine st_l hx hb hK.1 hP hD hS 0 1 rfl rfl (ix_lit (by decide)) 0 (by decide) dX5_arrange_64 (fun H locs hP hD hS => ?_)
      have hP : va_P D vwCl [kJ h cJ 6 (vp_updL (vp_updL (vp_updL (vp_updL (vp_updL f 1 (f 4)) 4 (f 1)) 2 (f 5)) 5 (f 2)) 0 (f 3))] H := hP
      have hD : va_D A [kJ h cJ 6 (vp_updL (vp_updL (vp_updL (vp_updL (vp_updL f 1 (f 4)) 4 (f 1)) 2 (f 5)) 5 (f 2)) 0 (f 3))] := hD
      refine lv_aload_n hx hb dX5_arrange_65 rfl (lv_at hl 4 rfl) ?_
      refine lv_iconst (v := 3) hx hb dX5_arrange_66 (by decide) ?_
      refine lv_iload_n hx hb dX5_arrange_67 rfl (lv_at hl 1 rfl) ?_
      refine lv_iadd hx hb dX5_arrange_68 ?_
      refine lv_eqi (v := 3) (by decide) ?_
      refine lv_lload hx hb dX5_arrange_69 (lv_at hl 0 rfl) ?_
      refine st_l hx hb hK.1 hP hD hS 0 1 rfl rfl (ix_lit (by decide)) 3 (by decide) dX5_arrange_71 (fun H locs hP hD hS => ?_)
      have hP : va_P D vwCl [kJ h cJ 6 (vp_updL (vp_updL (vp_updL (vp_updL (vp_updL (vp_updL f 1 (f 4)) 4 (f 1)) 2 (f 5)) 5 (f 2)) 0 (f 3)) 3 (f 0))] H := hP
      have hD : va_D A [kJ h cJ 6 (vp_updL (vp_updL (vp_updL (vp_updL (vp_updL (vp_updL f 1 (f 4)) 4 (f 1)) 2 (f 5)) 5 (f 2)) 0 (f 3)) 3 (f 0))] := hD
      refine lv_iinc (v := 3) (lv' := [(2, .int 3), (4, .long (f 0)), (3, .int 0), (1, .int 0), (0, .ref h)]) hx hb dX5_arrange_72 hl (k := 2) rfl (by decide) (by decide) rfl (fun ls hl => ?_)
      refine lv_goto (tgt := 27) hx hb dX5_arrange_75 (by decide) ?_
      refine lv_iload_n hx hb dX5_arrange_27 rfl (lv_at hl 0 rfl) ?_
      refine lv_iconst (v := 3) hx hb dX5_arrange_28 (by decide) ?_
      refine lv_icmp_ge (tgt := 78) hx hb dX5_arrange_29 (by decide) (fun _ => ?_) (fun h => absurd (by decide) h)
      have he : z5_arrange f = vp_updL (vp_updL (vp_updL (vp_updL (vp_updL (vp_updL f 1 (f 4)) 4 (f 1)) 2 (f 5)) 5 (f 2)) 0 (f 3)) 3 (f 0) := by unfold z5_arrange; rw [if_neg c_1, if_neg c_2]
      exact rt_v (w1 := fun uu : Unit => [kJ h cJ 6 (z5_arrange f)]) hx hb hr hlk hS dX5_arrange_78 (()) trivial (by rw [he]; exact hP) (by rw [he]; exact hD)
  · skip
    refine lv_iinc (v := 1) (lv' := [(1, .int 1), (0, .ref h)]) hx hb dX5_arrange_19 hl (k := 0) rfl (by decide) (by decide) rfl (fun ls hl => ?_)
    refine lv_goto (tgt := 2) hx hb dX5_arrange_22 (by decide) ?_
    refine lv_iload_n hx hb dX5_arrange_2 rfl (lv_at hl 0 rfl) ?_
    refine lv_iconst (v := 2) hx hb dX5_arrange_3 (by decide) ?_
    refine lv_icmp_ge (tgt := 25) hx hb dX5_arrange_4 (by decide) (fun h => absurd h (by decide)) (fun _ => ?_)
    refine lv_aload_n hx hb dX5_arrange_7 rfl (lv_at hl 1 rfl) ?_
    refine lv_iload_n hx hb dX5_arrange_8 rfl (lv_at hl 0 rfl) ?_
    refine ld_l hx hb hK.1 hP 0 1 rfl rfl (ix_lit (by decide)) 1 (by decide) (v := f 1) rfl dX5_arrange_9 ?_
    refine lv_aload_n hx hb dX5_arrange_10 rfl (lv_at hl 1 rfl) ?_
    refine lv_iconst (v := 3) hx hb dX5_arrange_11 (by decide) ?_
    refine lv_iload_n hx hb dX5_arrange_12 rfl (lv_at hl 0 rfl) ?_
    refine lv_iadd hx hb dX5_arrange_13 ?_
    refine lv_eqi (v := 4) (by decide) ?_
    refine ld_l hx hb hK.1 hP 0 1 rfl rfl (ix_lit (by decide)) 4 (by decide) (v := f 4) rfl dX5_arrange_14 ?_
    refine lb_ne (tgt := 25) hx hb dX5_arrange_15 rfl dX5_arrange_16 (by decide) (fun c_3 => ?_) (fun c_3 => ?_)
    · skip
      refine lv_iconst (v := 0) hx hb dX5_arrange_25 (by decide) ?_
      refine lv_istore_n (lv' := [(2, .int 0), (1, .int 1), (0, .ref h)]) hx hb dX5_arrange_26 rfl hl (by decide) rfl (fun ls hl => ?_)
      refine lv_iload_n hx hb dX5_arrange_27 rfl (lv_at hl 0 rfl) ?_
      refine lv_iconst (v := 3) hx hb dX5_arrange_28 (by decide) ?_
      refine lv_icmp_ge (tgt := 78) hx hb dX5_arrange_29 (by decide) (fun h => absurd h (by decide)) (fun _ => ?_)
      refine lv_aload_n hx hb dX5_arrange_32 rfl (lv_at hl 2 rfl) ?_
      refine lv_iload_n hx hb dX5_arrange_33 rfl (lv_at hl 1 rfl) ?_
      refine ld_l hx hb hK.1 hP 0 1 rfl rfl (ix_lit (by decide)) 1 (by decide) (v := f 1) rfl dX5_arrange_34 ?_
      refine lv_aload_n hx hb dX5_arrange_35 rfl (lv_at hl 2 rfl) ?_
      refine lv_iconst (v := 3) hx hb dX5_arrange_36 (by decide) ?_
      refine lv_iload_n hx hb dX5_arrange_37 rfl (lv_at hl 1 rfl) ?_
      refine lv_iadd hx hb dX5_arrange_38 ?_
      refine lv_eqi (v := 4) (by decide) ?_
      refine ld_l hx hb hK.1 hP 0 1 rfl rfl (ix_lit (by decide)) 4 (by decide) (v := f 4) rfl dX5_arrange_39 ?_
      refine lb_le (tgt := 78) hx hb dX5_arrange_40 rfl dX5_arrange_41 (by decide) (fun c_4 => ?_) (fun c_4 => ?_)
      · skip
        have he : z5_arrange f = f := by unfold z5_arrange; rw [if_pos c_1, if_neg c_3, if_pos c_4]
        exact rt_v (w1 := fun uu : Unit => [kJ h cJ 6 (z5_arrange f)]) hx hb hr hlk hS dX5_arrange_78 (()) trivial (by rw [he]; exact hP) (by rw [he]; exact hD)
      · skip
        refine lv_iload_n hx hb dX5_arrange_44 rfl (lv_at hl 1 rfl) ?_
        refine lv_iconst (v := 1) hx hb dX5_arrange_45 (by decide) ?_
        refine lv_iadd hx hb dX5_arrange_46 ?_
        refine lv_eqi (v := 2) (by decide) ?_
        refine lv_iload_n hx hb dX5_arrange_47 rfl (lv_at hl 0 rfl) ?_
        refine lv_iadd hx hb dX5_arrange_48 ?_
        refine lv_eqi (v := 2) (by decide) ?_
        refine lv_iconst (v := 3) hx hb dX5_arrange_49 (by decide) ?_
        refine lv_irem hx hb dX5_arrange_50 (by decide) ?_
        refine lv_eqi (v := 2) (by decide) ?_
        refine lv_istore_n (lv' := [(3, .int 2), (2, .int 0), (1, .int 1), (0, .ref h)]) hx hb dX5_arrange_51 rfl hl (by decide) rfl (fun ls hl => ?_)
        refine lv_aload_n hx hb dX5_arrange_52 rfl (lv_at hl 3 rfl) ?_
        refine lv_iload_n hx hb dX5_arrange_53 rfl (lv_at hl 0 rfl) ?_
        refine ld_l hx hb hK.1 hP 0 1 rfl rfl (ix_lit (by decide)) 2 (by decide) (v := f 2) rfl dX5_arrange_54 ?_
        refine lv_lstore (lv' := [(4, .long (f 2)), (3, .int 2), (2, .int 0), (1, .int 1), (0, .ref h)]) hx hb dX5_arrange_55 hl (by decide) rfl (fun ls hl => ?_)
        refine lv_aload_n hx hb dX5_arrange_57 rfl (lv_at hl 4 rfl) ?_
        refine lv_iload_n hx hb dX5_arrange_58 rfl (lv_at hl 1 rfl) ?_
        refine lv_aload_n hx hb dX5_arrange_59 rfl (lv_at hl 4 rfl) ?_
        refine lv_iconst (v := 3) hx hb dX5_arrange_60 (by decide) ?_
        refine lv_iload_n hx hb dX5_arrange_61 rfl (lv_at hl 1 rfl) ?_
        refine lv_iadd hx hb dX5_arrange_62 ?_
        refine lv_eqi (v := 5) (by decide) ?_
        refine ld_l hx hb hK.1 hP 0 1 rfl rfl (ix_lit (by decide)) 5 (by decide) (v := f 5) rfl dX5_arrange_63 ?_
        refine st_l hx hb hK.1 hP hD hS 0 1 rfl rfl (ix_lit (by decide)) 2 (by decide) dX5_arrange_64 (fun H locs hP hD hS => ?_)
        have hP : va_P D vwCl [kJ h cJ 6 (vp_updL f 2 (f 5))] H := hP
        have hD : va_D A [kJ h cJ 6 (vp_updL f 2 (f 5))] := hD
        refine lv_aload_n hx hb dX5_arrange_65 rfl (lv_at hl 4 rfl) ?_
        refine lv_iconst (v := 3) hx hb dX5_arrange_66 (by decide) ?_
        refine lv_iload_n hx hb dX5_arrange_67 rfl (lv_at hl 1 rfl) ?_
        refine lv_iadd hx hb dX5_arrange_68 ?_
        refine lv_eqi (v := 5) (by decide) ?_
        refine lv_lload hx hb dX5_arrange_69 (lv_at hl 0 rfl) ?_
        refine st_l hx hb hK.1 hP hD hS 0 1 rfl rfl (ix_lit (by decide)) 5 (by decide) dX5_arrange_71 (fun H locs hP hD hS => ?_)
        have hP : va_P D vwCl [kJ h cJ 6 (vp_updL (vp_updL f 2 (f 5)) 5 (f 2))] H := hP
        have hD : va_D A [kJ h cJ 6 (vp_updL (vp_updL f 2 (f 5)) 5 (f 2))] := hD
        refine lv_iinc (v := 1) (lv' := [(2, .int 1), (4, .long (f 2)), (3, .int 2), (1, .int 1), (0, .ref h)]) hx hb dX5_arrange_72 hl (k := 2) rfl (by decide) (by decide) rfl (fun ls hl => ?_)
        refine lv_goto (tgt := 27) hx hb dX5_arrange_75 (by decide) ?_
        refine lv_iload_n hx hb dX5_arrange_27 rfl (lv_at hl 0 rfl) ?_
        refine lv_iconst (v := 3) hx hb dX5_arrange_28 (by decide) ?_
        refine lv_icmp_ge (tgt := 78) hx hb dX5_arrange_29 (by decide) (fun h => absurd h (by decide)) (fun _ => ?_)
        refine lv_aload_n hx hb dX5_arrange_32 rfl (lv_at hl 4 rfl) ?_
        refine lv_iload_n hx hb dX5_arrange_33 rfl (lv_at hl 3 rfl) ?_
        refine ld_l hx hb hK.1 hP 0 1 rfl rfl (ix_lit (by decide)) 1 (by decide) (v := f 1) rfl dX5_arrange_34 ?_
        refine lv_aload_n hx hb dX5_arrange_35 rfl (lv_at hl 4 rfl) ?_
        refine lv_iconst (v := 3) hx hb dX5_arrange_36 (by decide) ?_
        refine lv_iload_n hx hb dX5_arrange_37 rfl (lv_at hl 3 rfl) ?_
        refine lv_iadd hx hb dX5_arrange_38 ?_
        refine lv_eqi (v := 4) (by decide) ?_
        refine ld_l hx hb hK.1 hP 0 1 rfl rfl (ix_lit (by decide)) 4 (by decide) (v := f 4) rfl dX5_arrange_39 ?_
        refine lb_le (tgt := 78) hx hb dX5_arrange_40 rfl dX5_arrange_41 (by decide) (fun h => absurd h c_4) (fun _ => ?_)
        refine lv_iload_n hx hb dX5_arrange_44 rfl (lv_at hl 3 rfl) ?_
        refine lv_iconst (v := 1) hx hb dX5_arrange_45 (by decide) ?_
        refine lv_iadd hx hb dX5_arrange_46 ?_
        refine lv_eqi (v := 2) (by decide) ?_
        refine lv_iload_n hx hb dX5_arrange_47 rfl (lv_at hl 0 rfl) ?_
        refine lv_iadd hx hb dX5_arrange_48 ?_
        refine lv_eqi (v := 3) (by decide) ?_
        refine lv_iconst (v := 3) hx hb dX5_arrange_49 (by decide) ?_
        refine lv_irem hx hb dX5_arrange_50 (by decide) ?_
        refine lv_eqi (v := 0) (by decide) ?_
        refine lv_istore_n (lv' := [(3, .int 0), (2, .int 1), (4, .long (f 2)), (1, .int 1), (0, .ref h)]) hx hb dX5_arrange_51 rfl hl (by decide) rfl (fun ls hl => ?_)
        refine lv_aload_n hx hb dX5_arrange_52 rfl (lv_at hl 4 rfl) ?_
        refine lv_iload_n hx hb dX5_arrange_53 rfl (lv_at hl 0 rfl) ?_
        refine ld_l hx hb hK.1 hP 0 1 rfl rfl (ix_lit (by decide)) 0 (by decide) (v := f 0) rfl dX5_arrange_54 ?_
        refine lv_lstore (lv' := [(4, .long (f 0)), (3, .int 0), (2, .int 1), (1, .int 1), (0, .ref h)]) hx hb dX5_arrange_55 hl (by decide) rfl (fun ls hl => ?_)
        refine lv_aload_n hx hb dX5_arrange_57 rfl (lv_at hl 4 rfl) ?_
        refine lv_iload_n hx hb dX5_arrange_58 rfl (lv_at hl 1 rfl) ?_
        refine lv_aload_n hx hb dX5_arrange_59 rfl (lv_at hl 4 rfl) ?_
        refine lv_iconst (v := 3) hx hb dX5_arrange_60 (by decide) ?_
        refine lv_iload_n hx hb dX5_arrange_61 rfl (lv_at hl 1 rfl) ?_
        refine lv_iadd hx hb dX5_arrange_62 ?_
        refine lv_eqi (v := 3) (by decide) ?_
        refine ld_l hx hb hK.1 hP 0 1 rfl rfl (ix_lit (by decide)) 3 (by decide) (v := f 3) rfl dX5_arrange_63 ?_
        refine st_l hx hb hK.1 hP hD hS 0 1 rfl rfl (ix_lit (by decide)) 0 (by decide) dX5_arrange_64 (fun H locs hP hD hS => ?_)
        have hP : va_P D vwCl [kJ h cJ 6 (vp_updL (vp_updL (vp_updL f 2 (f 5)) 5 (f 2)) 0 (f 3))] H := hP
        have hD : va_D A [kJ h cJ 6 (vp_updL (vp_updL (vp_updL f 2 (f 5)) 5 (f 2)) 0 (f 3))] := hD
        refine lv_aload_n hx hb dX5_arrange_65 rfl (lv_at hl 4 rfl) ?_
        refine lv_iconst (v := 3) hx hb dX5_arrange_66 (by decide) ?_
        refine lv_iload_n hx hb dX5_arrange_67 rfl (lv_at hl 1 rfl) ?_
        refine lv_iadd hx hb dX5_arrange_68 ?_
        refine lv_eqi (v := 3) (by decide) ?_
        refine lv_lload hx hb dX5_arrange_69 (lv_at hl 0 rfl) ?_
        refine st_l hx hb hK.1 hP hD hS 0 1 rfl rfl (ix_lit (by decide)) 3 (by decide) dX5_arrange_71 (fun H locs hP hD hS => ?_)
        have hP : va_P D vwCl [kJ h cJ 6 (vp_updL (vp_updL (vp_updL (vp_updL f 2 (f 5)) 5 (f 2)) 0 (f 3)) 3 (f 0))] H := hP
        have hD : va_D A [kJ h cJ 6 (vp_updL (vp_updL (vp_updL (vp_updL f 2 (f 5)) 5 (f 2)) 0 (f 3)) 3 (f 0))] := hD
        refine lv_iinc (v := 2) (lv' := [(2, .int 2), (4, .long (f 0)), (3, .int 0), (1, .int 1), (0, .ref h)]) hx hb dX5_arrange_72 hl (k := 2) rfl (by decide) (by decide) rfl (fun ls hl => ?_)
        refine lv_goto (tgt := 27) hx hb dX5_arrange_75 (by decide) ?_
        refine lv_iload_n hx hb dX5_arrange_27 rfl (lv_at hl 0 rfl) ?_
        refine lv_iconst (v := 3) hx hb dX5_arrange_28 (by decide) ?_
        refine lv_icmp_ge (tgt := 78) hx hb dX5_arrange_29 (by decide) (fun h => absurd h (by decide)) (fun _ => ?_)
        refine lv_aload_n hx hb dX5_arrange_32 rfl (lv_at hl 4 rfl) ?_
        refine lv_iload_n hx hb dX5_arrange_33 rfl (lv_at hl 3 rfl) ?_
        refine ld_l hx hb hK.1 hP 0 1 rfl rfl (ix_lit (by decide)) 1 (by decide) (v := f 1) rfl dX5_arrange_34 ?_
        refine lv_aload_n hx hb dX5_arrange_35 rfl (lv_at hl 4 rfl) ?_
        refine lv_iconst (v := 3) hx hb dX5_arrange_36 (by decide) ?_
        refine lv_iload_n hx hb dX5_arrange_37 rfl (lv_at hl 3 rfl) ?_
        refine lv_iadd hx hb dX5_arrange_38 ?_
        refine lv_eqi (v := 4) (by decide) ?_
        refine ld_l hx hb hK.1 hP 0 1 rfl rfl (ix_lit (by decide)) 4 (by decide) (v := f 4) rfl dX5_arrange_39 ?_
        refine lb_le (tgt := 78) hx hb dX5_arrange_40 rfl dX5_arrange_41 (by decide) (fun h => absurd h c_4) (fun _ => ?_)
        refine lv_iload_n hx hb dX5_arrange_44 rfl (lv_at hl 3 rfl) ?_
        refine lv_iconst (v := 1) hx hb dX5_arrange_45 (by decide) ?_
        refine lv_iadd hx hb dX5_arrange_46 ?_
        refine lv_eqi (v := 2) (by decide) ?_
        refine lv_iload_n hx hb dX5_arrange_47 rfl (lv_at hl 0 rfl) ?_
        refine lv_iadd hx hb dX5_arrange_48 ?_
        refine lv_eqi (v := 4) (by decide) ?_
        refine lv_iconst (v := 3) hx hb dX5_arrange_49 (by decide) ?_
        refine lv_irem hx hb dX5_arrange_50 (by decide) ?_
        refine lv_eqi (v := 1) (by decide) ?_
        refine lv_istore_n (lv' := [(3, .int 1), (2, .int 2), (4, .long (f 0)), (1, .int 1), (0, .ref h)]) hx hb dX5_arrange_51 rfl hl (by decide) rfl (fun ls hl => ?_)
        refine lv_aload_n hx hb dX5_arrange_52 rfl (lv_at hl 4 rfl) ?_
        refine lv_iload_n hx hb dX5_arrange_53 rfl (lv_at hl 0 rfl) ?_
        refine ld_l hx hb hK.1 hP 0 1 rfl rfl (ix_lit (by decide)) 1 (by decide) (v := f 1) rfl dX5_arrange_54 ?_
        refine lv_lstore (lv' := [(4, .long (f 1)), (3, .int 1), (2, .int 2), (1, .int 1), (0, .ref h)]) hx hb dX5_arrange_55 hl (by decide) rfl (fun ls hl => ?_)
        refine lv_aload_n hx hb dX5_arrange_57 rfl (lv_at hl 4 rfl) ?_
        refine lv_iload_n hx hb dX5_arrange_58 rfl (lv_at hl 1 rfl) ?_
        refine lv_aload_n hx hb dX5_arrange_59 rfl (lv_at hl 4 rfl) ?_
        refine lv_iconst (v := 3) hx hb dX5_arrange_60 (by decide) ?_
        refine lv_iload_n hx hb dX5_arrange_61 rfl (lv_at hl 1 rfl) ?_
        refine lv_iadd hx hb dX5_arrange_62 ?_
        refine lv_eqi (v := 4) (by decide) ?_
        refine ld_l hx hb hK.1 hP 0 1 rfl rfl (ix_lit (by decide)) 4 (by decide) (v := f 4) rfl dX5_arrange_63 ?_
        refine st_l hx hb hK.1 hP hD hS 0 1 rfl rfl (ix_lit (by decide)) 1 (by decide) dX5_arrange_64 (fun H locs hP hD hS => ?_)
        have hP : va_P D vwCl [kJ h cJ 6 (vp_updL (vp_updL (vp_updL (vp_updL (vp_updL f 2 (f 5)) 5 (f 2)) 0 (f 3)) 3 (f 0)) 1 (f 4))] H := hP
        have hD : va_D A [kJ h cJ 6 (vp_updL (vp_updL (vp_updL (vp_updL (vp_updL f 2 (f 5)) 5 (f 2)) 0 (f 3)) 3 (f 0)) 1 (f 4))] := hD
        refine lv_aload_n hx hb dX5_arrange_65 rfl (lv_at hl 4 rfl) ?_
        refine lv_iconst (v := 3) hx hb dX5_arrange_66 (by decide) ?_
        refine lv_iload_n hx hb dX5_arrange_67 rfl (lv_at hl 1 rfl) ?_
        refine lv_iadd hx hb dX5_arrange_68 ?_
        refine lv_eqi (v := 4) (by decide) ?_
        refine lv_lload hx hb dX5_arrange_69 (lv_at hl 0 rfl) ?_
        refine st_l hx hb hK.1 hP hD hS 0 1 rfl rfl (ix_lit (by decide)) 4 (by decide) dX5_arrange_71 (fun H locs hP hD hS => ?_)
        have hP : va_P D vwCl [kJ h cJ 6 (vp_updL (vp_updL (vp_updL (vp_updL (vp_updL (vp_updL f 2 (f 5)) 5 (f 2)) 0 (f 3)) 3 (f 0)) 1 (f 4)) 4 (f 1))] H := hP
        have hD : va_D A [kJ h cJ 6 (vp_updL (vp_updL (vp_updL (vp_updL (vp_updL (vp_updL f 2 (f 5)) 5 (f 2)) 0 (f 3)) 3 (f 0)) 1 (f 4)) 4 (f 1))] := hD
        refine lv_iinc (v := 3) (lv' := [(2, .int 3), (4, .long (f 1)), (3, .int 1), (1, .int 1), (0, .ref h)]) hx hb dX5_arrange_72 hl (k := 2) rfl (by decide) (by decide) rfl (fun ls hl => ?_)
        refine lv_goto (tgt := 27) hx hb dX5_arrange_75 (by decide) ?_
        refine lv_iload_n hx hb dX5_arrange_27 rfl (lv_at hl 0 rfl) ?_
        refine lv_iconst (v := 3) hx hb dX5_arrange_28 (by decide) ?_
        refine lv_icmp_ge (tgt := 78) hx hb dX5_arrange_29 (by decide) (fun _ => ?_) (fun h => absurd (by decide) h)
        have he : z5_arrange f = vp_updL (vp_updL (vp_updL (vp_updL (vp_updL (vp_updL f 2 (f 5)) 5 (f 2)) 0 (f 3)) 3 (f 0)) 1 (f 4)) 4 (f 1) := by unfold z5_arrange; rw [if_pos c_1, if_neg c_3, if_neg c_4]
        exact rt_v (w1 := fun uu : Unit => [kJ h cJ 6 (z5_arrange f)]) hx hb hr hlk hS dX5_arrange_78 (()) trivial (by rw [he]; exact hP) (by rw [he]; exact hD)
    · skip
      refine lv_iinc (v := 2) (lv' := [(1, .int 2), (0, .ref h)]) hx hb dX5_arrange_19 hl (k := 0) rfl (by decide) (by decide) rfl (fun ls hl => ?_)
      refine lv_goto (tgt := 2) hx hb dX5_arrange_22 (by decide) ?_
      refine lv_iload_n hx hb dX5_arrange_2 rfl (lv_at hl 0 rfl) ?_
      refine lv_iconst (v := 2) hx hb dX5_arrange_3 (by decide) ?_
      refine lv_icmp_ge (tgt := 25) hx hb dX5_arrange_4 (by decide) (fun _ => ?_) (fun h => absurd (by decide) h)
      refine lv_iconst (v := 0) hx hb dX5_arrange_25 (by decide) ?_
      refine lv_istore_n (lv' := [(2, .int 0), (1, .int 2), (0, .ref h)]) hx hb dX5_arrange_26 rfl hl (by decide) rfl (fun ls hl => ?_)
      refine lv_iload_n hx hb dX5_arrange_27 rfl (lv_at hl 0 rfl) ?_
      refine lv_iconst (v := 3) hx hb dX5_arrange_28 (by decide) ?_
      refine lv_icmp_ge (tgt := 78) hx hb dX5_arrange_29 (by decide) (fun h => absurd h (by decide)) (fun _ => ?_)
      refine lv_aload_n hx hb dX5_arrange_32 rfl (lv_at hl 2 rfl) ?_
      refine lv_iload_n hx hb dX5_arrange_33 rfl (lv_at hl 1 rfl) ?_
      refine ld_l hx hb hK.1 hP 0 1 rfl rfl (ix_lit (by decide)) 2 (by decide) (v := f 2) rfl dX5_arrange_34 ?_
      refine lv_aload_n hx hb dX5_arrange_35 rfl (lv_at hl 2 rfl) ?_
      refine lv_iconst (v := 3) hx hb dX5_arrange_36 (by decide) ?_
      refine lv_iload_n hx hb dX5_arrange_37 rfl (lv_at hl 1 rfl) ?_
      refine lv_iadd hx hb dX5_arrange_38 ?_
      refine lv_eqi (v := 5) (by decide) ?_
      refine ld_l hx hb hK.1 hP 0 1 rfl rfl (ix_lit (by decide)) 5 (by decide) (v := f 5) rfl dX5_arrange_39 ?_
      refine lb_le (tgt := 78) hx hb dX5_arrange_40 rfl dX5_arrange_41 (by decide) (fun c_5 => ?_) (fun c_5 => ?_)
      · skip
        have he : z5_arrange f = f := by unfold z5_arrange; rw [if_pos c_1, if_pos c_3, if_pos c_5]
        exact rt_v (w1 := fun uu : Unit => [kJ h cJ 6 (z5_arrange f)]) hx hb hr hlk hS dX5_arrange_78 (()) trivial (by rw [he]; exact hP) (by rw [he]; exact hD)
      · skip
        refine lv_iload_n hx hb dX5_arrange_44 rfl (lv_at hl 1 rfl) ?_
        refine lv_iconst (v := 1) hx hb dX5_arrange_45 (by decide) ?_
        refine lv_iadd hx hb dX5_arrange_46 ?_
        refine lv_eqi (v := 3) (by decide) ?_
        refine lv_iload_n hx hb dX5_arrange_47 rfl (lv_at hl 0 rfl) ?_
        refine lv_iadd hx hb dX5_arrange_48 ?_
        refine lv_eqi (v := 3) (by decide) ?_
        refine lv_iconst (v := 3) hx hb dX5_arrange_49 (by decide) ?_
        refine lv_irem hx hb dX5_arrange_50 (by decide) ?_
        refine lv_eqi (v := 0) (by decide) ?_
        refine lv_istore_n (lv' := [(3, .int 0), (2, .int 0), (1, .int 2), (0, .ref h)]) hx hb dX5_arrange_51 rfl hl (by decide) rfl (fun ls hl => ?_)
        refine lv_aload_n hx hb dX5_arrange_52 rfl (lv_at hl 3 rfl) ?_
        refine lv_iload_n hx hb dX5_arrange_53 rfl (lv_at hl 0 rfl) ?_
        refine ld_l hx hb hK.1 hP 0 1 rfl rfl (ix_lit (by decide)) 0 (by decide) (v := f 0) rfl dX5_arrange_54 ?_
        refine lv_lstore (lv' := [(4, .long (f 0)), (3, .int 0), (2, .int 0), (1, .int 2), (0, .ref h)]) hx hb dX5_arrange_55 hl (by decide) rfl (fun ls hl => ?_)
        refine lv_aload_n hx hb dX5_arrange_57 rfl (lv_at hl 4 rfl) ?_
        refine lv_iload_n hx hb dX5_arrange_58 rfl (lv_at hl 1 rfl) ?_
        refine lv_aload_n hx hb dX5_arrange_59 rfl (lv_at hl 4 rfl) ?_
        refine lv_iconst (v := 3) hx hb dX5_arrange_60 (by decide) ?_
        refine lv_iload_n hx hb dX5_arrange_61 rfl (lv_at hl 1 rfl) ?_
        refine lv_iadd hx hb dX5_arrange_62 ?_
        refine lv_eqi (v := 3) (by decide) ?_
        refine ld_l hx hb hK.1 hP 0 1 rfl rfl (ix_lit (by decide)) 3 (by decide) (v := f 3) rfl dX5_arrange_63 ?_
        refine st_l hx hb hK.1 hP hD hS 0 1 rfl rfl (ix_lit (by decide)) 0 (by decide) dX5_arrange_64 (fun H locs hP hD hS => ?_)
        have hP : va_P D vwCl [kJ h cJ 6 (vp_updL f 0 (f 3))] H := hP
        have hD : va_D A [kJ h cJ 6 (vp_updL f 0 (f 3))] := hD
        refine lv_aload_n hx hb dX5_arrange_65 rfl (lv_at hl 4 rfl) ?_
        refine lv_iconst (v := 3) hx hb dX5_arrange_66 (by decide) ?_
        refine lv_iload_n hx hb dX5_arrange_67 rfl (lv_at hl 1 rfl) ?_
        refine lv_iadd hx hb dX5_arrange_68 ?_
        refine lv_eqi (v := 3) (by decide) ?_
        refine lv_lload hx hb dX5_arrange_69 (lv_at hl 0 rfl) ?_
        refine st_l hx hb hK.1 hP hD hS 0 1 rfl rfl (ix_lit (by decide)) 3 (by decide) dX5_arrange_71 (fun H locs hP hD hS => ?_)
        have hP : va_P D vwCl [kJ h cJ 6 (vp_updL (vp_updL f 0 (f 3)) 3 (f 0))] H := hP
        have hD : va_D A [kJ h cJ 6 (vp_updL (vp_updL f 0 (f 3)) 3 (f 0))] := hD
        refine lv_iinc (v := 1) (lv' := [(2, .int 1), (4, .long (f 0)), (3, .int 0), (1, .int 2), (0, .ref h)]) hx hb dX5_arrange_72 hl (k := 2) rfl (by decide) (by decide) rfl (fun ls hl => ?_)
        refine lv_goto (tgt := 27) hx hb dX5_arrange_75 (by decide) ?_
        refine lv_iload_n hx hb dX5_arrange_27 rfl (lv_at hl 0 rfl) ?_
        refine lv_iconst (v := 3) hx hb dX5_arrange_28 (by decide) ?_
        refine lv_icmp_ge (tgt := 78) hx hb dX5_arrange_29 (by decide) (fun h => absurd h (by decide)) (fun _ => ?_)
        refine lv_aload_n hx hb dX5_arrange_32 rfl (lv_at hl 4 rfl) ?_
        refine lv_iload_n hx hb dX5_arrange_33 rfl (lv_at hl 3 rfl) ?_
        refine ld_l hx hb hK.1 hP 0 1 rfl rfl (ix_lit (by decide)) 2 (by decide) (v := f 2) rfl dX5_arrange_34 ?_
        refine lv_aload_n hx hb dX5_arrange_35 rfl (lv_at hl 4 rfl) ?_
        refine lv_iconst (v := 3) hx hb dX5_arrange_36 (by decide) ?_
        refine lv_iload_n hx hb dX5_arrange_37 rfl (lv_at hl 3 rfl) ?_
        refine lv_iadd hx hb dX5_arrange_38 ?_
        refine lv_eqi (v := 5) (by decide) ?_
        refine ld_l hx hb hK.1 hP 0 1 rfl rfl (ix_lit (by decide)) 5 (by decide) (v := f 5) rfl dX5_arrange_39 ?_
        refine lb_le (tgt := 78) hx hb dX5_arrange_40 rfl dX5_arrange_41 (by decide) (fun h => absurd h c_5) (fun _ => ?_)
        refine lv_iload_n hx hb dX5_arrange_44 rfl (lv_at hl 3 rfl) ?_
        refine lv_iconst (v := 1) hx hb dX5_arrange_45 (by decide) ?_
        refine lv_iadd hx hb dX5_arrange_46 ?_
        refine lv_eqi (v := 3) (by decide) ?_
        refine lv_iload_n hx hb dX5_arrange_47 rfl (lv_at hl 0 rfl) ?_
        refine lv_iadd hx hb dX5_arrange_48 ?_
        refine lv_eqi (v := 4) (by decide) ?_
        refine lv_iconst (v := 3) hx hb dX5_arrange_49 (by decide) ?_
        refine lv_irem hx hb dX5_arrange_50 (by decide) ?_
        refine lv_eqi (v := 1) (by decide) ?_
        refine lv_istore_n (lv' := [(3, .int 1), (2, .int 1), (4, .long (f 0)), (1, .int 2), (0, .ref h)]) hx hb dX5_arrange_51 rfl hl (by decide) rfl (fun ls hl => ?_)
        refine lv_aload_n hx hb dX5_arrange_52 rfl (lv_at hl 4 rfl) ?_
        refine lv_iload_n hx hb dX5_arrange_53 rfl (lv_at hl 0 rfl) ?_
        refine ld_l hx hb hK.1 hP 0 1 rfl rfl (ix_lit (by decide)) 1 (by decide) (v := f 1) rfl dX5_arrange_54 ?_
        refine lv_lstore (lv' := [(4, .long (f 1)), (3, .int 1), (2, .int 1), (1, .int 2), (0, .ref h)]) hx hb dX5_arrange_55 hl (by decide) rfl (fun ls hl => ?_)
        refine lv_aload_n hx hb dX5_arrange_57 rfl (lv_at hl 4 rfl) ?_
        refine lv_iload_n hx hb dX5_arrange_58 rfl (lv_at hl 1 rfl) ?_
        refine lv_aload_n hx hb dX5_arrange_59 rfl (lv_at hl 4 rfl) ?_
        refine lv_iconst (v := 3) hx hb dX5_arrange_60 (by decide) ?_
        refine lv_iload_n hx hb dX5_arrange_61 rfl (lv_at hl 1 rfl) ?_
        refine lv_iadd hx hb dX5_arrange_62 ?_
        refine lv_eqi (v := 4) (by decide) ?_
        refine ld_l hx hb hK.1 hP 0 1 rfl rfl (ix_lit (by decide)) 4 (by decide) (v := f 4) rfl dX5_arrange_63 ?_
        refine st_l hx hb hK.1 hP hD hS 0 1 rfl rfl (ix_lit (by decide)) 1 (by decide) dX5_arrange_64 (fun H locs hP hD hS => ?_)
        have hP : va_P D vwCl [kJ h cJ 6 (vp_updL (vp_updL (vp_updL f 0 (f 3)) 3 (f 0)) 1 (f 4))] H := hP
        have hD : va_D A [kJ h cJ 6 (vp_updL (vp_updL (vp_updL f 0 (f 3)) 3 (f 0)) 1 (f 4))] := hD
        refine lv_aload_n hx hb dX5_arrange_65 rfl (lv_at hl 4 rfl) ?_
        refine lv_iconst (v := 3) hx hb dX5_arrange_66 (by decide) ?_
        refine lv_iload_n hx hb dX5_arrange_67 rfl (lv_at hl 1 rfl) ?_
        refine lv_iadd hx hb dX5_arrange_68 ?_
        refine lv_eqi (v := 4) (by decide) ?_
        refine lv_lload hx hb dX5_arrange_69 (lv_at hl 0 rfl) ?_
        refine st_l hx hb hK.1 hP hD hS 0 1 rfl rfl (ix_lit (by decide)) 4 (by decide) dX5_arrange_71 (fun H locs hP hD hS => ?_)
        have hP : va_P D vwCl [kJ h cJ 6 (vp_updL (vp_updL (vp_updL (vp_updL f 0 (f 3)) 3 (f 0)) 1 (f 4)) 4 (f 1))] H := hP
        have hD : va_D A [kJ h cJ 6 (vp_updL (vp_updL (vp_updL (vp_updL f 0 (f 3)) 3 (f 0)) 1 (f 4)) 4 (f 1))] := hD
        refine lv_iinc (v := 2) (lv' := [(2, .int 2), (4, .long (f 1)), (3, .int 1), (1, .int 2), (0, .ref h)]) hx hb dX5_arrange_72 hl (k := 2) rfl (by decide) (by decide) rfl (fun ls hl => ?_)
        refine lv_goto (tgt := 27) hx hb dX5_arrange_75 (by decide) ?_
        refine lv_iload_n hx hb dX5_arrange_27 rfl (lv_at hl 0 rfl) ?_
        refine lv_iconst (v := 3) hx hb dX5_arrange_28 (by decide) ?_
        refine lv_icmp_ge (tgt := 78) hx hb dX5_arrange_29 (by decide) (fun h => absurd h (by decide)) (fun _ => ?_)
        refine lv_aload_n hx hb dX5_arrange_32 rfl (lv_at hl 4 rfl) ?_
        refine lv_iload_n hx hb dX5_arrange_33 rfl (lv_at hl 3 rfl) ?_
        refine ld_l hx hb hK.1 hP 0 1 rfl rfl (ix_lit (by decide)) 2 (by decide) (v := f 2) rfl dX5_arrange_34 ?_
        refine lv_aload_n hx hb dX5_arrange_35 rfl (lv_at hl 4 rfl) ?_
        refine lv_iconst (v := 3) hx hb dX5_arrange_36 (by decide) ?_
        refine lv_iload_n hx hb dX5_arrange_37 rfl (lv_at hl 3 rfl) ?_
        refine lv_iadd hx hb dX5_arrange_38 ?_
        refine lv_eqi (v := 5) (by decide) ?_
        refine ld_l hx hb hK.1 hP 0 1 rfl rfl (ix_lit (by decide)) 5 (by decide) (v := f 5) rfl dX5_arrange_39 ?_
        refine lb_le (tgt := 78) hx hb dX5_arrange_40 rfl dX5_arrange_41 (by decide) (fun h => absurd h c_5) (fun _ => ?_)
        refine lv_iload_n hx hb dX5_arrange_44 rfl (lv_at hl 3 rfl) ?_
        refine lv_iconst (v := 1) hx hb dX5_arrange_45 (by decide) ?_
        refine lv_iadd hx hb dX5_arrange_46 ?_
        refine lv_eqi (v := 3) (by decide) ?_
        refine lv_iload_n hx hb dX5_arrange_47 rfl (lv_at hl 0 rfl) ?_
        refine lv_iadd hx hb dX5_arrange_48 ?_
        refine lv_eqi (v := 5) (by decide) ?_
        refine lv_iconst (v := 3) hx hb dX5_arrange_49 (by decide) ?_
        refine lv_irem hx hb dX5_arrange_50 (by decide) ?_
        refine lv_eqi (v := 2) (by decide) ?_
        refine lv_istore_n (lv' := [(3, .int 2), (2, .int 2), (4, .long (f 1)), (1, .int 2), (0, .ref h)]) hx hb dX5_arrange_51 rfl hl (by decide) rfl (fun ls hl => ?_)
        refine lv_aload_n hx hb dX5_arrange_52 rfl (lv_at hl 4 rfl) ?_
        refine lv_iload_n hx hb dX5_arrange_53 rfl (lv_at hl 0 rfl) ?_
        refine ld_l hx hb hK.1 hP 0 1 rfl rfl (ix_lit (by decide)) 2 (by decide) (v := f 2) rfl dX5_arrange_54 ?_
        refine lv_lstore (lv' := [(4, .long (f 2)), (3, .int 2), (2, .int 2), (1, .int 2), (0, .ref h)]) hx hb dX5_arrange_55 hl (by decide) rfl (fun ls hl => ?_)
        refine lv_aload_n hx hb dX5_arrange_57 rfl (lv_at hl 4 rfl) ?_
        refine lv_iload_n hx hb dX5_arrange_58 rfl (lv_at hl 1 rfl) ?_
        refine lv_aload_n hx hb dX5_arrange_59 rfl (lv_at hl 4 rfl) ?_
        refine lv_iconst (v := 3) hx hb dX5_arrange_60 (by decide) ?_
        refine lv_iload_n hx hb dX5_arrange_61 rfl (lv_at hl 1 rfl) ?_
        refine lv_iadd hx hb dX5_arrange_62 ?_
        refine lv_eqi (v := 5) (by decide) ?_
        refine ld_l hx hb hK.1 hP 0 1 rfl rfl (ix_lit (by decide)) 5 (by decide) (v := f 5) rfl dX5_arrange_63 ?_
        refine st_l hx hb hK.1 hP hD hS 0 1 rfl rfl (ix_lit (by decide)) 2 (by decide) dX5_arrange_64 (fun H locs hP hD hS => ?_)
        have hP : va_P D vwCl [kJ h cJ 6 (vp_updL (vp_updL (vp_updL (vp_updL (vp_updL f 0 (f 3)) 3 (f 0)) 1 (f 4)) 4 (f 1)) 2 (f 5))] H := hP
        have hD : va_D A [kJ h cJ 6 (vp_updL (vp_updL (vp_updL (vp_updL (vp_updL f 0 (f 3)) 3 (f 0)) 1 (f 4)) 4 (f 1)) 2 (f 5))] := hD
        refine lv_aload_n hx hb dX5_arrange_65 rfl (lv_at hl 4 rfl) ?_
        refine lv_iconst (v := 3) hx hb dX5_arrange_66 (by decide) ?_
        refine lv_iload_n hx hb dX5_arrange_67 rfl (lv_at hl 1 rfl) ?_
        refine lv_iadd hx hb dX5_arrange_68 ?_
        refine lv_eqi (v := 5) (by decide) ?_
        refine lv_lload hx hb dX5_arrange_69 (lv_at hl 0 rfl) ?_
        refine st_l hx hb hK.1 hP hD hS 0 1 rfl rfl (ix_lit (by decide)) 5 (by decide) dX5_arrange_71 (fun H locs hP hD hS => ?_)
        have hP : va_P D vwCl [kJ h cJ 6 (vp_updL (vp_updL (vp_updL (vp_updL (vp_updL (vp_updL f 0 (f 3)) 3 (f 0)) 1 (f 4)) 4 (f 1)) 2 (f 5)) 5 (f 2))] H := hP
        have hD : va_D A [kJ h cJ 6 (vp_updL (vp_updL (vp_updL (vp_updL (vp_updL (vp_updL f 0 (f 3)) 3 (f 0)) 1 (f 4)) 4 (f 1)) 2 (f 5)) 5 (f 2))] := hD
        refine lv_iinc (v := 3) (lv' := [(2, .int 3), (4, .long (f 2)), (3, .int 2), (1, .int 2), (0, .ref h)]) hx hb dX5_arrange_72 hl (k := 2) rfl (by decide) (by decide) rfl (fun ls hl => ?_)
        refine lv_goto (tgt := 27) hx hb dX5_arrange_75 (by decide) ?_
        refine lv_iload_n hx hb dX5_arrange_27 rfl (lv_at hl 0 rfl) ?_
        refine lv_iconst (v := 3) hx hb dX5_arrange_28 (by decide) ?_
        refine lv_icmp_ge (tgt := 78) hx hb dX5_arrange_29 (by decide) (fun _ => ?_) (fun h => absurd (by decide) h)
        have he : z5_arrange f = vp_updL (vp_updL (vp_updL (vp_updL (vp_updL (vp_updL f 0 (f 3)) 3 (f 0)) 1 (f 4)) 4 (f 1)) 2 (f 5)) 5 (f 2) := by unfold z5_arrange; rw [if_pos c_1, if_pos c_3, if_neg c_5]
        exact rt_v (w1 := fun uu : Unit => [kJ h cJ 6 (z5_arrange f)]) hx hb hr hlk hS dX5_arrange_78 (()) trivial (by rw [he]; exact hP) (by rw [he]; exact hD)
def z5_putCrossing_0_v1 (fg : Nat → Int64) (fh : Nat → Int64) (fi : Nat → Int64) (u : Int64) (v : Int64) : Nat → Int64 := (z5_norm_3_3 (vp_updL (vp_updL (vp_updL fi 0 (((u / (z5_common u v)) * (fg 0)) + ((v / (z5_common u v)) * (fh 0)))) 1 (((u / (z5_common u v)) * (fg 1)) + ((v / (z5_common u v)) * (fh 1)))) 2 (((u / (z5_common u v)) * (fg 2)) + ((v / (z5_common u v)) * (fh 2))))).2
def z5_putCrossing_0_v2 (fg : Nat → Int64) (fh : Nat → Int64) (fi : Nat → Int64) (u : Int64) (v : Int64) : Int32 := (z5_norm_3_3 (vp_updL (vp_updL (vp_updL fi 0 (((u / (z5_common u v)) * (fg 0)) + ((v / (z5_common u v)) * (fh 0)))) 1 (((u / (z5_common u v)) * (fg 1)) + ((v / (z5_common u v)) * (fh 1)))) 2 (((u / (z5_common u v)) * (fg 2)) + ((v / (z5_common u v)) * (fh 2))))).1
def z5_putCrossing_0_f1 (fk : Nat → Int64) (fg : Nat → Int64) (fh : Nat → Int64) (fi : Nat → Int64) (u : Int64) (v : Int64) : Nat → Int64 := vp_updL (vp_updL (vp_updL fk 0 ((z5_putCrossing_0_v1 fg fh fi u v) 0)) 1 ((z5_putCrossing_0_v1 fg fh fi u v) 1)) 2 ((z5_putCrossing_0_v1 fg fh fi u v) 2)
def z5_putCrossing_0_f4 (fg : Nat → Int64) (fh : Nat → Int64) (fi : Nat → Int64) (u : Int64) (v : Int64) : Nat → Int64 := z5_putCrossing_0_v1 fg fh fi u v
set_option maxHeartbeats 4000000 in
set_option maxRecDepth 100000 in
/-- X5.putCrossing -/
theorem c_X5_putCrossing_0 (l : Launch) (D : va_G) (cI cJ : ClassId) (o : Nat) (mP : Nat) (mL : Nat) (mC : Nat) (mN : Nat) (mF : Nat) (mR : Nat) (mD : Nat) (mV : Nat) (mX : Nat) (mA : Nat) (mK : Nat) (mT : Nat) (mU : Nat) (mH : Nat) (mI : Nat) (cm : Int32) (pm : Int32) (fk : Nat → Int64) (fg : Nat → Int64) (fh : Nat → Int64) (fi : Nat → Int64) (u : Int64) (v : Int64) (hg : ¬ z5_common u v = 0) : mw_C l yX5_putCrossing wsX5_putCrossing ({ frames := 2, cells := 0, slots := 0, locals := 54 }) D cI cJ [.ref o, .int 0, .long u, .long v] [kM o mP mL mC mN mF mR mD mV mX mA mK cm mT pm mU mH mI, kJ mK cJ 6 fk, kJ mU cJ 3 fg, kJ mH cJ 3 fh, kJ mI cJ 3 fi] (qe_v (fun _ : Unit => True) (fun uu => [kM o mP mL mC mN mF mR mD mV mX mA mK cm mT pm mU mH mI, kJ mK cJ 6 (z5_putCrossing_0_f1 fk fg fh fi u v), kJ mU cJ 3 fg, kJ mH cJ 3 fh, kJ mI cJ 3 (z5_putCrossing_0_f4 fg fh fi u v)])) := by
  refine mw_in (cc := cX5_putCrossing) (lv := [(0, .ref o), (1, .int 0), (2, .long u), (4, .long v)]) (by decide) rfl (Nat.le_of_ble_eq_true rfl) rfl ?_
  intro pG eG sG mG below meth cG ls A hx hb hr hml hown hts hlk hin hP hK hD hA hS hl
  have hown : sG.vm.findClass RX5 = some mG.cls := hown
  have k_1 := hts (.fieldLink RX5 53 "ConicRowsModel" "one" "[J") (by decide +kernel)
  have k_2 : ∀ w ∈ wsX50, w ∈ wsX5_putCrossing := by decide +kernel
  have k_3 := hts (.fieldLink RX5 47 "ConicRowsModel" "first" "[J") (by decide +kernel)
  have k_4 := hts (.fieldLink RX5 50 "ConicRowsModel" "second" "[J") (by decide +kernel)
  have k_5 := hts (.fieldLink RX5 41 "ConicRowsModel" "crossings" "[J") (by decide +kernel)
  refine lv_lload_n hx hb dX5_putCrossing_0 rfl (lv_at hl 2 rfl) ?_
  refine lv_lload hx hb dX5_putCrossing_1 (lv_at hl 3 rfl) ?_
  have hPc := hP.sub (ws' := []) [] rfl
  refine cr_l (va_runS (As := [.long u, .long v]) (rest := []) ⟨hx, hb, hml, hown, hts⟩ (c_X5_common l D cI cJ u v) (va_cwS 2 hts gX5_putCrossing_X5_common rfl rfl rfl (by decide +kernel) ⟨Nat.le_of_ble_eq_true rfl, Nat.le_of_ble_eq_true rfl⟩) ⟨gd_blR, gd_prR hPc hK⟩ rfl rfl hl.1 rfl (lv_room (Nat.le_of_ble_eq_true rfl)) dX5_putCrossing_3 ⟨Nat.zero_le _, Nat.zero_le _⟩) (fun r_3 hw => ?_)
  subst hw
  clear hPc
  refine lv_lstore (lv' := [(6, .long (z5_common u v)), (0, .ref o), (1, .int 0), (2, .long u), (4, .long v)]) hx hb dX5_putCrossing_6 hl (by decide) rfl (fun ls hl => ?_)
  refine lv_iconst (v := 0) hx hb dX5_putCrossing_8 (by decide) ?_
  refine lv_istore (lv' := [(8, .int 0), (6, .long (z5_common u v)), (0, .ref o), (1, .int 0), (2, .long u), (4, .long v)]) hx hb dX5_putCrossing_9 hl (by decide) rfl (fun ls hl => ?_)
  refine lv_iload hx hb dX5_putCrossing_11 (lv_at hl 0 rfl) ?_
  refine lv_iconst (v := 3) hx hb dX5_putCrossing_13 (by decide) ?_
  refine lv_icmp_ge (tgt := 56) hx hb dX5_putCrossing_14 (by decide) (fun h => absurd h (by decide)) (fun _ => ?_)
  refine lv_aload_n hx hb dX5_putCrossing_17 rfl (lv_at hl 2 rfl) ?_
  refine va_get (D := D) (ci := 5) (v := .ref mI) (C := RX5) (T := TX5) (N := 17) hx hb hts k_2 hown hK.1 hP 0 rfl rfl 16 (by decide) k_1 (fun _ h9 => h9) rfl dX5_putCrossing_18 ?_
  refine lv_iload hx hb dX5_putCrossing_21 (lv_at hl 0 rfl) ?_
  refine lv_lload_n hx hb dX5_putCrossing_23 rfl (lv_at hl 4 rfl) ?_
  refine lv_lload hx hb dX5_putCrossing_24 (lv_at hl 1 rfl) ?_
  refine lv_ldiv hx hb dX5_putCrossing_26 hg ?_
  refine lv_aload_n hx hb dX5_putCrossing_27 rfl (lv_at hl 2 rfl) ?_
  refine va_get (D := D) (ci := 5) (v := .ref mU) (C := RX5) (T := TX5) (N := 17) hx hb hts k_2 hown hK.1 hP 0 rfl rfl 14 (by decide) k_3 (fun _ h9 => h9) rfl dX5_putCrossing_28 ?_
  refine lv_iload hx hb dX5_putCrossing_31 (lv_at hl 0 rfl) ?_
  refine ld_l hx hb hK.1 hP 2 1 rfl rfl (ix_lit (by decide)) 0 (by decide) (v := fg 0) rfl dX5_putCrossing_33 ?_
  refine lv_lmul hx hb dX5_putCrossing_34 ?_
  refine lv_lload hx hb dX5_putCrossing_35 (lv_at hl 5 rfl) ?_
  refine lv_lload hx hb dX5_putCrossing_37 (lv_at hl 1 rfl) ?_
  refine lv_ldiv hx hb dX5_putCrossing_39 hg ?_
  refine lv_aload_n hx hb dX5_putCrossing_40 rfl (lv_at hl 2 rfl) ?_
  refine va_get (D := D) (ci := 5) (v := .ref mH) (C := RX5) (T := TX5) (N := 17) hx hb hts k_2 hown hK.1 hP 0 rfl rfl 15 (by decide) k_4 (fun _ h9 => h9) rfl dX5_putCrossing_41 ?_
  refine lv_iload hx hb dX5_putCrossing_44 (lv_at hl 0 rfl) ?_
  refine ld_l hx hb hK.1 hP 3 1 rfl rfl (ix_lit (by decide)) 0 (by decide) (v := fh 0) rfl dX5_putCrossing_46 ?_
  refine lv_lmul hx hb dX5_putCrossing_47 ?_
  refine lv_ladd hx hb dX5_putCrossing_48 ?_
  refine st_l hx hb hK.1 hP hD hS 4 1 rfl rfl (ix_lit (by decide)) 0 (by decide) dX5_putCrossing_49 (fun H locs hP hD hS => ?_)
  have hP : va_P D vwCl [kM o mP mL mC mN mF mR mD mV mX mA mK cm mT pm mU mH mI, kJ mK cJ 6 fk, kJ mU cJ 3 fg, kJ mH cJ 3 fh, kJ mI cJ 3 (vp_updL fi 0 (((u / (z5_common u v)) * (fg 0)) + ((v / (z5_common u v)) * (fh 0))))] H := hP
  have hD : va_D A [kM o mP mL mC mN mF mR mD mV mX mA mK cm mT pm mU mH mI, kJ mK cJ 6 fk, kJ mU cJ 3 fg, kJ mH cJ 3 fh, kJ mI cJ 3 (vp_updL fi 0 (((u / (z5_common u v)) * (fg 0)) + ((v / (z5_common u v)) * (fh 0))))] := hD
  refine lv_iinc (v := 1) (lv' := [(8, .int 1), (6, .long (z5_common u v)), (0, .ref o), (1, .int 0), (2, .long u), (4, .long v)]) hx hb dX5_putCrossing_50 hl (k := 0) rfl (by decide) (by decide) rfl (fun ls hl => ?_)
  refine lv_goto (tgt := 11) hx hb dX5_putCrossing_53 (by decide) ?_
  refine lv_iload hx hb dX5_putCrossing_11 (lv_at hl 0 rfl) ?_
  refine lv_iconst (v := 3) hx hb dX5_putCrossing_13 (by decide) ?_
  refine lv_icmp_ge (tgt := 56) hx hb dX5_putCrossing_14 (by decide) (fun h => absurd h (by decide)) (fun _ => ?_)
  refine lv_aload_n hx hb dX5_putCrossing_17 rfl (lv_at hl 2 rfl) ?_
  refine va_get (D := D) (ci := 5) (v := .ref mI) (C := RX5) (T := TX5) (N := 17) hx hb hts k_2 hown hK.1 hP 0 rfl rfl 16 (by decide) k_1 (fun _ h9 => h9) rfl dX5_putCrossing_18 ?_
  refine lv_iload hx hb dX5_putCrossing_21 (lv_at hl 0 rfl) ?_
  refine lv_lload_n hx hb dX5_putCrossing_23 rfl (lv_at hl 4 rfl) ?_
  refine lv_lload hx hb dX5_putCrossing_24 (lv_at hl 1 rfl) ?_
  refine lv_ldiv hx hb dX5_putCrossing_26 hg ?_
  refine lv_aload_n hx hb dX5_putCrossing_27 rfl (lv_at hl 2 rfl) ?_
  refine va_get (D := D) (ci := 5) (v := .ref mU) (C := RX5) (T := TX5) (N := 17) hx hb hts k_2 hown hK.1 hP 0 rfl rfl 14 (by decide) k_3 (fun _ h9 => h9) rfl dX5_putCrossing_28 ?_
  refine lv_iload hx hb dX5_putCrossing_31 (lv_at hl 0 rfl) ?_
  refine ld_l hx hb hK.1 hP 2 1 rfl rfl (ix_lit (by decide)) 1 (by decide) (v := fg 1) rfl dX5_putCrossing_33 ?_
  refine lv_lmul hx hb dX5_putCrossing_34 ?_
  refine lv_lload hx hb dX5_putCrossing_35 (lv_at hl 5 rfl) ?_
  refine lv_lload hx hb dX5_putCrossing_37 (lv_at hl 1 rfl) ?_
  refine lv_ldiv hx hb dX5_putCrossing_39 hg ?_
  refine lv_aload_n hx hb dX5_putCrossing_40 rfl (lv_at hl 2 rfl) ?_
  refine va_get (D := D) (ci := 5) (v := .ref mH) (C := RX5) (T := TX5) (N := 17) hx hb hts k_2 hown hK.1 hP 0 rfl rfl 15 (by decide) k_4 (fun _ h9 => h9) rfl dX5_putCrossing_41 ?_
  refine lv_iload hx hb dX5_putCrossing_44 (lv_at hl 0 rfl) ?_
  refine ld_l hx hb hK.1 hP 3 1 rfl rfl (ix_lit (by decide)) 1 (by decide) (v := fh 1) rfl dX5_putCrossing_46 ?_
  refine lv_lmul hx hb dX5_putCrossing_47 ?_
  refine lv_ladd hx hb dX5_putCrossing_48 ?_
  refine st_l hx hb hK.1 hP hD hS 4 1 rfl rfl (ix_lit (by decide)) 1 (by decide) dX5_putCrossing_49 (fun H locs hP hD hS => ?_)
  have hP : va_P D vwCl [kM o mP mL mC mN mF mR mD mV mX mA mK cm mT pm mU mH mI, kJ mK cJ 6 fk, kJ mU cJ 3 fg, kJ mH cJ 3 fh, kJ mI cJ 3 (vp_updL (vp_updL fi 0 (((u / (z5_common u v)) * (fg 0)) + ((v / (z5_common u v)) * (fh 0)))) 1 (((u / (z5_common u v)) * (fg 1)) + ((v / (z5_common u v)) * (fh 1))))] H := hP
  have hD : va_D A [kM o mP mL mC mN mF mR mD mV mX mA mK cm mT pm mU mH mI, kJ mK cJ 6 fk, kJ mU cJ 3 fg, kJ mH cJ 3 fh, kJ mI cJ 3 (vp_updL (vp_updL fi 0 (((u / (z5_common u v)) * (fg 0)) + ((v / (z5_common u v)) * (fh 0)))) 1 (((u / (z5_common u v)) * (fg 1)) + ((v / (z5_common u v)) * (fh 1))))] := hD
  refine lv_iinc (v := 2) (lv' := [(8, .int 2), (6, .long (z5_common u v)), (0, .ref o), (1, .int 0), (2, .long u), (4, .long v)]) hx hb dX5_putCrossing_50 hl (k := 0) rfl (by decide) (by decide) rfl (fun ls hl => ?_)
  refine lv_goto (tgt := 11) hx hb dX5_putCrossing_53 (by decide) ?_
  refine lv_iload hx hb dX5_putCrossing_11 (lv_at hl 0 rfl) ?_
  refine lv_iconst (v := 3) hx hb dX5_putCrossing_13 (by decide) ?_
  refine lv_icmp_ge (tgt := 56) hx hb dX5_putCrossing_14 (by decide) (fun h => absurd h (by decide)) (fun _ => ?_)
  refine lv_aload_n hx hb dX5_putCrossing_17 rfl (lv_at hl 2 rfl) ?_
  refine va_get (D := D) (ci := 5) (v := .ref mI) (C := RX5) (T := TX5) (N := 17) hx hb hts k_2 hown hK.1 hP 0 rfl rfl 16 (by decide) k_1 (fun _ h9 => h9) rfl dX5_putCrossing_18 ?_
  refine lv_iload hx hb dX5_putCrossing_21 (lv_at hl 0 rfl) ?_
  refine lv_lload_n hx hb dX5_putCrossing_23 rfl (lv_at hl 4 rfl) ?_
  refine lv_lload hx hb dX5_putCrossing_24 (lv_at hl 1 rfl) ?_
  refine lv_ldiv hx hb dX5_putCrossing_26 hg ?_
  refine lv_aload_n hx hb dX5_putCrossing_27 rfl (lv_at hl 2 rfl) ?_
  refine va_get (D := D) (ci := 5) (v := .ref mU) (C := RX5) (T := TX5) (N := 17) hx hb hts k_2 hown hK.1 hP 0 rfl rfl 14 (by decide) k_3 (fun _ h9 => h9) rfl dX5_putCrossing_28 ?_
  refine lv_iload hx hb dX5_putCrossing_31 (lv_at hl 0 rfl) ?_
  refine ld_l hx hb hK.1 hP 2 1 rfl rfl (ix_lit (by decide)) 2 (by decide) (v := fg 2) rfl dX5_putCrossing_33 ?_
  refine lv_lmul hx hb dX5_putCrossing_34 ?_
  refine lv_lload hx hb dX5_putCrossing_35 (lv_at hl 5 rfl) ?_
  refine lv_lload hx hb dX5_putCrossing_37 (lv_at hl 1 rfl) ?_
  refine lv_ldiv hx hb dX5_putCrossing_39 hg ?_
  refine lv_aload_n hx hb dX5_putCrossing_40 rfl (lv_at hl 2 rfl) ?_
  refine va_get (D := D) (ci := 5) (v := .ref mH) (C := RX5) (T := TX5) (N := 17) hx hb hts k_2 hown hK.1 hP 0 rfl rfl 15 (by decide) k_4 (fun _ h9 => h9) rfl dX5_putCrossing_41 ?_
  refine lv_iload hx hb dX5_putCrossing_44 (lv_at hl 0 rfl) ?_
  refine ld_l hx hb hK.1 hP 3 1 rfl rfl (ix_lit (by decide)) 2 (by decide) (v := fh 2) rfl dX5_putCrossing_46 ?_
  refine lv_lmul hx hb dX5_putCrossing_47 ?_
  refine lv_ladd hx hb dX5_putCrossing_48 ?_
  refine st_l hx hb hK.1 hP hD hS 4 1 rfl rfl (ix_lit (by decide)) 2 (by decide) dX5_putCrossing_49 (fun H locs hP hD hS => ?_)
  have hP : va_P D vwCl [kM o mP mL mC mN mF mR mD mV mX mA mK cm mT pm mU mH mI, kJ mK cJ 6 fk, kJ mU cJ 3 fg, kJ mH cJ 3 fh, kJ mI cJ 3 (vp_updL (vp_updL (vp_updL fi 0 (((u / (z5_common u v)) * (fg 0)) + ((v / (z5_common u v)) * (fh 0)))) 1 (((u / (z5_common u v)) * (fg 1)) + ((v / (z5_common u v)) * (fh 1)))) 2 (((u / (z5_common u v)) * (fg 2)) + ((v / (z5_common u v)) * (fh 2))))] H := hP
  have hD : va_D A [kM o mP mL mC mN mF mR mD mV mX mA mK cm mT pm mU mH mI, kJ mK cJ 6 fk, kJ mU cJ 3 fg, kJ mH cJ 3 fh, kJ mI cJ 3 (vp_updL (vp_updL (vp_updL fi 0 (((u / (z5_common u v)) * (fg 0)) + ((v / (z5_common u v)) * (fh 0)))) 1 (((u / (z5_common u v)) * (fg 1)) + ((v / (z5_common u v)) * (fh 1)))) 2 (((u / (z5_common u v)) * (fg 2)) + ((v / (z5_common u v)) * (fh 2))))] := hD
  refine lv_iinc (v := 3) (lv' := [(8, .int 3), (6, .long (z5_common u v)), (0, .ref o), (1, .int 0), (2, .long u), (4, .long v)]) hx hb dX5_putCrossing_50 hl (k := 0) rfl (by decide) (by decide) rfl (fun ls hl => ?_)
  refine lv_goto (tgt := 11) hx hb dX5_putCrossing_53 (by decide) ?_
  refine lv_iload hx hb dX5_putCrossing_11 (lv_at hl 0 rfl) ?_
  refine lv_iconst (v := 3) hx hb dX5_putCrossing_13 (by decide) ?_
  refine lv_icmp_ge (tgt := 56) hx hb dX5_putCrossing_14 (by decide) (fun _ => ?_) (fun h => absurd (by decide) h)
  refine lv_aload_n hx hb dX5_putCrossing_56 rfl (lv_at hl 2 rfl) ?_
  refine va_get (D := D) (ci := 5) (v := .ref mI) (C := RX5) (T := TX5) (N := 17) hx hb hts k_2 hown hK.1 hP 0 rfl rfl 16 (by decide) k_1 (fun _ h9 => h9) rfl dX5_putCrossing_57 ?_
  refine lv_iconst (v := 3) hx hb dX5_putCrossing_60 (by decide) ?_
  have hPc := hP.sub (ws' := [kJ mI cJ 3 (vp_updL (vp_updL (vp_updL fi 0 (((u / (z5_common u v)) * (fg 0)) + ((v / (z5_common u v)) * (fh 0)))) 1 (((u / (z5_common u v)) * (fg 1)) + ((v / (z5_common u v)) * (fh 1)))) 2 (((u / (z5_common u v)) * (fg 2)) + ((v / (z5_common u v)) * (fh 2))))]) [4] rfl
  have hDc := hD.sub (ws' := [kJ mI cJ 3 (vp_updL (vp_updL (vp_updL fi 0 (((u / (z5_common u v)) * (fg 0)) + ((v / (z5_common u v)) * (fh 0)))) 1 (((u / (z5_common u v)) * (fg 1)) + ((v / (z5_common u v)) * (fh 1)))) 2 (((u / (z5_common u v)) * (fg 2)) + ((v / (z5_common u v)) * (fh 2))))]) [4] (by decide) rfl
  refine cl_i (wc := [kJ mI cJ 3 (vp_updL (vp_updL (vp_updL fi 0 (((u / (z5_common u v)) * (fg 0)) + ((v / (z5_common u v)) * (fh 0)))) 1 (((u / (z5_common u v)) * (fg 1)) + ((v / (z5_common u v)) * (fh 1)))) 2 (((u / (z5_common u v)) * (fg 2)) + ((v / (z5_common u v)) * (fh 2))))]) (wr := [kM o mP mL mC mN mF mR mD mV mX mA mK cm mT pm mU mH mI, kJ mK cJ 6 fk, kJ mU cJ 3 fg, kJ mH cJ 3 fh]) (w1 := fun uu : Unit => [kJ mI cJ 3 ((z5_norm_3_3 (vp_updL (vp_updL (vp_updL fi 0 (((u / (z5_common u v)) * (fg 0)) + ((v / (z5_common u v)) * (fh 0)))) 1 (((u / (z5_common u v)) * (fg 1)) + ((v / (z5_common u v)) * (fh 1)))) 2 (((u / (z5_common u v)) * (fg 2)) + ((v / (z5_common u v)) * (fh 2))))).2)]) (wn := fun uu : Unit => [kM o mP mL mC mN mF mR mD mV mX mA mK cm mT pm mU mH mI, kJ mK cJ 6 fk, kJ mU cJ 3 fg, kJ mH cJ 3 fh, kJ mI cJ 3 ((z5_norm_3_3 (vp_updL (vp_updL (vp_updL fi 0 (((u / (z5_common u v)) * (fg 0)) + ((v / (z5_common u v)) * (fh 0)))) 1 (((u / (z5_common u v)) * (fg 1)) + ((v / (z5_common u v)) * (fh 1)))) 2 (((u / (z5_common u v)) * (fg 2)) + ((v / (z5_common u v)) * (fh 2))))).2)]) (va_runS (As := [.ref mI, .int 3]) (rest := []) ⟨hx, hb, hml, hown, hts⟩ (c_X5_norm_3_3 l D cI cJ mI (vp_updL (vp_updL (vp_updL fi 0 (((u / (z5_common u v)) * (fg 0)) + ((v / (z5_common u v)) * (fh 0)))) 1 (((u / (z5_common u v)) * (fg 1)) + ((v / (z5_common u v)) * (fh 1)))) 2 (((u / (z5_common u v)) * (fg 2)) + ((v / (z5_common u v)) * (fh 2)))) _) (va_cwS 2 hts gX5_putCrossing_X5_norm rfl rfl rfl (by decide +kernel) ⟨Nat.le_of_ble_eq_true rfl, Nat.le_of_ble_eq_true rfl⟩) ⟨gd_blP, gd_prP hPc hK hDc⟩ rfl rfl hl.1 rfl (lv_room (Nat.le_of_ble_eq_true rfl)) dX5_putCrossing_61 ⟨Nat.zero_le _, Nat.zero_le _⟩) hP hD hS hA [4] [0, 1, 2, 3] rfl rfl (by decide) (by decide) [0, 1, 2, 3, 4] (by decide) (fun _ => rfl) (fun r_61 uG H locs hw hP hD hS => ?_)
  have hP : va_P D vwCl [kM o mP mL mC mN mF mR mD mV mX mA mK cm mT pm mU mH mI, kJ mK cJ 6 fk, kJ mU cJ 3 fg, kJ mH cJ 3 fh, kJ mI cJ 3 ((z5_norm_3_3 (vp_updL (vp_updL (vp_updL fi 0 (((u / (z5_common u v)) * (fg 0)) + ((v / (z5_common u v)) * (fh 0)))) 1 (((u / (z5_common u v)) * (fg 1)) + ((v / (z5_common u v)) * (fh 1)))) 2 (((u / (z5_common u v)) * (fg 2)) + ((v / (z5_common u v)) * (fh 2))))).2)] H := hP
  have hD : va_D A [kM o mP mL mC mN mF mR mD mV mX mA mK cm mT pm mU mH mI, kJ mK cJ 6 fk, kJ mU cJ 3 fg, kJ mH cJ 3 fh, kJ mI cJ 3 ((z5_norm_3_3 (vp_updL (vp_updL (vp_updL fi 0 (((u / (z5_common u v)) * (fg 0)) + ((v / (z5_common u v)) * (fh 0)))) 1 (((u / (z5_common u v)) * (fg 1)) + ((v / (z5_common u v)) * (fh 1)))) 2 (((u / (z5_common u v)) * (fg 2)) + ((v / (z5_common u v)) * (fh 2))))).2)] := hD
  have ea_0 : (z5_norm_3_3 (vp_updL (vp_updL (vp_updL fi 0 (((u / (z5_common u v)) * (fg 0)) + ((v / (z5_common u v)) * (fh 0)))) 1 (((u / (z5_common u v)) * (fg 1)) + ((v / (z5_common u v)) * (fh 1)))) 2 (((u / (z5_common u v)) * (fg 2)) + ((v / (z5_common u v)) * (fh 2))))).2 = z5_putCrossing_0_v1 fg fh fi u v := by delta z5_putCrossing_0_v1; rfl
  rw [ea_0] at hP hD
  clear ea_0
  subst hw
  refine lv_eqi (v := z5_putCrossing_0_v2 fg fh fi u v) (by delta z5_putCrossing_0_v2; rfl) ?_
  clear hPc hDc
  refine lv_istore (lv' := [(8, .int (z5_putCrossing_0_v2 fg fh fi u v)), (6, .long (z5_common u v)), (0, .ref o), (1, .int 0), (2, .long u), (4, .long v)]) hx hb dX5_putCrossing_64 hl (by decide) rfl (fun ls hl => ?_)
  refine lv_iconst (v := 0) hx hb dX5_putCrossing_66 (by decide) ?_
  refine lv_istore (lv' := [(9, .int 0), (8, .int (z5_putCrossing_0_v2 fg fh fi u v)), (6, .long (z5_common u v)), (0, .ref o), (1, .int 0), (2, .long u), (4, .long v)]) hx hb dX5_putCrossing_67 hl (by decide) rfl (fun ls hl => ?_)
  refine lv_iload hx hb dX5_putCrossing_69 (lv_at hl 0 rfl) ?_
  refine lv_iconst (v := 3) hx hb dX5_putCrossing_71 (by decide) ?_
  refine lv_icmp_ge (tgt := 99) hx hb dX5_putCrossing_72 (by decide) (fun h => absurd h (by decide)) (fun _ => ?_)
  refine lv_aload_n hx hb dX5_putCrossing_75 rfl (lv_at hl 3 rfl) ?_
  refine va_get (D := D) (ci := 5) (v := .ref mK) (C := RX5) (T := TX5) (N := 17) hx hb hts k_2 hown hK.1 hP 0 rfl rfl 10 (by decide) k_5 (fun _ h9 => h9) rfl dX5_putCrossing_76 ?_
  refine lv_iconst (v := 3) hx hb dX5_putCrossing_79 (by decide) ?_
  refine lv_iload_n hx hb dX5_putCrossing_80 rfl (lv_at hl 4 rfl) ?_
  refine lv_imul hx hb dX5_putCrossing_81 ?_
  refine lv_eqi (v := 0) (by decide) ?_
  refine lv_iload hx hb dX5_putCrossing_82 (lv_at hl 0 rfl) ?_
  refine lv_iadd hx hb dX5_putCrossing_84 ?_
  refine lv_eqi (v := 0) (by decide) ?_
  refine lv_aload_n hx hb dX5_putCrossing_85 rfl (lv_at hl 3 rfl) ?_
  refine va_get (D := D) (ci := 5) (v := .ref mI) (C := RX5) (T := TX5) (N := 17) hx hb hts k_2 hown hK.1 hP 0 rfl rfl 16 (by decide) k_1 (fun _ h9 => h9) rfl dX5_putCrossing_86 ?_
  refine lv_iload hx hb dX5_putCrossing_89 (lv_at hl 0 rfl) ?_
  refine ld_l hx hb hK.1 hP 4 1 rfl rfl (ix_lit (by decide)) 0 (by decide) (v := (z5_putCrossing_0_v1 fg fh fi u v) 0) rfl dX5_putCrossing_91 ?_
  refine st_l hx hb hK.1 hP hD hS 1 1 rfl rfl (ix_lit (by decide)) 0 (by decide) dX5_putCrossing_92 (fun H locs hP hD hS => ?_)
  have hP : va_P D vwCl [kM o mP mL mC mN mF mR mD mV mX mA mK cm mT pm mU mH mI, kJ mK cJ 6 (vp_updL fk 0 ((z5_putCrossing_0_v1 fg fh fi u v) 0)), kJ mU cJ 3 fg, kJ mH cJ 3 fh, kJ mI cJ 3 (z5_putCrossing_0_v1 fg fh fi u v)] H := hP
  have hD : va_D A [kM o mP mL mC mN mF mR mD mV mX mA mK cm mT pm mU mH mI, kJ mK cJ 6 (vp_updL fk 0 ((z5_putCrossing_0_v1 fg fh fi u v) 0)), kJ mU cJ 3 fg, kJ mH cJ 3 fh, kJ mI cJ 3 (z5_putCrossing_0_v1 fg fh fi u v)] := hD
  refine lv_iinc (v := 1) (lv' := [(9, .int 1), (8, .int (z5_putCrossing_0_v2 fg fh fi u v)), (6, .long (z5_common u v)), (0, .ref o), (1, .int 0), (2, .long u), (4, .long v)]) hx hb dX5_putCrossing_93 hl (k := 0) rfl (by decide) (by decide) rfl (fun ls hl => ?_)
  refine lv_goto (tgt := 69) hx hb dX5_putCrossing_96 (by decide) ?_
  refine lv_iload hx hb dX5_putCrossing_69 (lv_at hl 0 rfl) ?_
  refine lv_iconst (v := 3) hx hb dX5_putCrossing_71 (by decide) ?_
  refine lv_icmp_ge (tgt := 99) hx hb dX5_putCrossing_72 (by decide) (fun h => absurd h (by decide)) (fun _ => ?_)
  refine lv_aload_n hx hb dX5_putCrossing_75 rfl (lv_at hl 3 rfl) ?_
  refine va_get (D := D) (ci := 5) (v := .ref mK) (C := RX5) (T := TX5) (N := 17) hx hb hts k_2 hown hK.1 hP 0 rfl rfl 10 (by decide) k_5 (fun _ h9 => h9) rfl dX5_putCrossing_76 ?_
  refine lv_iconst (v := 3) hx hb dX5_putCrossing_79 (by decide) ?_
  refine lv_iload_n hx hb dX5_putCrossing_80 rfl (lv_at hl 4 rfl) ?_
  refine lv_imul hx hb dX5_putCrossing_81 ?_
  refine lv_eqi (v := 0) (by decide) ?_
  refine lv_iload hx hb dX5_putCrossing_82 (lv_at hl 0 rfl) ?_
  refine lv_iadd hx hb dX5_putCrossing_84 ?_
  refine lv_eqi (v := 1) (by decide) ?_
  refine lv_aload_n hx hb dX5_putCrossing_85 rfl (lv_at hl 3 rfl) ?_
  refine va_get (D := D) (ci := 5) (v := .ref mI) (C := RX5) (T := TX5) (N := 17) hx hb hts k_2 hown hK.1 hP 0 rfl rfl 16 (by decide) k_1 (fun _ h9 => h9) rfl dX5_putCrossing_86 ?_
  refine lv_iload hx hb dX5_putCrossing_89 (lv_at hl 0 rfl) ?_
  refine ld_l hx hb hK.1 hP 4 1 rfl rfl (ix_lit (by decide)) 1 (by decide) (v := (z5_putCrossing_0_v1 fg fh fi u v) 1) rfl dX5_putCrossing_91 ?_
  refine st_l hx hb hK.1 hP hD hS 1 1 rfl rfl (ix_lit (by decide)) 1 (by decide) dX5_putCrossing_92 (fun H locs hP hD hS => ?_)
  have hP : va_P D vwCl [kM o mP mL mC mN mF mR mD mV mX mA mK cm mT pm mU mH mI, kJ mK cJ 6 (vp_updL (vp_updL fk 0 ((z5_putCrossing_0_v1 fg fh fi u v) 0)) 1 ((z5_putCrossing_0_v1 fg fh fi u v) 1)), kJ mU cJ 3 fg, kJ mH cJ 3 fh, kJ mI cJ 3 (z5_putCrossing_0_v1 fg fh fi u v)] H := hP
  have hD : va_D A [kM o mP mL mC mN mF mR mD mV mX mA mK cm mT pm mU mH mI, kJ mK cJ 6 (vp_updL (vp_updL fk 0 ((z5_putCrossing_0_v1 fg fh fi u v) 0)) 1 ((z5_putCrossing_0_v1 fg fh fi u v) 1)), kJ mU cJ 3 fg, kJ mH cJ 3 fh, kJ mI cJ 3 (z5_putCrossing_0_v1 fg fh fi u v)] := hD
  refine lv_iinc (v := 2) (lv' := [(9, .int 2), (8, .int (z5_putCrossing_0_v2 fg fh fi u v)), (6, .long (z5_common u v)), (0, .ref o), (1, .int 0), (2, .long u), (4, .long v)]) hx hb dX5_putCrossing_93 hl (k := 0) rfl (by decide) (by decide) rfl (fun ls hl => ?_)
  refine lv_goto (tgt := 69) hx hb dX5_putCrossing_96 (by decide) ?_
  refine lv_iload hx hb dX5_putCrossing_69 (lv_at hl 0 rfl) ?_
  refine lv_iconst (v := 3) hx hb dX5_putCrossing_71 (by decide) ?_
  refine lv_icmp_ge (tgt := 99) hx hb dX5_putCrossing_72 (by decide) (fun h => absurd h (by decide)) (fun _ => ?_)
  refine lv_aload_n hx hb dX5_putCrossing_75 rfl (lv_at hl 3 rfl) ?_
  refine va_get (D := D) (ci := 5) (v := .ref mK) (C := RX5) (T := TX5) (N := 17) hx hb hts k_2 hown hK.1 hP 0 rfl rfl 10 (by decide) k_5 (fun _ h9 => h9) rfl dX5_putCrossing_76 ?_
  refine lv_iconst (v := 3) hx hb dX5_putCrossing_79 (by decide) ?_
  refine lv_iload_n hx hb dX5_putCrossing_80 rfl (lv_at hl 4 rfl) ?_
  refine lv_imul hx hb dX5_putCrossing_81 ?_
  refine lv_eqi (v := 0) (by decide) ?_
  refine lv_iload hx hb dX5_putCrossing_82 (lv_at hl 0 rfl) ?_
  refine lv_iadd hx hb dX5_putCrossing_84 ?_
  refine lv_eqi (v := 2) (by decide) ?_
  refine lv_aload_n hx hb dX5_putCrossing_85 rfl (lv_at hl 3 rfl) ?_
  refine va_get (D := D) (ci := 5) (v := .ref mI) (C := RX5) (T := TX5) (N := 17) hx hb hts k_2 hown hK.1 hP 0 rfl rfl 16 (by decide) k_1 (fun _ h9 => h9) rfl dX5_putCrossing_86 ?_
  refine lv_iload hx hb dX5_putCrossing_89 (lv_at hl 0 rfl) ?_
  refine ld_l hx hb hK.1 hP 4 1 rfl rfl (ix_lit (by decide)) 2 (by decide) (v := (z5_putCrossing_0_v1 fg fh fi u v) 2) rfl dX5_putCrossing_91 ?_
  refine st_l hx hb hK.1 hP hD hS 1 1 rfl rfl (ix_lit (by decide)) 2 (by decide) dX5_putCrossing_92 (fun H locs hP hD hS => ?_)
  have hP : va_P D vwCl [kM o mP mL mC mN mF mR mD mV mX mA mK cm mT pm mU mH mI, kJ mK cJ 6 (vp_updL (vp_updL (vp_updL fk 0 ((z5_putCrossing_0_v1 fg fh fi u v) 0)) 1 ((z5_putCrossing_0_v1 fg fh fi u v) 1)) 2 ((z5_putCrossing_0_v1 fg fh fi u v) 2)), kJ mU cJ 3 fg, kJ mH cJ 3 fh, kJ mI cJ 3 (z5_putCrossing_0_v1 fg fh fi u v)] H := hP
  have hD : va_D A [kM o mP mL mC mN mF mR mD mV mX mA mK cm mT pm mU mH mI, kJ mK cJ 6 (vp_updL (vp_updL (vp_updL fk 0 ((z5_putCrossing_0_v1 fg fh fi u v) 0)) 1 ((z5_putCrossing_0_v1 fg fh fi u v) 1)) 2 ((z5_putCrossing_0_v1 fg fh fi u v) 2)), kJ mU cJ 3 fg, kJ mH cJ 3 fh, kJ mI cJ 3 (z5_putCrossing_0_v1 fg fh fi u v)] := hD
  refine lv_iinc (v := 3) (lv' := [(9, .int 3), (8, .int (z5_putCrossing_0_v2 fg fh fi u v)), (6, .long (z5_common u v)), (0, .ref o), (1, .int 0), (2, .long u), (4, .long v)]) hx hb dX5_putCrossing_93 hl (k := 0) rfl (by decide) (by decide) rfl (fun ls hl => ?_)
  refine lv_goto (tgt := 69) hx hb dX5_putCrossing_96 (by decide) ?_
  refine lv_iload hx hb dX5_putCrossing_69 (lv_at hl 0 rfl) ?_
  refine lv_iconst (v := 3) hx hb dX5_putCrossing_71 (by decide) ?_
  refine lv_icmp_ge (tgt := 99) hx hb dX5_putCrossing_72 (by decide) (fun _ => ?_) (fun h => absurd (by decide) h)
  have he_0 : z5_putCrossing_0_f1 fk fg fh fi u v = vp_updL (vp_updL (vp_updL fk 0 ((z5_putCrossing_0_v1 fg fh fi u v) 0)) 1 ((z5_putCrossing_0_v1 fg fh fi u v) 1)) 2 ((z5_putCrossing_0_v1 fg fh fi u v) 2) := by delta z5_putCrossing_0_f1; rfl
  have he_1 : z5_putCrossing_0_f4 fg fh fi u v = z5_putCrossing_0_v1 fg fh fi u v := by delta z5_putCrossing_0_f4; rfl
  exact rt_v (w1 := fun uu : Unit => [kM o mP mL mC mN mF mR mD mV mX mA mK cm mT pm mU mH mI, kJ mK cJ 6 (z5_putCrossing_0_f1 fk fg fh fi u v), kJ mU cJ 3 fg, kJ mH cJ 3 fh, kJ mI cJ 3 (z5_putCrossing_0_f4 fg fh fi u v)]) hx hb hr hlk hS dX5_putCrossing_99 (()) trivial (by rw [he_0, he_1]; exact hP) (by rw [he_0, he_1]; exact hD)
def z5_putCrossing_1_v1 (fg : Nat → Int64) (fh : Nat → Int64) (fi : Nat → Int64) (u : Int64) (v : Int64) : Nat → Int64 := (z5_norm_3_3 (vp_updL (vp_updL (vp_updL fi 0 (((u / (z5_common u v)) * (fg 0)) + ((v / (z5_common u v)) * (fh 0)))) 1 (((u / (z5_common u v)) * (fg 1)) + ((v / (z5_common u v)) * (fh 1)))) 2 (((u / (z5_common u v)) * (fg 2)) + ((v / (z5_common u v)) * (fh 2))))).2
def z5_putCrossing_1_v2 (fg : Nat → Int64) (fh : Nat → Int64) (fi : Nat → Int64) (u : Int64) (v : Int64) : Int32 := (z5_norm_3_3 (vp_updL (vp_updL (vp_updL fi 0 (((u / (z5_common u v)) * (fg 0)) + ((v / (z5_common u v)) * (fh 0)))) 1 (((u / (z5_common u v)) * (fg 1)) + ((v / (z5_common u v)) * (fh 1)))) 2 (((u / (z5_common u v)) * (fg 2)) + ((v / (z5_common u v)) * (fh 2))))).1
def z5_putCrossing_1_f1 (fk : Nat → Int64) (fg : Nat → Int64) (fh : Nat → Int64) (fi : Nat → Int64) (u : Int64) (v : Int64) : Nat → Int64 := vp_updL (vp_updL (vp_updL fk 3 ((z5_putCrossing_1_v1 fg fh fi u v) 0)) 4 ((z5_putCrossing_1_v1 fg fh fi u v) 1)) 5 ((z5_putCrossing_1_v1 fg fh fi u v) 2)
def z5_putCrossing_1_f4 (fg : Nat → Int64) (fh : Nat → Int64) (fi : Nat → Int64) (u : Int64) (v : Int64) : Nat → Int64 := z5_putCrossing_1_v1 fg fh fi u v
set_option maxHeartbeats 4000000 in
set_option maxRecDepth 100000 in
/-- X5.putCrossing -/
theorem c_X5_putCrossing_1 (l : Launch) (D : va_G) (cI cJ : ClassId) (o : Nat) (mP : Nat) (mL : Nat) (mC : Nat) (mN : Nat) (mF : Nat) (mR : Nat) (mD : Nat) (mV : Nat) (mX : Nat) (mA : Nat) (mK : Nat) (mT : Nat) (mU : Nat) (mH : Nat) (mI : Nat) (cm : Int32) (pm : Int32) (fk : Nat → Int64) (fg : Nat → Int64) (fh : Nat → Int64) (fi : Nat → Int64) (u : Int64) (v : Int64) (hg : ¬ z5_common u v = 0) : mw_C l yX5_putCrossing wsX5_putCrossing ({ frames := 2, cells := 0, slots := 0, locals := 54 }) D cI cJ [.ref o, .int 1, .long u, .long v] [kM o mP mL mC mN mF mR mD mV mX mA mK cm mT pm mU mH mI, kJ mK cJ 6 fk, kJ mU cJ 3 fg, kJ mH cJ 3 fh, kJ mI cJ 3 fi] (qe_v (fun _ : Unit => True) (fun uu => [kM o mP mL mC mN mF mR mD mV mX mA mK cm mT pm mU mH mI, kJ mK cJ 6 (z5_putCrossing_1_f1 fk fg fh fi u v), kJ mU cJ 3 fg, kJ mH cJ 3 fh, kJ mI cJ 3 (z5_putCrossing_1_f4 fg fh fi u v)])) := by
  refine mw_in (cc := cX5_putCrossing) (lv := [(0, .ref o), (1, .int 1), (2, .long u), (4, .long v)]) (by decide) rfl (Nat.le_of_ble_eq_true rfl) rfl ?_
  intro pG eG sG mG below meth cG ls A hx hb hr hml hown hts hlk hin hP hK hD hA hS hl
  have hown : sG.vm.findClass RX5 = some mG.cls := hown
  have k_1 := hts (.fieldLink RX5 53 "ConicRowsModel" "one" "[J") (by decide +kernel)
  have k_2 : ∀ w ∈ wsX50, w ∈ wsX5_putCrossing := by decide +kernel
  have k_3 := hts (.fieldLink RX5 47 "ConicRowsModel" "first" "[J") (by decide +kernel)
  have k_4 := hts (.fieldLink RX5 50 "ConicRowsModel" "second" "[J") (by decide +kernel)
  have k_5 := hts (.fieldLink RX5 41 "ConicRowsModel" "crossings" "[J") (by decide +kernel)
  refine lv_lload_n hx hb dX5_putCrossing_0 rfl (lv_at hl 2 rfl) ?_
  refine lv_lload hx hb dX5_putCrossing_1 (lv_at hl 3 rfl) ?_
  have hPc := hP.sub (ws' := []) [] rfl
  refine cr_l (va_runS (As := [.long u, .long v]) (rest := []) ⟨hx, hb, hml, hown, hts⟩ (c_X5_common l D cI cJ u v) (va_cwS 2 hts gX5_putCrossing_X5_common rfl rfl rfl (by decide +kernel) ⟨Nat.le_of_ble_eq_true rfl, Nat.le_of_ble_eq_true rfl⟩) ⟨gd_blR, gd_prR hPc hK⟩ rfl rfl hl.1 rfl (lv_room (Nat.le_of_ble_eq_true rfl)) dX5_putCrossing_3 ⟨Nat.zero_le _, Nat.zero_le _⟩) (fun r_3 hw => ?_)
  subst hw
  clear hPc
  refine lv_lstore (lv' := [(6, .long (z5_common u v)), (0, .ref o), (1, .int 1), (2, .long u), (4, .long v)]) hx hb dX5_putCrossing_6 hl (by decide) rfl (fun ls hl => ?_)
  refine lv_iconst (v := 0) hx hb dX5_putCrossing_8 (by decide) ?_
  refine lv_istore (lv' := [(8, .int 0), (6, .long (z5_common u v)), (0, .ref o), (1, .int 1), (2, .long u), (4, .long v)]) hx hb dX5_putCrossing_9 hl (by decide) rfl (fun ls hl => ?_)
  refine lv_iload hx hb dX5_putCrossing_11 (lv_at hl 0 rfl) ?_
  refine lv_iconst (v := 3) hx hb dX5_putCrossing_13 (by decide) ?_
  refine lv_icmp_ge (tgt := 56) hx hb dX5_putCrossing_14 (by decide) (fun h => absurd h (by decide)) (fun _ => ?_)
  refine lv_aload_n hx hb dX5_putCrossing_17 rfl (lv_at hl 2 rfl) ?_
  refine va_get (D := D) (ci := 5) (v := .ref mI) (C := RX5) (T := TX5) (N := 17) hx hb hts k_2 hown hK.1 hP 0 rfl rfl 16 (by decide) k_1 (fun _ h9 => h9) rfl dX5_putCrossing_18 ?_
  refine lv_iload hx hb dX5_putCrossing_21 (lv_at hl 0 rfl) ?_
  refine lv_lload_n hx hb dX5_putCrossing_23 rfl (lv_at hl 4 rfl) ?_
  refine lv_lload hx hb dX5_putCrossing_24 (lv_at hl 1 rfl) ?_
  refine lv_ldiv hx hb dX5_putCrossing_26 hg ?_
  refine lv_aload_n hx hb dX5_putCrossing_27 rfl (lv_at hl 2 rfl) ?_
  refine va_get (D := D) (ci := 5) (v := .ref mU) (C := RX5) (T := TX5) (N := 17) hx hb hts k_2 hown hK.1 hP 0 rfl rfl 14 (by decide) k_3 (fun _ h9 => h9) rfl dX5_putCrossing_28 ?_
  refine lv_iload hx hb dX5_putCrossing_31 (lv_at hl 0 rfl) ?_
  refine ld_l hx hb hK.1 hP 2 1 rfl rfl (ix_lit (by decide)) 0 (by decide) (v := fg 0) rfl dX5_putCrossing_33 ?_
  refine lv_lmul hx hb dX5_putCrossing_34 ?_
  refine lv_lload hx hb dX5_putCrossing_35 (lv_at hl 5 rfl) ?_
  refine lv_lload hx hb dX5_putCrossing_37 (lv_at hl 1 rfl) ?_
  refine lv_ldiv hx hb dX5_putCrossing_39 hg ?_
  refine lv_aload_n hx hb dX5_putCrossing_40 rfl (lv_at hl 2 rfl) ?_
  refine va_get (D := D) (ci := 5) (v := .ref mH) (C := RX5) (T := TX5) (N := 17) hx hb hts k_2 hown hK.1 hP 0 rfl rfl 15 (by decide) k_4 (fun _ h9 => h9) rfl dX5_putCrossing_41 ?_
  refine lv_iload hx hb dX5_putCrossing_44 (lv_at hl 0 rfl) ?_
  refine ld_l hx hb hK.1 hP 3 1 rfl rfl (ix_lit (by decide)) 0 (by decide) (v := fh 0) rfl dX5_putCrossing_46 ?_
  refine lv_lmul hx hb dX5_putCrossing_47 ?_
  refine lv_ladd hx hb dX5_putCrossing_48 ?_
  refine st_l hx hb hK.1 hP hD hS 4 1 rfl rfl (ix_lit (by decide)) 0 (by decide) dX5_putCrossing_49 (fun H locs hP hD hS => ?_)
  have hP : va_P D vwCl [kM o mP mL mC mN mF mR mD mV mX mA mK cm mT pm mU mH mI, kJ mK cJ 6 fk, kJ mU cJ 3 fg, kJ mH cJ 3 fh, kJ mI cJ 3 (vp_updL fi 0 (((u / (z5_common u v)) * (fg 0)) + ((v / (z5_common u v)) * (fh 0))))] H := hP
  have hD : va_D A [kM o mP mL mC mN mF mR mD mV mX mA mK cm mT pm mU mH mI, kJ mK cJ 6 fk, kJ mU cJ 3 fg, kJ mH cJ 3 fh, kJ mI cJ 3 (vp_updL fi 0 (((u / (z5_common u v)) * (fg 0)) + ((v / (z5_common u v)) * (fh 0))))] := hD
  refine lv_iinc (v := 1) (lv' := [(8, .int 1), (6, .long (z5_common u v)), (0, .ref o), (1, .int 1), (2, .long u), (4, .long v)]) hx hb dX5_putCrossing_50 hl (k := 0) rfl (by decide) (by decide) rfl (fun ls hl => ?_)
  refine lv_goto (tgt := 11) hx hb dX5_putCrossing_53 (by decide) ?_
  refine lv_iload hx hb dX5_putCrossing_11 (lv_at hl 0 rfl) ?_
  refine lv_iconst (v := 3) hx hb dX5_putCrossing_13 (by decide) ?_
  refine lv_icmp_ge (tgt := 56) hx hb dX5_putCrossing_14 (by decide) (fun h => absurd h (by decide)) (fun _ => ?_)
  refine lv_aload_n hx hb dX5_putCrossing_17 rfl (lv_at hl 2 rfl) ?_
  refine va_get (D := D) (ci := 5) (v := .ref mI) (C := RX5) (T := TX5) (N := 17) hx hb hts k_2 hown hK.1 hP 0 rfl rfl 16 (by decide) k_1 (fun _ h9 => h9) rfl dX5_putCrossing_18 ?_
  refine lv_iload hx hb dX5_putCrossing_21 (lv_at hl 0 rfl) ?_
  refine lv_lload_n hx hb dX5_putCrossing_23 rfl (lv_at hl 4 rfl) ?_
  refine lv_lload hx hb dX5_putCrossing_24 (lv_at hl 1 rfl) ?_
  refine lv_ldiv hx hb dX5_putCrossing_26 hg ?_
  refine lv_aload_n hx hb dX5_putCrossing_27 rfl (lv_at hl 2 rfl) ?_
  refine va_get (D := D) (ci := 5) (v := .ref mU) (C := RX5) (T := TX5) (N := 17) hx hb hts k_2 hown hK.1 hP 0 rfl rfl 14 (by decide) k_3 (fun _ h9 => h9) rfl dX5_putCrossing_28 ?_
  refine lv_iload hx hb dX5_putCrossing_31 (lv_at hl 0 rfl) ?_
  refine ld_l hx hb hK.1 hP 2 1 rfl rfl (ix_lit (by decide)) 1 (by decide) (v := fg 1) rfl dX5_putCrossing_33 ?_
  refine lv_lmul hx hb dX5_putCrossing_34 ?_
  refine lv_lload hx hb dX5_putCrossing_35 (lv_at hl 5 rfl) ?_
  refine lv_lload hx hb dX5_putCrossing_37 (lv_at hl 1 rfl) ?_
  refine lv_ldiv hx hb dX5_putCrossing_39 hg ?_
  refine lv_aload_n hx hb dX5_putCrossing_40 rfl (lv_at hl 2 rfl) ?_
  refine va_get (D := D) (ci := 5) (v := .ref mH) (C := RX5) (T := TX5) (N := 17) hx hb hts k_2 hown hK.1 hP 0 rfl rfl 15 (by decide) k_4 (fun _ h9 => h9) rfl dX5_putCrossing_41 ?_
  refine lv_iload hx hb dX5_putCrossing_44 (lv_at hl 0 rfl) ?_
  refine ld_l hx hb hK.1 hP 3 1 rfl rfl (ix_lit (by decide)) 1 (by decide) (v := fh 1) rfl dX5_putCrossing_46 ?_
  refine lv_lmul hx hb dX5_putCrossing_47 ?_
  refine lv_ladd hx hb dX5_putCrossing_48 ?_
  refine st_l hx hb hK.1 hP hD hS 4 1 rfl rfl (ix_lit (by decide)) 1 (by decide) dX5_putCrossing_49 (fun H locs hP hD hS => ?_)
  have hP : va_P D vwCl [kM o mP mL mC mN mF mR mD mV mX mA mK cm mT pm mU mH mI, kJ mK cJ 6 fk, kJ mU cJ 3 fg, kJ mH cJ 3 fh, kJ mI cJ 3 (vp_updL (vp_updL fi 0 (((u / (z5_common u v)) * (fg 0)) + ((v / (z5_common u v)) * (fh 0)))) 1 (((u / (z5_common u v)) * (fg 1)) + ((v / (z5_common u v)) * (fh 1))))] H := hP
  have hD : va_D A [kM o mP mL mC mN mF mR mD mV mX mA mK cm mT pm mU mH mI, kJ mK cJ 6 fk, kJ mU cJ 3 fg, kJ mH cJ 3 fh, kJ mI cJ 3 (vp_updL (vp_updL fi 0 (((u / (z5_common u v)) * (fg 0)) + ((v / (z5_common u v)) * (fh 0)))) 1 (((u / (z5_common u v)) * (fg 1)) + ((v / (z5_common u v)) * (fh 1))))] := hD
  refine lv_iinc (v := 2) (lv' := [(8, .int 2), (6, .long (z5_common u v)), (0, .ref o), (1, .int 1), (2, .long u), (4, .long v)]) hx hb dX5_putCrossing_50 hl (k := 0) rfl (by decide) (by decide) rfl (fun ls hl => ?_)
  refine lv_goto (tgt := 11) hx hb dX5_putCrossing_53 (by decide) ?_
  refine lv_iload hx hb dX5_putCrossing_11 (lv_at hl 0 rfl) ?_
  refine lv_iconst (v := 3) hx hb dX5_putCrossing_13 (by decide) ?_
  refine lv_icmp_ge (tgt := 56) hx hb dX5_putCrossing_14 (by decide) (fun h => absurd h (by decide)) (fun _ => ?_)
  refine lv_aload_n hx hb dX5_putCrossing_17 rfl (lv_at hl 2 rfl) ?_
  refine va_get (D := D) (ci := 5) (v := .ref mI) (C := RX5) (T := TX5) (N := 17) hx hb hts k_2 hown hK.1 hP 0 rfl rfl 16 (by decide) k_1 (fun _ h9 => h9) rfl dX5_putCrossing_18 ?_
  refine lv_iload hx hb dX5_putCrossing_21 (lv_at hl 0 rfl) ?_
  refine lv_lload_n hx hb dX5_putCrossing_23 rfl (lv_at hl 4 rfl) ?_
  refine lv_lload hx hb dX5_putCrossing_24 (lv_at hl 1 rfl) ?_
  refine lv_ldiv hx hb dX5_putCrossing_26 hg ?_
  refine lv_aload_n hx hb dX5_putCrossing_27 rfl (lv_at hl 2 rfl) ?_
  refine va_get (D := D) (ci := 5) (v := .ref mU) (C := RX5) (T := TX5) (N := 17) hx hb hts k_2 hown hK.1 hP 0 rfl rfl 14 (by decide) k_3 (fun _ h9 => h9) rfl dX5_putCrossing_28 ?_
  refine lv_iload hx hb dX5_putCrossing_31 (lv_at hl 0 rfl) ?_
  refine ld_l hx hb hK.1 hP 2 1 rfl rfl (ix_lit (by decide)) 2 (by decide) (v := fg 2) rfl dX5_putCrossing_33 ?_
  refine lv_lmul hx hb dX5_putCrossing_34 ?_
  refine lv_lload hx hb dX5_putCrossing_35 (lv_at hl 5 rfl) ?_
  refine lv_lload hx hb dX5_putCrossing_37 (lv_at hl 1 rfl) ?_
  refine lv_ldiv hx hb dX5_putCrossing_39 hg ?_
  refine lv_aload_n hx hb dX5_putCrossing_40 rfl (lv_at hl 2 rfl) ?_
  refine va_get (D := D) (ci := 5) (v := .ref mH) (C := RX5) (T := TX5) (N := 17) hx hb hts k_2 hown hK.1 hP 0 rfl rfl 15 (by decide) k_4 (fun _ h9 => h9) rfl dX5_putCrossing_41 ?_
  refine lv_iload hx hb dX5_putCrossing_44 (lv_at hl 0 rfl) ?_
  refine ld_l hx hb hK.1 hP 3 1 rfl rfl (ix_lit (by decide)) 2 (by decide) (v := fh 2) rfl dX5_putCrossing_46 ?_
  refine lv_lmul hx hb dX5_putCrossing_47 ?_
  refine lv_ladd hx hb dX5_putCrossing_48 ?_
  refine st_l hx hb hK.1 hP hD hS 4 1 rfl rfl (ix_lit (by decide)) 2 (by decide) dX5_putCrossing_49 (fun H locs hP hD hS => ?_)
  have hP : va_P D vwCl [kM o mP mL mC mN mF mR mD mV mX mA mK cm mT pm mU mH mI, kJ mK cJ 6 fk, kJ mU cJ 3 fg, kJ mH cJ 3 fh, kJ mI cJ 3 (vp_updL (vp_updL (vp_updL fi 0 (((u / (z5_common u v)) * (fg 0)) + ((v / (z5_common u v)) * (fh 0)))) 1 (((u / (z5_common u v)) * (fg 1)) + ((v / (z5_common u v)) * (fh 1)))) 2 (((u / (z5_common u v)) * (fg 2)) + ((v / (z5_common u v)) * (fh 2))))] H := hP
  have hD : va_D A [kM o mP mL mC mN mF mR mD mV mX mA mK cm mT pm mU mH mI, kJ mK cJ 6 fk, kJ mU cJ 3 fg, kJ mH cJ 3 fh, kJ mI cJ 3 (vp_updL (vp_updL (vp_updL fi 0 (((u / (z5_common u v)) * (fg 0)) + ((v / (z5_common u v)) * (fh 0)))) 1 (((u / (z5_common u v)) * (fg 1)) + ((v / (z5_common u v)) * (fh 1)))) 2 (((u / (z5_common u v)) * (fg 2)) + ((v / (z5_common u v)) * (fh 2))))] := hD
  refine lv_iinc (v := 3) (lv' := [(8, .int 3), (6, .long (z5_common u v)), (0, .ref o), (1, .int 1), (2, .long u), (4, .long v)]) hx hb dX5_putCrossing_50 hl (k := 0) rfl (by decide) (by decide) rfl (fun ls hl => ?_)
  refine lv_goto (tgt := 11) hx hb dX5_putCrossing_53 (by decide) ?_
  refine lv_iload hx hb dX5_putCrossing_11 (lv_at hl 0 rfl) ?_
  refine lv_iconst (v := 3) hx hb dX5_putCrossing_13 (by decide) ?_
  refine lv_icmp_ge (tgt := 56) hx hb dX5_putCrossing_14 (by decide) (fun _ => ?_) (fun h => absurd (by decide) h)
  refine lv_aload_n hx hb dX5_putCrossing_56 rfl (lv_at hl 2 rfl) ?_
  refine va_get (D := D) (ci := 5) (v := .ref mI) (C := RX5) (T := TX5) (N := 17) hx hb hts k_2 hown hK.1 hP 0 rfl rfl 16 (by decide) k_1 (fun _ h9 => h9) rfl dX5_putCrossing_57 ?_
  refine lv_iconst (v := 3) hx hb dX5_putCrossing_60 (by decide) ?_
  have hPc := hP.sub (ws' := [kJ mI cJ 3 (vp_updL (vp_updL (vp_updL fi 0 (((u / (z5_common u v)) * (fg 0)) + ((v / (z5_common u v)) * (fh 0)))) 1 (((u / (z5_common u v)) * (fg 1)) + ((v / (z5_common u v)) * (fh 1)))) 2 (((u / (z5_common u v)) * (fg 2)) + ((v / (z5_common u v)) * (fh 2))))]) [4] rfl
  have hDc := hD.sub (ws' := [kJ mI cJ 3 (vp_updL (vp_updL (vp_updL fi 0 (((u / (z5_common u v)) * (fg 0)) + ((v / (z5_common u v)) * (fh 0)))) 1 (((u / (z5_common u v)) * (fg 1)) + ((v / (z5_common u v)) * (fh 1)))) 2 (((u / (z5_common u v)) * (fg 2)) + ((v / (z5_common u v)) * (fh 2))))]) [4] (by decide) rfl
  refine cl_i (wc := [kJ mI cJ 3 (vp_updL (vp_updL (vp_updL fi 0 (((u / (z5_common u v)) * (fg 0)) + ((v / (z5_common u v)) * (fh 0)))) 1 (((u / (z5_common u v)) * (fg 1)) + ((v / (z5_common u v)) * (fh 1)))) 2 (((u / (z5_common u v)) * (fg 2)) + ((v / (z5_common u v)) * (fh 2))))]) (wr := [kM o mP mL mC mN mF mR mD mV mX mA mK cm mT pm mU mH mI, kJ mK cJ 6 fk, kJ mU cJ 3 fg, kJ mH cJ 3 fh]) (w1 := fun uu : Unit => [kJ mI cJ 3 ((z5_norm_3_3 (vp_updL (vp_updL (vp_updL fi 0 (((u / (z5_common u v)) * (fg 0)) + ((v / (z5_common u v)) * (fh 0)))) 1 (((u / (z5_common u v)) * (fg 1)) + ((v / (z5_common u v)) * (fh 1)))) 2 (((u / (z5_common u v)) * (fg 2)) + ((v / (z5_common u v)) * (fh 2))))).2)]) (wn := fun uu : Unit => [kM o mP mL mC mN mF mR mD mV mX mA mK cm mT pm mU mH mI, kJ mK cJ 6 fk, kJ mU cJ 3 fg, kJ mH cJ 3 fh, kJ mI cJ 3 ((z5_norm_3_3 (vp_updL (vp_updL (vp_updL fi 0 (((u / (z5_common u v)) * (fg 0)) + ((v / (z5_common u v)) * (fh 0)))) 1 (((u / (z5_common u v)) * (fg 1)) + ((v / (z5_common u v)) * (fh 1)))) 2 (((u / (z5_common u v)) * (fg 2)) + ((v / (z5_common u v)) * (fh 2))))).2)]) (va_runS (As := [.ref mI, .int 3]) (rest := []) ⟨hx, hb, hml, hown, hts⟩ (c_X5_norm_3_3 l D cI cJ mI (vp_updL (vp_updL (vp_updL fi 0 (((u / (z5_common u v)) * (fg 0)) + ((v / (z5_common u v)) * (fh 0)))) 1 (((u / (z5_common u v)) * (fg 1)) + ((v / (z5_common u v)) * (fh 1)))) 2 (((u / (z5_common u v)) * (fg 2)) + ((v / (z5_common u v)) * (fh 2)))) _) (va_cwS 2 hts gX5_putCrossing_X5_norm rfl rfl rfl (by decide +kernel) ⟨Nat.le_of_ble_eq_true rfl, Nat.le_of_ble_eq_true rfl⟩) ⟨gd_blP, gd_prP hPc hK hDc⟩ rfl rfl hl.1 rfl (lv_room (Nat.le_of_ble_eq_true rfl)) dX5_putCrossing_61 ⟨Nat.zero_le _, Nat.zero_le _⟩) hP hD hS hA [4] [0, 1, 2, 3] rfl rfl (by decide) (by decide) [0, 1, 2, 3, 4] (by decide) (fun _ => rfl) (fun r_61 uG H locs hw hP hD hS => ?_)
  have hP : va_P D vwCl [kM o mP mL mC mN mF mR mD mV mX mA mK cm mT pm mU mH mI, kJ mK cJ 6 fk, kJ mU cJ 3 fg, kJ mH cJ 3 fh, kJ mI cJ 3 ((z5_norm_3_3 (vp_updL (vp_updL (vp_updL fi 0 (((u / (z5_common u v)) * (fg 0)) + ((v / (z5_common u v)) * (fh 0)))) 1 (((u / (z5_common u v)) * (fg 1)) + ((v / (z5_common u v)) * (fh 1)))) 2 (((u / (z5_common u v)) * (fg 2)) + ((v / (z5_common u v)) * (fh 2))))).2)] H := hP
  have hD : va_D A [kM o mP mL mC mN mF mR mD mV mX mA mK cm mT pm mU mH mI, kJ mK cJ 6 fk, kJ mU cJ 3 fg, kJ mH cJ 3 fh, kJ mI cJ 3 ((z5_norm_3_3 (vp_updL (vp_updL (vp_updL fi 0 (((u / (z5_common u v)) * (fg 0)) + ((v / (z5_common u v)) * (fh 0)))) 1 (((u / (z5_common u v)) * (fg 1)) + ((v / (z5_common u v)) * (fh 1)))) 2 (((u / (z5_common u v)) * (fg 2)) + ((v / (z5_common u v)) * (fh 2))))).2)] := hD
  have ea_0 : (z5_norm_3_3 (vp_updL (vp_updL (vp_updL fi 0 (((u / (z5_common u v)) * (fg 0)) + ((v / (z5_common u v)) * (fh 0)))) 1 (((u / (z5_common u v)) * (fg 1)) + ((v / (z5_common u v)) * (fh 1)))) 2 (((u / (z5_common u v)) * (fg 2)) + ((v / (z5_common u v)) * (fh 2))))).2 = z5_putCrossing_1_v1 fg fh fi u v := by delta z5_putCrossing_1_v1; rfl
  rw [ea_0] at hP hD
  clear ea_0
  subst hw
  refine lv_eqi (v := z5_putCrossing_1_v2 fg fh fi u v) (by delta z5_putCrossing_1_v2; rfl) ?_
  clear hPc hDc
  refine lv_istore (lv' := [(8, .int (z5_putCrossing_1_v2 fg fh fi u v)), (6, .long (z5_common u v)), (0, .ref o), (1, .int 1), (2, .long u), (4, .long v)]) hx hb dX5_putCrossing_64 hl (by decide) rfl (fun ls hl => ?_)
  refine lv_iconst (v := 0) hx hb dX5_putCrossing_66 (by decide) ?_
  refine lv_istore (lv' := [(9, .int 0), (8, .int (z5_putCrossing_1_v2 fg fh fi u v)), (6, .long (z5_common u v)), (0, .ref o), (1, .int 1), (2, .long u), (4, .long v)]) hx hb dX5_putCrossing_67 hl (by decide) rfl (fun ls hl => ?_)
  refine lv_iload hx hb dX5_putCrossing_69 (lv_at hl 0 rfl) ?_
  refine lv_iconst (v := 3) hx hb dX5_putCrossing_71 (by decide) ?_
  refine lv_icmp_ge (tgt := 99) hx hb dX5_putCrossing_72 (by decide) (fun h => absurd h (by decide)) (fun _ => ?_)
  refine lv_aload_n hx hb dX5_putCrossing_75 rfl (lv_at hl 3 rfl) ?_
  refine va_get (D := D) (ci := 5) (v := .ref mK) (C := RX5) (T := TX5) (N := 17) hx hb hts k_2 hown hK.1 hP 0 rfl rfl 10 (by decide) k_5 (fun _ h9 => h9) rfl dX5_putCrossing_76 ?_
  refine lv_iconst (v := 3) hx hb dX5_putCrossing_79 (by decide) ?_
  refine lv_iload_n hx hb dX5_putCrossing_80 rfl (lv_at hl 4 rfl) ?_
  refine lv_imul hx hb dX5_putCrossing_81 ?_
  refine lv_eqi (v := 3) (by decide) ?_
  refine lv_iload hx hb dX5_putCrossing_82 (lv_at hl 0 rfl) ?_
  refine lv_iadd hx hb dX5_putCrossing_84 ?_
  refine lv_eqi (v := 3) (by decide) ?_
  refine lv_aload_n hx hb dX5_putCrossing_85 rfl (lv_at hl 3 rfl) ?_
  refine va_get (D := D) (ci := 5) (v := .ref mI) (C := RX5) (T := TX5) (N := 17) hx hb hts k_2 hown hK.1 hP 0 rfl rfl 16 (by decide) k_1 (fun _ h9 => h9) rfl dX5_putCrossing_86 ?_
  refine lv_iload hx hb dX5_putCrossing_89 (lv_at hl 0 rfl) ?_
  refine ld_l hx hb hK.1 hP 4 1 rfl rfl (ix_lit (by decide)) 0 (by decide) (v := (z5_putCrossing_1_v1 fg fh fi u v) 0) rfl dX5_putCrossing_91 ?_
  refine st_l hx hb hK.1 hP hD hS 1 1 rfl rfl (ix_lit (by decide)) 3 (by decide) dX5_putCrossing_92 (fun H locs hP hD hS => ?_)
  have hP : va_P D vwCl [kM o mP mL mC mN mF mR mD mV mX mA mK cm mT pm mU mH mI, kJ mK cJ 6 (vp_updL fk 3 ((z5_putCrossing_1_v1 fg fh fi u v) 0)), kJ mU cJ 3 fg, kJ mH cJ 3 fh, kJ mI cJ 3 (z5_putCrossing_1_v1 fg fh fi u v)] H := hP
  have hD : va_D A [kM o mP mL mC mN mF mR mD mV mX mA mK cm mT pm mU mH mI, kJ mK cJ 6 (vp_updL fk 3 ((z5_putCrossing_1_v1 fg fh fi u v) 0)), kJ mU cJ 3 fg, kJ mH cJ 3 fh, kJ mI cJ 3 (z5_putCrossing_1_v1 fg fh fi u v)] := hD
  refine lv_iinc (v := 1) (lv' := [(9, .int 1), (8, .int (z5_putCrossing_1_v2 fg fh fi u v)), (6, .long (z5_common u v)), (0, .ref o), (1, .int 1), (2, .long u), (4, .long v)]) hx hb dX5_putCrossing_93 hl (k := 0) rfl (by decide) (by decide) rfl (fun ls hl => ?_)
  refine lv_goto (tgt := 69) hx hb dX5_putCrossing_96 (by decide) ?_
  refine lv_iload hx hb dX5_putCrossing_69 (lv_at hl 0 rfl) ?_
  refine lv_iconst (v := 3) hx hb dX5_putCrossing_71 (by decide) ?_
  refine lv_icmp_ge (tgt := 99) hx hb dX5_putCrossing_72 (by decide) (fun h => absurd h (by decide)) (fun _ => ?_)
  refine lv_aload_n hx hb dX5_putCrossing_75 rfl (lv_at hl 3 rfl) ?_
  refine va_get (D := D) (ci := 5) (v := .ref mK) (C := RX5) (T := TX5) (N := 17) hx hb hts k_2 hown hK.1 hP 0 rfl rfl 10 (by decide) k_5 (fun _ h9 => h9) rfl dX5_putCrossing_76 ?_
  refine lv_iconst (v := 3) hx hb dX5_putCrossing_79 (by decide) ?_
  refine lv_iload_n hx hb dX5_putCrossing_80 rfl (lv_at hl 4 rfl) ?_
  refine lv_imul hx hb dX5_putCrossing_81 ?_
  refine lv_eqi (v := 3) (by decide) ?_
  refine lv_iload hx hb dX5_putCrossing_82 (lv_at hl 0 rfl) ?_
  refine lv_iadd hx hb dX5_putCrossing_84 ?_
  refine lv_eqi (v := 4) (by decide) ?_
  refine lv_aload_n hx hb dX5_putCrossing_85 rfl (lv_at hl 3 rfl) ?_
  refine va_get (D := D) (ci := 5) (v := .ref mI) (C := RX5) (T := TX5) (N := 17) hx hb hts k_2 hown hK.1 hP 0 rfl rfl 16 (by decide) k_1 (fun _ h9 => h9) rfl dX5_putCrossing_86 ?_
  refine lv_iload hx hb dX5_putCrossing_89 (lv_at hl 0 rfl) ?_
  refine ld_l hx hb hK.1 hP 4 1 rfl rfl (ix_lit (by decide)) 1 (by decide) (v := (z5_putCrossing_1_v1 fg fh fi u v) 1) rfl dX5_putCrossing_91 ?_
  refine st_l hx hb hK.1 hP hD hS 1 1 rfl rfl (ix_lit (by decide)) 4 (by decide) dX5_putCrossing_92 (fun H locs hP hD hS => ?_)
  have hP : va_P D vwCl [kM o mP mL mC mN mF mR mD mV mX mA mK cm mT pm mU mH mI, kJ mK cJ 6 (vp_updL (vp_updL fk 3 ((z5_putCrossing_1_v1 fg fh fi u v) 0)) 4 ((z5_putCrossing_1_v1 fg fh fi u v) 1)), kJ mU cJ 3 fg, kJ mH cJ 3 fh, kJ mI cJ 3 (z5_putCrossing_1_v1 fg fh fi u v)] H := hP
  have hD : va_D A [kM o mP mL mC mN mF mR mD mV mX mA mK cm mT pm mU mH mI, kJ mK cJ 6 (vp_updL (vp_updL fk 3 ((z5_putCrossing_1_v1 fg fh fi u v) 0)) 4 ((z5_putCrossing_1_v1 fg fh fi u v) 1)), kJ mU cJ 3 fg, kJ mH cJ 3 fh, kJ mI cJ 3 (z5_putCrossing_1_v1 fg fh fi u v)] := hD
  refine lv_iinc (v := 2) (lv' := [(9, .int 2), (8, .int (z5_putCrossing_1_v2 fg fh fi u v)), (6, .long (z5_common u v)), (0, .ref o), (1, .int 1), (2, .long u), (4, .long v)]) hx hb dX5_putCrossing_93 hl (k := 0) rfl (by decide) (by decide) rfl (fun ls hl => ?_)
  refine lv_goto (tgt := 69) hx hb dX5_putCrossing_96 (by decide) ?_
  refine lv_iload hx hb dX5_putCrossing_69 (lv_at hl 0 rfl) ?_
  refine lv_iconst (v := 3) hx hb dX5_putCrossing_71 (by decide) ?_
  refine lv_icmp_ge (tgt := 99) hx hb dX5_putCrossing_72 (by decide) (fun h => absurd h (by decide)) (fun _ => ?_)
  refine lv_aload_n hx hb dX5_putCrossing_75 rfl (lv_at hl 3 rfl) ?_
  refine va_get (D := D) (ci := 5) (v := .ref mK) (C := RX5) (T := TX5) (N := 17) hx hb hts k_2 hown hK.1 hP 0 rfl rfl 10 (by decide) k_5 (fun _ h9 => h9) rfl dX5_putCrossing_76 ?_
  refine lv_iconst (v := 3) hx hb dX5_putCrossing_79 (by decide) ?_
  refine lv_iload_n hx hb dX5_putCrossing_80 rfl (lv_at hl 4 rfl) ?_
  refine lv_imul hx hb dX5_putCrossing_81 ?_
  refine lv_eqi (v := 3) (by decide) ?_
  refine lv_iload hx hb dX5_putCrossing_82 (lv_at hl 0 rfl) ?_
  refine lv_iadd hx hb dX5_putCrossing_84 ?_
  refine lv_eqi (v := 5) (by decide) ?_
  refine lv_aload_n hx hb dX5_putCrossing_85 rfl (lv_at hl 3 rfl) ?_
  refine va_get (D := D) (ci := 5) (v := .ref mI) (C := RX5) (T := TX5) (N := 17) hx hb hts k_2 hown hK.1 hP 0 rfl rfl 16 (by decide) k_1 (fun _ h9 => h9) rfl dX5_putCrossing_86 ?_
  refine lv_iload hx hb dX5_putCrossing_89 (lv_at hl 0 rfl) ?_
  refine ld_l hx hb hK.1 hP 4 1 rfl rfl (ix_lit (by decide)) 2 (by decide) (v := (z5_putCrossing_1_v1 fg fh fi u v) 2) rfl dX5_putCrossing_91 ?_
  refine st_l hx hb hK.1 hP hD hS 1 1 rfl rfl (ix_lit (by decide)) 5 (by decide) dX5_putCrossing_92 (fun H locs hP hD hS => ?_)
  have hP : va_P D vwCl [kM o mP mL mC mN mF mR mD mV mX mA mK cm mT pm mU mH mI, kJ mK cJ 6 (vp_updL (vp_updL (vp_updL fk 3 ((z5_putCrossing_1_v1 fg fh fi u v) 0)) 4 ((z5_putCrossing_1_v1 fg fh fi u v) 1)) 5 ((z5_putCrossing_1_v1 fg fh fi u v) 2)), kJ mU cJ 3 fg, kJ mH cJ 3 fh, kJ mI cJ 3 (z5_putCrossing_1_v1 fg fh fi u v)] H := hP
  have hD : va_D A [kM o mP mL mC mN mF mR mD mV mX mA mK cm mT pm mU mH mI, kJ mK cJ 6 (vp_updL (vp_updL (vp_updL fk 3 ((z5_putCrossing_1_v1 fg fh fi u v) 0)) 4 ((z5_putCrossing_1_v1 fg fh fi u v) 1)) 5 ((z5_putCrossing_1_v1 fg fh fi u v) 2)), kJ mU cJ 3 fg, kJ mH cJ 3 fh, kJ mI cJ 3 (z5_putCrossing_1_v1 fg fh fi u v)] := hD
  refine lv_iinc (v := 3) (lv' := [(9, .int 3), (8, .int (z5_putCrossing_1_v2 fg fh fi u v)), (6, .long (z5_common u v)), (0, .ref o), (1, .int 1), (2, .long u), (4, .long v)]) hx hb dX5_putCrossing_93 hl (k := 0) rfl (by decide) (by decide) rfl (fun ls hl => ?_)
  refine lv_goto (tgt := 69) hx hb dX5_putCrossing_96 (by decide) ?_
  refine lv_iload hx hb dX5_putCrossing_69 (lv_at hl 0 rfl) ?_
  refine lv_iconst (v := 3) hx hb dX5_putCrossing_71 (by decide) ?_
  refine lv_icmp_ge (tgt := 99) hx hb dX5_putCrossing_72 (by decide) (fun _ => ?_) (fun h => absurd (by decide) h)
  have he_0 : z5_putCrossing_1_f1 fk fg fh fi u v = vp_updL (vp_updL (vp_updL fk 3 ((z5_putCrossing_1_v1 fg fh fi u v) 0)) 4 ((z5_putCrossing_1_v1 fg fh fi u v) 1)) 5 ((z5_putCrossing_1_v1 fg fh fi u v) 2) := by delta z5_putCrossing_1_f1; rfl
  have he_1 : z5_putCrossing_1_f4 fg fh fi u v = z5_putCrossing_1_v1 fg fh fi u v := by delta z5_putCrossing_1_f4; rfl
  exact rt_v (w1 := fun uu : Unit => [kM o mP mL mC mN mF mR mD mV mX mA mK cm mT pm mU mH mI, kJ mK cJ 6 (z5_putCrossing_1_f1 fk fg fh fi u v), kJ mU cJ 3 fg, kJ mH cJ 3 fh, kJ mI cJ 3 (z5_putCrossing_1_f4 fg fh fi u v)]) hx hb hr hlk hS dX5_putCrossing_99 (()) trivial (by rw [he_0, he_1]; exact hP) (by rw [he_0, he_1]; exact hD)
def z5_layTwo_v1 (gl : Nat → Int32) (fg : Nat → Int64) (i : Int32) : Nat → Int64 := (z5_norm_3_3 (vp_updL (vp_updL (vp_updL fg 0 ((gl (((3 * i) + 1).toNatClampNeg)).toInt64)) 1 (-((gl ((3 * i).toNatClampNeg)).toInt64))) 2 0)).2
def z5_layTwo_v2 (gl : Nat → Int32) (fh : Nat → Int64) (i : Int32) : Nat → Int64 := vp_updL (vp_updL (vp_updL fh 0 ((gl (((3 * i) + 2).toNatClampNeg)).toInt64)) 1 0) 2 (-((gl ((3 * i).toNatClampNeg)).toInt64))
def z5_layTwo_v3 (gl : Nat → Int32) (fg : Nat → Int64) (i : Int32) : Int32 := (z5_norm_3_3 (vp_updL (vp_updL (vp_updL fg 0 ((gl (((3 * i) + 1).toNatClampNeg)).toInt64)) 1 (-((gl ((3 * i).toNatClampNeg)).toInt64))) 2 0)).1
def z5_layTwo_v4 (gl : Nat → Int32) (fh : Nat → Int64) (i : Int32) : Nat → Int64 := vp_updL (vp_updL (vp_updL fh 0 0) 1 ((gl (((3 * i) + 2).toNatClampNeg)).toInt64)) 2 (-((gl (((3 * i) + 1).toNatClampNeg)).toInt64))
def z5_layTwo_v5 (gl : Nat → Int32) (fg : Nat → Int64) (i : Int32) : Nat → Int64 := (z5_norm_3_3 (vp_updL (vp_updL (vp_updL (vp_updL (vp_updL fg 0 ((gl (((3 * i) + 1).toNatClampNeg)).toInt64)) 1 (-((gl ((3 * i).toNatClampNeg)).toInt64))) 2 0) 0 1) 1 0)).2
def z5_layTwo_v6 (gl : Nat → Int32) (fh : Nat → Int64) (i : Int32) : Nat → Int64 := vp_updL (vp_updL (vp_updL (vp_updL (vp_updL (vp_updL fh 0 0) 1 ((gl (((3 * i) + 2).toNatClampNeg)).toInt64)) 2 (-((gl (((3 * i) + 1).toNatClampNeg)).toInt64))) 0 0) 1 1) 2 0
def z5_layTwo_v7 (gl : Nat → Int32) (fg : Nat → Int64) (i : Int32) : Int32 := (z5_norm_3_3 (vp_updL (vp_updL (vp_updL (vp_updL (vp_updL fg 0 ((gl (((3 * i) + 1).toNatClampNeg)).toInt64)) 1 (-((gl ((3 * i).toNatClampNeg)).toInt64))) 2 0) 0 1) 1 0)).1
def z5_layTwo (gl : Nat → Int32) (fg : Nat → Int64) (fh : Nat → Int64) (i : Int32) : (Nat → Int64) × (Nat → Int64) := if ((gl (((3 * i) + 2).toNatClampNeg)).toInt64) = 0 then if ((gl (((3 * i) + 1).toNatClampNeg)).toInt64) = 0 then if ((gl ((3 * i).toNatClampNeg)).toInt64) = 0 then if ((z5_norm_3_3 (vp_updL (vp_updL (vp_updL (vp_updL (vp_updL fg 0 0) 1 1) 2 0) 0 1) 1 0)).1) = 0 then ((z5_norm_3_3 (vp_updL (vp_updL (vp_updL (vp_updL (vp_updL fg 0 0) 1 1) 2 0) 0 1) 1 0)).2, z5_layTwo_v6 gl fh i) else if ((z5_norm_3_3 (z5_layTwo_v6 gl fh i)).1) = 0 then ((z5_norm_3_3 (vp_updL (vp_updL (vp_updL (vp_updL (vp_updL fg 0 0) 1 1) 2 0) 0 1) 1 0)).2, (z5_norm_3_3 (z5_layTwo_v6 gl fh i)).2) else ((z5_norm_3_3 (vp_updL (vp_updL (vp_updL (vp_updL (vp_updL fg 0 0) 1 1) 2 0) 0 1) 1 0)).2, (z5_norm_3_3 (z5_layTwo_v6 gl fh i)).2) else if ((z5_norm_3_3 (vp_updL (vp_updL (vp_updL fg 0 0) 1 1) 2 0)).1) = 0 then ((z5_norm_3_3 (vp_updL (vp_updL (vp_updL fg 0 0) 1 1) 2 0)).2, z5_layTwo_v2 gl fh i) else if ((z5_norm_3_3 (z5_layTwo_v2 gl fh i)).1) = 0 then ((z5_norm_3_3 (vp_updL (vp_updL (vp_updL fg 0 0) 1 1) 2 0)).2, (z5_norm_3_3 (z5_layTwo_v2 gl fh i)).2) else ((z5_norm_3_3 (vp_updL (vp_updL (vp_updL fg 0 0) 1 1) 2 0)).2, (z5_norm_3_3 (z5_layTwo_v2 gl fh i)).2) else if ((gl ((3 * i).toNatClampNeg)).toInt64) = 0 then if (z5_layTwo_v3 gl fg i) = 0 then (z5_layTwo_v1 gl fg i, z5_layTwo_v4 gl fh i) else if ((z5_norm_3_3 (z5_layTwo_v4 gl fh i)).1) = 0 then (z5_layTwo_v1 gl fg i, (z5_norm_3_3 (z5_layTwo_v4 gl fh i)).2) else (z5_layTwo_v1 gl fg i, (z5_norm_3_3 (z5_layTwo_v4 gl fh i)).2) else if (z5_layTwo_v3 gl fg i) = 0 then (z5_layTwo_v1 gl fg i, z5_layTwo_v2 gl fh i) else if ((z5_norm_3_3 (z5_layTwo_v2 gl fh i)).1) = 0 then (z5_layTwo_v1 gl fg i, (z5_norm_3_3 (z5_layTwo_v2 gl fh i)).2) else (z5_layTwo_v1 gl fg i, (z5_norm_3_3 (z5_layTwo_v2 gl fh i)).2) else if ((gl ((3 * i).toNatClampNeg)).toInt64) = 0 then if ((gl (((3 * i) + 1).toNatClampNeg)).toInt64) = 0 then if (z5_layTwo_v7 gl fg i) = 0 then (z5_layTwo_v5 gl fg i, z5_layTwo_v6 gl fh i) else if ((z5_norm_3_3 (z5_layTwo_v6 gl fh i)).1) = 0 then (z5_layTwo_v5 gl fg i, (z5_norm_3_3 (z5_layTwo_v6 gl fh i)).2) else (z5_layTwo_v5 gl fg i, (z5_norm_3_3 (z5_layTwo_v6 gl fh i)).2) else if (z5_layTwo_v3 gl fg i) = 0 then (z5_layTwo_v1 gl fg i, z5_layTwo_v4 gl fh i) else if ((z5_norm_3_3 (z5_layTwo_v4 gl fh i)).1) = 0 then (z5_layTwo_v1 gl fg i, (z5_norm_3_3 (z5_layTwo_v4 gl fh i)).2) else (z5_layTwo_v1 gl fg i, (z5_norm_3_3 (z5_layTwo_v4 gl fh i)).2) else if (z5_layTwo_v3 gl fg i) = 0 then (z5_layTwo_v1 gl fg i, z5_layTwo_v2 gl fh i) else if ((z5_norm_3_3 (z5_layTwo_v2 gl fh i)).1) = 0 then (z5_layTwo_v1 gl fg i, (z5_norm_3_3 (z5_layTwo_v2 gl fh i)).2) else (z5_layTwo_v1 gl fg i, (z5_norm_3_3 (z5_layTwo_v2 gl fh i)).2)
set_option maxHeartbeats 4000000 in
set_option maxRecDepth 100000 in
/-- X5.layTwo -/
theorem c_X5_layTwo (l : Launch) (D : va_G) (cI cJ : ClassId) (o : Nat) (mP : Nat) (mL : Nat) (mC : Nat) (mN : Nat) (mF : Nat) (mR : Nat) (mD : Nat) (mV : Nat) (mX : Nat) (mA : Nat) (mK : Nat) (mT : Nat) (mU : Nat) (mH : Nat) (mI : Nat) (cm : Int32) (pm : Int32) (gl : Nat → Int32) (fg : Nat → Int64) (fh : Nat → Int64) (i : Int32) (hi : ok_i i) : mw_C l yX5_layTwo wsX5_layTwo ({ frames := 2, cells := 0, slots := 0, locals := 54 }) D cI cJ [.ref o, .int i] [kM o mP mL mC mN mF mR mD mV mX mA mK cm mT pm mU mH mI, kA mL cI 180 gl, kJ mU cJ 3 fg, kJ mH cJ 3 fh] (qe_v (fun _ : Unit => True) (fun uu => [kM o mP mL mC mN mF mR mD mV mX mA mK cm mT pm mU mH mI, kA mL cI 180 gl, kJ mU cJ 3 ((z5_layTwo gl fg fh i).1), kJ mH cJ 3 ((z5_layTwo gl fg fh i).2)])) := by
  refine mw_in (cc := cX5_layTwo) (lv := [(0, .ref o), (1, .int i)]) (by decide) rfl (Nat.le_of_ble_eq_true rfl) rfl ?_
  intro pG eG sG mG below meth cG ls A hx hb hr hml hown hts hlk hin hP hK hD hA hS hl
  have hown : sG.vm.findClass RX5 = some mG.cls := hown
  have k_1 := hts (.fieldLink RX5 13 "ConicRowsModel" "lines" "[I") (by decide +kernel)
  have k_2 : ∀ w ∈ wsX50, w ∈ wsX5_layTwo := by decide +kernel
  have k_3 := hts (.fieldLink RX5 47 "ConicRowsModel" "first" "[J") (by decide +kernel)
  have k_4 := hts (.fieldLink RX5 50 "ConicRowsModel" "second" "[J") (by decide +kernel)
  refine lv_aload_n hx hb dX5_layTwo_0 rfl (lv_at hl 0 rfl) ?_
  refine va_get (D := D) (ci := 5) (v := .ref mL) (C := RX5) (T := TX5) (N := 17) hx hb hts k_2 hown hK.1 hP 0 rfl rfl 1 (by decide) k_1 (fun _ h9 => h9) rfl dX5_layTwo_1 ?_
  refine lv_iconst (v := 3) hx hb dX5_layTwo_4 (by decide) ?_
  refine lv_iload_n hx hb dX5_layTwo_5 rfl (lv_at hl 1 rfl) ?_
  refine lv_imul hx hb dX5_layTwo_6 ?_
  refine ld_i hx hb hK.1 hP 1 0 rfl rfl (ix3z hi) ((3 * i).toNatClampNeg) rfl (v := gl ((3 * i).toNatClampNeg)) rfl dX5_layTwo_7 ?_
  refine lv_i2l hx hb dX5_layTwo_8 rfl ?_
  refine lv_lstore_n (lv' := [(2, .long ((gl ((3 * i).toNatClampNeg)).toInt64)), (0, .ref o), (1, .int i)]) hx hb dX5_layTwo_9 rfl hl (by decide) rfl (fun ls hl => ?_)
  refine lv_aload_n hx hb dX5_layTwo_10 rfl (lv_at hl 1 rfl) ?_
  refine va_get (D := D) (ci := 5) (v := .ref mL) (C := RX5) (T := TX5) (N := 17) hx hb hts k_2 hown hK.1 hP 0 rfl rfl 1 (by decide) k_1 (fun _ h9 => h9) rfl dX5_layTwo_11 ?_
  refine lv_iconst (v := 3) hx hb dX5_layTwo_14 (by decide) ?_
  refine lv_iload_n hx hb dX5_layTwo_15 rfl (lv_at hl 2 rfl) ?_
  refine lv_imul hx hb dX5_layTwo_16 ?_
  refine lv_iconst (v := 1) hx hb dX5_layTwo_17 (by decide) ?_
  refine lv_iadd hx hb dX5_layTwo_18 ?_
  refine ld_i hx hb hK.1 hP 1 0 rfl rfl (ix3l hi 1 (by decide)) (((3 * i) + 1).toNatClampNeg) rfl (v := gl (((3 * i) + 1).toNatClampNeg)) rfl dX5_layTwo_19 ?_
  refine lv_i2l hx hb dX5_layTwo_20 rfl ?_
  refine lv_lstore (lv' := [(4, .long ((gl (((3 * i) + 1).toNatClampNeg)).toInt64)), (2, .long ((gl ((3 * i).toNatClampNeg)).toInt64)), (0, .ref o), (1, .int i)]) hx hb dX5_layTwo_21 hl (by decide) rfl (fun ls hl => ?_)
  refine lv_aload_n hx hb dX5_layTwo_23 rfl (lv_at hl 2 rfl) ?_
  refine va_get (D := D) (ci := 5) (v := .ref mL) (C := RX5) (T := TX5) (N := 17) hx hb hts k_2 hown hK.1 hP 0 rfl rfl 1 (by decide) k_1 (fun _ h9 => h9) rfl dX5_layTwo_24 ?_
  refine lv_iconst (v := 3) hx hb dX5_layTwo_27 (by decide) ?_
  refine lv_iload_n hx hb dX5_layTwo_28 rfl (lv_at hl 3 rfl) ?_
  refine lv_imul hx hb dX5_layTwo_29 ?_
  refine lv_iconst (v := 2) hx hb dX5_layTwo_30 (by decide) ?_
  refine lv_iadd hx hb dX5_layTwo_31 ?_
  refine ld_i hx hb hK.1 hP 1 0 rfl rfl (ix3l hi 2 (by decide)) (((3 * i) + 2).toNatClampNeg) rfl (v := gl (((3 * i) + 2).toNatClampNeg)) rfl dX5_layTwo_32 ?_
  refine lv_i2l hx hb dX5_layTwo_33 rfl ?_
  refine lv_lstore (lv' := [(6, .long ((gl (((3 * i) + 2).toNatClampNeg)).toInt64)), (4, .long ((gl (((3 * i) + 1).toNatClampNeg)).toInt64)), (2, .long ((gl ((3 * i).toNatClampNeg)).toInt64)), (0, .ref o), (1, .int i)]) hx hb dX5_layTwo_34 hl (by decide) rfl (fun ls hl => ?_)
  refine lv_aload_n hx hb dX5_layTwo_36 rfl (lv_at hl 3 rfl) ?_
  refine va_get (D := D) (ci := 5) (v := .ref mU) (C := RX5) (T := TX5) (N := 17) hx hb hts k_2 hown hK.1 hP 0 rfl rfl 14 (by decide) k_3 (fun _ h9 => h9) rfl dX5_layTwo_37 ?_
  refine lv_iconst (v := 0) hx hb dX5_layTwo_40 (by decide) ?_
  refine lv_lload hx hb dX5_layTwo_41 (lv_at hl 0 rfl) ?_
  refine lv_lconst (v := 0) hx hb dX5_layTwo_43 (by decide) ?_
  refine lb_ne (tgt := 59) hx hb dX5_layTwo_44 rfl dX5_layTwo_45 (by decide) (fun c_1 => ?_) (fun c_1 => ?_)
  · skip
    refine lv_lload hx hb dX5_layTwo_59 (lv_at hl 1 rfl) ?_
    refine st_l hx hb hK.1 hP hD hS 2 1 rfl rfl (ix_lit (by decide)) 0 (by decide) dX5_layTwo_61 (fun H locs hP hD hS => ?_)
    have hP : va_P D vwCl [kM o mP mL mC mN mF mR mD mV mX mA mK cm mT pm mU mH mI, kA mL cI 180 gl, kJ mU cJ 3 (vp_updL fg 0 ((gl (((3 * i) + 1).toNatClampNeg)).toInt64)), kJ mH cJ 3 fh] H := hP
    have hD : va_D A [kM o mP mL mC mN mF mR mD mV mX mA mK cm mT pm mU mH mI, kA mL cI 180 gl, kJ mU cJ 3 (vp_updL fg 0 ((gl (((3 * i) + 1).toNatClampNeg)).toInt64)), kJ mH cJ 3 fh] := hD
    refine lv_aload_n hx hb dX5_layTwo_62 rfl (lv_at hl 3 rfl) ?_
    refine va_get (D := D) (ci := 5) (v := .ref mU) (C := RX5) (T := TX5) (N := 17) hx hb hts k_2 hown hK.1 hP 0 rfl rfl 14 (by decide) k_3 (fun _ h9 => h9) rfl dX5_layTwo_63 ?_
    refine lv_iconst (v := 1) hx hb dX5_layTwo_66 (by decide) ?_
    refine lv_lload hx hb dX5_layTwo_67 (lv_at hl 0 rfl) ?_
    refine lv_lconst (v := 0) hx hb dX5_layTwo_69 (by decide) ?_
    refine lb_ne (tgt := 85) hx hb dX5_layTwo_70 rfl dX5_layTwo_71 (by decide) (fun _ => ?_) (fun h => absurd h c_1)
    refine lv_lload_n hx hb dX5_layTwo_85 rfl (lv_at hl 2 rfl) ?_
    refine lv_lneg hx hb dX5_layTwo_86 ?_
    refine st_l hx hb hK.1 hP hD hS 2 1 rfl rfl (ix_lit (by decide)) 1 (by decide) dX5_layTwo_87 (fun H locs hP hD hS => ?_)
    have hP : va_P D vwCl [kM o mP mL mC mN mF mR mD mV mX mA mK cm mT pm mU mH mI, kA mL cI 180 gl, kJ mU cJ 3 (vp_updL (vp_updL fg 0 ((gl (((3 * i) + 1).toNatClampNeg)).toInt64)) 1 (-((gl ((3 * i).toNatClampNeg)).toInt64))), kJ mH cJ 3 fh] H := hP
    have hD : va_D A [kM o mP mL mC mN mF mR mD mV mX mA mK cm mT pm mU mH mI, kA mL cI 180 gl, kJ mU cJ 3 (vp_updL (vp_updL fg 0 ((gl (((3 * i) + 1).toNatClampNeg)).toInt64)) 1 (-((gl ((3 * i).toNatClampNeg)).toInt64))), kJ mH cJ 3 fh] := hD
    refine lv_aload_n hx hb dX5_layTwo_88 rfl (lv_at hl 3 rfl) ?_
    refine va_get (D := D) (ci := 5) (v := .ref mU) (C := RX5) (T := TX5) (N := 17) hx hb hts k_2 hown hK.1 hP 0 rfl rfl 14 (by decide) k_3 (fun _ h9 => h9) rfl dX5_layTwo_89 ?_
    refine lv_iconst (v := 2) hx hb dX5_layTwo_92 (by decide) ?_
    refine lv_lconst (v := 0) hx hb dX5_layTwo_93 (by decide) ?_
    refine st_l hx hb hK.1 hP hD hS 2 1 rfl rfl (ix_lit (by decide)) 2 (by decide) dX5_layTwo_94 (fun H locs hP hD hS => ?_)
    have hP : va_P D vwCl [kM o mP mL mC mN mF mR mD mV mX mA mK cm mT pm mU mH mI, kA mL cI 180 gl, kJ mU cJ 3 (vp_updL (vp_updL (vp_updL fg 0 ((gl (((3 * i) + 1).toNatClampNeg)).toInt64)) 1 (-((gl ((3 * i).toNatClampNeg)).toInt64))) 2 0), kJ mH cJ 3 fh] H := hP
    have hD : va_D A [kM o mP mL mC mN mF mR mD mV mX mA mK cm mT pm mU mH mI, kA mL cI 180 gl, kJ mU cJ 3 (vp_updL (vp_updL (vp_updL fg 0 ((gl (((3 * i) + 1).toNatClampNeg)).toInt64)) 1 (-((gl ((3 * i).toNatClampNeg)).toInt64))) 2 0), kJ mH cJ 3 fh] := hD
    refine lv_lload_n hx hb dX5_layTwo_95 rfl (lv_at hl 2 rfl) ?_
    refine lv_lconst (v := 0) hx hb dX5_layTwo_96 (by decide) ?_
    refine lb_ne (tgt := 122) hx hb dX5_layTwo_97 rfl dX5_layTwo_98 (by decide) (fun c_2 => ?_) (fun c_2 => ?_)
    · skip
      refine lv_aload_n hx hb dX5_layTwo_122 rfl (lv_at hl 3 rfl) ?_
      refine va_get (D := D) (ci := 5) (v := .ref mH) (C := RX5) (T := TX5) (N := 17) hx hb hts k_2 hown hK.1 hP 0 rfl rfl 15 (by decide) k_4 (fun _ h9 => h9) rfl dX5_layTwo_123 ?_
      refine lv_iconst (v := 0) hx hb dX5_layTwo_126 (by decide) ?_
      refine lv_lload_n hx hb dX5_layTwo_127 rfl (lv_at hl 2 rfl) ?_
      refine lv_lconst (v := 0) hx hb dX5_layTwo_128 (by decide) ?_
      refine lb_ne (tgt := 137) hx hb dX5_layTwo_129 rfl dX5_layTwo_130 (by decide) (fun _ => ?_) (fun h => absurd h c_2)
      refine lv_lload hx hb dX5_layTwo_137 (lv_at hl 0 rfl) ?_
      refine st_l hx hb hK.1 hP hD hS 3 1 rfl rfl (ix_lit (by decide)) 0 (by decide) dX5_layTwo_139 (fun H locs hP hD hS => ?_)
      have hP : va_P D vwCl [kM o mP mL mC mN mF mR mD mV mX mA mK cm mT pm mU mH mI, kA mL cI 180 gl, kJ mU cJ 3 (vp_updL (vp_updL (vp_updL fg 0 ((gl (((3 * i) + 1).toNatClampNeg)).toInt64)) 1 (-((gl ((3 * i).toNatClampNeg)).toInt64))) 2 0), kJ mH cJ 3 (vp_updL fh 0 ((gl (((3 * i) + 2).toNatClampNeg)).toInt64))] H := hP
      have hD : va_D A [kM o mP mL mC mN mF mR mD mV mX mA mK cm mT pm mU mH mI, kA mL cI 180 gl, kJ mU cJ 3 (vp_updL (vp_updL (vp_updL fg 0 ((gl (((3 * i) + 1).toNatClampNeg)).toInt64)) 1 (-((gl ((3 * i).toNatClampNeg)).toInt64))) 2 0), kJ mH cJ 3 (vp_updL fh 0 ((gl (((3 * i) + 2).toNatClampNeg)).toInt64))] := hD
      refine lv_aload_n hx hb dX5_layTwo_140 rfl (lv_at hl 3 rfl) ?_
      refine va_get (D := D) (ci := 5) (v := .ref mH) (C := RX5) (T := TX5) (N := 17) hx hb hts k_2 hown hK.1 hP 0 rfl rfl 15 (by decide) k_4 (fun _ h9 => h9) rfl dX5_layTwo_141 ?_
      refine lv_iconst (v := 1) hx hb dX5_layTwo_144 (by decide) ?_
      refine lv_lload_n hx hb dX5_layTwo_145 rfl (lv_at hl 2 rfl) ?_
      refine lv_lconst (v := 0) hx hb dX5_layTwo_146 (by decide) ?_
      refine lb_ne (tgt := 156) hx hb dX5_layTwo_147 rfl dX5_layTwo_148 (by decide) (fun _ => ?_) (fun h => absurd h c_2)
      refine lv_lconst (v := 0) hx hb dX5_layTwo_156 (by decide) ?_
      refine st_l hx hb hK.1 hP hD hS 3 1 rfl rfl (ix_lit (by decide)) 1 (by decide) dX5_layTwo_157 (fun H locs hP hD hS => ?_)
      have hP : va_P D vwCl [kM o mP mL mC mN mF mR mD mV mX mA mK cm mT pm mU mH mI, kA mL cI 180 gl, kJ mU cJ 3 (vp_updL (vp_updL (vp_updL fg 0 ((gl (((3 * i) + 1).toNatClampNeg)).toInt64)) 1 (-((gl ((3 * i).toNatClampNeg)).toInt64))) 2 0), kJ mH cJ 3 (vp_updL (vp_updL fh 0 ((gl (((3 * i) + 2).toNatClampNeg)).toInt64)) 1 0)] H := hP
      have hD : va_D A [kM o mP mL mC mN mF mR mD mV mX mA mK cm mT pm mU mH mI, kA mL cI 180 gl, kJ mU cJ 3 (vp_updL (vp_updL (vp_updL fg 0 ((gl (((3 * i) + 1).toNatClampNeg)).toInt64)) 1 (-((gl ((3 * i).toNatClampNeg)).toInt64))) 2 0), kJ mH cJ 3 (vp_updL (vp_updL fh 0 ((gl (((3 * i) + 2).toNatClampNeg)).toInt64)) 1 0)] := hD
      refine lv_aload_n hx hb dX5_layTwo_158 rfl (lv_at hl 3 rfl) ?_
      refine va_get (D := D) (ci := 5) (v := .ref mH) (C := RX5) (T := TX5) (N := 17) hx hb hts k_2 hown hK.1 hP 0 rfl rfl 15 (by decide) k_4 (fun _ h9 => h9) rfl dX5_layTwo_159 ?_
      refine lv_iconst (v := 2) hx hb dX5_layTwo_162 (by decide) ?_
      refine lv_lload_n hx hb dX5_layTwo_163 rfl (lv_at hl 2 rfl) ?_
      refine lv_lconst (v := 0) hx hb dX5_layTwo_164 (by decide) ?_
      refine lb_ne (tgt := 175) hx hb dX5_layTwo_165 rfl dX5_layTwo_166 (by decide) (fun _ => ?_) (fun h => absurd h c_2)
      refine lv_lload_n hx hb dX5_layTwo_175 rfl (lv_at hl 2 rfl) ?_
      refine lv_lneg hx hb dX5_layTwo_176 ?_
      refine st_l hx hb hK.1 hP hD hS 3 1 rfl rfl (ix_lit (by decide)) 2 (by decide) dX5_layTwo_177 (fun H locs hP hD hS => ?_)
      have hP : va_P D vwCl [kM o mP mL mC mN mF mR mD mV mX mA mK cm mT pm mU mH mI, kA mL cI 180 gl, kJ mU cJ 3 (vp_updL (vp_updL (vp_updL fg 0 ((gl (((3 * i) + 1).toNatClampNeg)).toInt64)) 1 (-((gl ((3 * i).toNatClampNeg)).toInt64))) 2 0), kJ mH cJ 3 (vp_updL (vp_updL (vp_updL fh 0 ((gl (((3 * i) + 2).toNatClampNeg)).toInt64)) 1 0) 2 (-((gl ((3 * i).toNatClampNeg)).toInt64)))] H := hP
      have hD : va_D A [kM o mP mL mC mN mF mR mD mV mX mA mK cm mT pm mU mH mI, kA mL cI 180 gl, kJ mU cJ 3 (vp_updL (vp_updL (vp_updL fg 0 ((gl (((3 * i) + 1).toNatClampNeg)).toInt64)) 1 (-((gl ((3 * i).toNatClampNeg)).toInt64))) 2 0), kJ mH cJ 3 (vp_updL (vp_updL (vp_updL fh 0 ((gl (((3 * i) + 2).toNatClampNeg)).toInt64)) 1 0) 2 (-((gl ((3 * i).toNatClampNeg)).toInt64)))] := hD
      refine lv_lload_n hx hb dX5_layTwo_178 rfl (lv_at hl 2 rfl) ?_
      refine lv_lconst (v := 0) hx hb dX5_layTwo_179 (by decide) ?_
      refine lb_ne (tgt := 212) hx hb dX5_layTwo_180 rfl dX5_layTwo_181 (by decide) (fun _ => ?_) (fun h => absurd h c_2)
      refine lv_aload_n hx hb dX5_layTwo_212 rfl (lv_at hl 3 rfl) ?_
      refine va_get (D := D) (ci := 5) (v := .ref mU) (C := RX5) (T := TX5) (N := 17) hx hb hts k_2 hown hK.1 hP 0 rfl rfl 14 (by decide) k_3 (fun _ h9 => h9) rfl dX5_layTwo_213 ?_
      refine lv_iconst (v := 3) hx hb dX5_layTwo_216 (by decide) ?_
      have hPc := hP.sub (ws' := [kJ mU cJ 3 (vp_updL (vp_updL (vp_updL fg 0 ((gl (((3 * i) + 1).toNatClampNeg)).toInt64)) 1 (-((gl ((3 * i).toNatClampNeg)).toInt64))) 2 0)]) [2] rfl
      have hDc := hD.sub (ws' := [kJ mU cJ 3 (vp_updL (vp_updL (vp_updL fg 0 ((gl (((3 * i) + 1).toNatClampNeg)).toInt64)) 1 (-((gl ((3 * i).toNatClampNeg)).toInt64))) 2 0)]) [2] (by decide) rfl
      refine cl_i (wc := [kJ mU cJ 3 (vp_updL (vp_updL (vp_updL fg 0 ((gl (((3 * i) + 1).toNatClampNeg)).toInt64)) 1 (-((gl ((3 * i).toNatClampNeg)).toInt64))) 2 0)]) (wr := [kM o mP mL mC mN mF mR mD mV mX mA mK cm mT pm mU mH mI, kA mL cI 180 gl, kJ mH cJ 3 (vp_updL (vp_updL (vp_updL fh 0 ((gl (((3 * i) + 2).toNatClampNeg)).toInt64)) 1 0) 2 (-((gl ((3 * i).toNatClampNeg)).toInt64)))]) (w1 := fun uu : Unit => [kJ mU cJ 3 ((z5_norm_3_3 (vp_updL (vp_updL (vp_updL fg 0 ((gl (((3 * i) + 1).toNatClampNeg)).toInt64)) 1 (-((gl ((3 * i).toNatClampNeg)).toInt64))) 2 0)).2)]) (wn := fun uu : Unit => [kM o mP mL mC mN mF mR mD mV mX mA mK cm mT pm mU mH mI, kA mL cI 180 gl, kJ mU cJ 3 ((z5_norm_3_3 (vp_updL (vp_updL (vp_updL fg 0 ((gl (((3 * i) + 1).toNatClampNeg)).toInt64)) 1 (-((gl ((3 * i).toNatClampNeg)).toInt64))) 2 0)).2), kJ mH cJ 3 (vp_updL (vp_updL (vp_updL fh 0 ((gl (((3 * i) + 2).toNatClampNeg)).toInt64)) 1 0) 2 (-((gl ((3 * i).toNatClampNeg)).toInt64)))]) (va_runS (As := [.ref mU, .int 3]) (rest := []) ⟨hx, hb, hml, hown, hts⟩ (c_X5_norm_3_3 l D cI cJ mU (vp_updL (vp_updL (vp_updL fg 0 ((gl (((3 * i) + 1).toNatClampNeg)).toInt64)) 1 (-((gl ((3 * i).toNatClampNeg)).toInt64))) 2 0) _) (va_cwS 2 hts gX5_layTwo_X5_norm rfl rfl rfl (by decide +kernel) ⟨Nat.le_of_ble_eq_true rfl, Nat.le_of_ble_eq_true rfl⟩) ⟨gd_blP, gd_prP hPc hK hDc⟩ rfl rfl hl.1 rfl (lv_room (Nat.le_of_ble_eq_true rfl)) dX5_layTwo_217 ⟨Nat.zero_le _, Nat.zero_le _⟩) hP hD hS hA [2] [0, 1, 3] rfl rfl (by decide) (by decide) [0, 1, 3, 2] (by decide) (fun _ => rfl) (fun r_217 uG H locs hw hP hD hS => ?_)
      have hP : va_P D vwCl [kM o mP mL mC mN mF mR mD mV mX mA mK cm mT pm mU mH mI, kA mL cI 180 gl, kJ mU cJ 3 ((z5_norm_3_3 (vp_updL (vp_updL (vp_updL fg 0 ((gl (((3 * i) + 1).toNatClampNeg)).toInt64)) 1 (-((gl ((3 * i).toNatClampNeg)).toInt64))) 2 0)).2), kJ mH cJ 3 (vp_updL (vp_updL (vp_updL fh 0 ((gl (((3 * i) + 2).toNatClampNeg)).toInt64)) 1 0) 2 (-((gl ((3 * i).toNatClampNeg)).toInt64)))] H := hP
      have hD : va_D A [kM o mP mL mC mN mF mR mD mV mX mA mK cm mT pm mU mH mI, kA mL cI 180 gl, kJ mU cJ 3 ((z5_norm_3_3 (vp_updL (vp_updL (vp_updL fg 0 ((gl (((3 * i) + 1).toNatClampNeg)).toInt64)) 1 (-((gl ((3 * i).toNatClampNeg)).toInt64))) 2 0)).2), kJ mH cJ 3 (vp_updL (vp_updL (vp_updL fh 0 ((gl (((3 * i) + 2).toNatClampNeg)).toInt64)) 1 0) 2 (-((gl ((3 * i).toNatClampNeg)).toInt64)))] := hD
      have ea_0 : (z5_norm_3_3 (vp_updL (vp_updL (vp_updL fg 0 ((gl (((3 * i) + 1).toNatClampNeg)).toInt64)) 1 (-((gl ((3 * i).toNatClampNeg)).toInt64))) 2 0)).2 = z5_layTwo_v1 gl fg i := by delta z5_layTwo_v1; rfl
      have ea_1 : vp_updL (vp_updL (vp_updL fh 0 ((gl (((3 * i) + 2).toNatClampNeg)).toInt64)) 1 0) 2 (-((gl ((3 * i).toNatClampNeg)).toInt64)) = z5_layTwo_v2 gl fh i := by delta z5_layTwo_v2; rfl
      rw [ea_0, ea_1] at hP hD
      clear ea_0 ea_1
      subst hw
      refine lv_eqi (v := z5_layTwo_v3 gl fg i) (by delta z5_layTwo_v3; rfl) ?_
      clear hPc hDc
      refine lv_if_eq (tgt := 238) hx hb dX5_layTwo_220 (by decide) (fun c_3 => ?_) (fun c_3 => ?_)
      · skip
        refine lv_iconst (v := 0) hx hb dX5_layTwo_238 (by decide) ?_
        refine lv_istore (lv' := [(8, .int 0), (6, .long ((gl (((3 * i) + 2).toNatClampNeg)).toInt64)), (4, .long ((gl (((3 * i) + 1).toNatClampNeg)).toInt64)), (2, .long ((gl ((3 * i).toNatClampNeg)).toInt64)), (0, .ref o), (1, .int i)]) hx hb dX5_layTwo_239 hl (by decide) rfl (fun ls hl => ?_)
        have he : z5_layTwo gl fg fh i = (z5_layTwo_v1 gl fg i, z5_layTwo_v2 gl fh i) := by unfold z5_layTwo; rw [if_neg c_1, if_neg c_2, if_pos c_3]
        have he_0 : (z5_layTwo gl fg fh i).1 = z5_layTwo_v1 gl fg i := by rw [he]
        have he_1 : (z5_layTwo gl fg fh i).2 = z5_layTwo_v2 gl fh i := by rw [he]
        exact rt_v (w1 := fun uu : Unit => [kM o mP mL mC mN mF mR mD mV mX mA mK cm mT pm mU mH mI, kA mL cI 180 gl, kJ mU cJ 3 ((z5_layTwo gl fg fh i).1), kJ mH cJ 3 ((z5_layTwo gl fg fh i).2)]) hx hb hr hlk hS dX5_layTwo_241 (()) trivial (by rw [he_0, he_1]; exact hP) (by rw [he_0, he_1]; exact hD)
      · skip
        refine lv_aload_n hx hb dX5_layTwo_223 rfl (lv_at hl 3 rfl) ?_
        refine va_get (D := D) (ci := 5) (v := .ref mH) (C := RX5) (T := TX5) (N := 17) hx hb hts k_2 hown hK.1 hP 0 rfl rfl 15 (by decide) k_4 (fun _ h9 => h9) rfl dX5_layTwo_224 ?_
        refine lv_iconst (v := 3) hx hb dX5_layTwo_227 (by decide) ?_
        have hPc := hP.sub (ws' := [kJ mH cJ 3 (z5_layTwo_v2 gl fh i)]) [3] rfl
        have hDc := hD.sub (ws' := [kJ mH cJ 3 (z5_layTwo_v2 gl fh i)]) [3] (by decide) rfl
        refine cl_i (wc := [kJ mH cJ 3 (z5_layTwo_v2 gl fh i)]) (wr := [kM o mP mL mC mN mF mR mD mV mX mA mK cm mT pm mU mH mI, kA mL cI 180 gl, kJ mU cJ 3 (z5_layTwo_v1 gl fg i)]) (w1 := fun uu : Unit => [kJ mH cJ 3 ((z5_norm_3_3 (z5_layTwo_v2 gl fh i)).2)]) (wn := fun uu : Unit => [kM o mP mL mC mN mF mR mD mV mX mA mK cm mT pm mU mH mI, kA mL cI 180 gl, kJ mU cJ 3 (z5_layTwo_v1 gl fg i), kJ mH cJ 3 ((z5_norm_3_3 (z5_layTwo_v2 gl fh i)).2)]) (va_runS (As := [.ref mH, .int 3]) (rest := []) ⟨hx, hb, hml, hown, hts⟩ (c_X5_norm_3_3 l D cI cJ mH (z5_layTwo_v2 gl fh i) _) (va_cwS 2 hts gX5_layTwo_X5_norm rfl rfl rfl (by decide +kernel) ⟨Nat.le_of_ble_eq_true rfl, Nat.le_of_ble_eq_true rfl⟩) ⟨gd_blP, gd_prP hPc hK hDc⟩ rfl rfl hl.1 rfl (lv_room (Nat.le_of_ble_eq_true rfl)) dX5_layTwo_228 ⟨Nat.zero_le _, Nat.zero_le _⟩) hP hD hS hA [3] [0, 1, 2] rfl rfl (by decide) (by decide) [0, 1, 2, 3] (by decide) (fun _ => rfl) (fun r_228 uG H locs hw hP hD hS => ?_)
        have hP : va_P D vwCl [kM o mP mL mC mN mF mR mD mV mX mA mK cm mT pm mU mH mI, kA mL cI 180 gl, kJ mU cJ 3 (z5_layTwo_v1 gl fg i), kJ mH cJ 3 ((z5_norm_3_3 (z5_layTwo_v2 gl fh i)).2)] H := hP
        have hD : va_D A [kM o mP mL mC mN mF mR mD mV mX mA mK cm mT pm mU mH mI, kA mL cI 180 gl, kJ mU cJ 3 (z5_layTwo_v1 gl fg i), kJ mH cJ 3 ((z5_norm_3_3 (z5_layTwo_v2 gl fh i)).2)] := hD
        subst hw
        clear hPc hDc
        refine lv_if_eq (tgt := 238) hx hb dX5_layTwo_231 (by decide) (fun c_4 => ?_) (fun c_4 => ?_)
        · skip
          refine lv_iconst (v := 0) hx hb dX5_layTwo_238 (by decide) ?_
          refine lv_istore (lv' := [(8, .int 0), (6, .long ((gl (((3 * i) + 2).toNatClampNeg)).toInt64)), (4, .long ((gl (((3 * i) + 1).toNatClampNeg)).toInt64)), (2, .long ((gl ((3 * i).toNatClampNeg)).toInt64)), (0, .ref o), (1, .int i)]) hx hb dX5_layTwo_239 hl (by decide) rfl (fun ls hl => ?_)
          have he : z5_layTwo gl fg fh i = (z5_layTwo_v1 gl fg i, (z5_norm_3_3 (z5_layTwo_v2 gl fh i)).2) := by unfold z5_layTwo; rw [if_neg c_1, if_neg c_2, if_neg c_3, if_pos c_4]
          have he_0 : (z5_layTwo gl fg fh i).1 = z5_layTwo_v1 gl fg i := by rw [he]
          have he_1 : (z5_layTwo gl fg fh i).2 = (z5_norm_3_3 (z5_layTwo_v2 gl fh i)).2 := by rw [he]
          exact rt_v (w1 := fun uu : Unit => [kM o mP mL mC mN mF mR mD mV mX mA mK cm mT pm mU mH mI, kA mL cI 180 gl, kJ mU cJ 3 ((z5_layTwo gl fg fh i).1), kJ mH cJ 3 ((z5_layTwo gl fg fh i).2)]) hx hb hr hlk hS dX5_layTwo_241 (()) trivial (by rw [he_0, he_1]; exact hP) (by rw [he_0, he_1]; exact hD)
        · skip
          refine lv_iconst (v := 1) hx hb dX5_layTwo_234 (by decide) ?_
          refine lv_goto (tgt := 239) hx hb dX5_layTwo_235 (by decide) ?_
          refine lv_istore (lv' := [(8, .int 1), (6, .long ((gl (((3 * i) + 2).toNatClampNeg)).toInt64)), (4, .long ((gl (((3 * i) + 1).toNatClampNeg)).toInt64)), (2, .long ((gl ((3 * i).toNatClampNeg)).toInt64)), (0, .ref o), (1, .int i)]) hx hb dX5_layTwo_239 hl (by decide) rfl (fun ls hl => ?_)
          have he : z5_layTwo gl fg fh i = (z5_layTwo_v1 gl fg i, (z5_norm_3_3 (z5_layTwo_v2 gl fh i)).2) := by unfold z5_layTwo; rw [if_neg c_1, if_neg c_2, if_neg c_3, if_neg c_4]
          have he_0 : (z5_layTwo gl fg fh i).1 = z5_layTwo_v1 gl fg i := by rw [he]
          have he_1 : (z5_layTwo gl fg fh i).2 = (z5_norm_3_3 (z5_layTwo_v2 gl fh i)).2 := by rw [he]
          exact rt_v (w1 := fun uu : Unit => [kM o mP mL mC mN mF mR mD mV mX mA mK cm mT pm mU mH mI, kA mL cI 180 gl, kJ mU cJ 3 ((z5_layTwo gl fg fh i).1), kJ mH cJ 3 ((z5_layTwo gl fg fh i).2)]) hx hb hr hlk hS dX5_layTwo_241 (()) trivial (by rw [he_0, he_1]; exact hP) (by rw [he_0, he_1]; exact hD)
    · skip
      refine lv_lload hx hb dX5_layTwo_101 (lv_at hl 1 rfl) ?_
      refine lv_lconst (v := 0) hx hb dX5_layTwo_103 (by decide) ?_
      refine lb_ne (tgt := 122) hx hb dX5_layTwo_104 rfl dX5_layTwo_105 (by decide) (fun c_5 => ?_) (fun c_5 => ?_)
      · skip
        refine lv_aload_n hx hb dX5_layTwo_122 rfl (lv_at hl 3 rfl) ?_
        refine va_get (D := D) (ci := 5) (v := .ref mH) (C := RX5) (T := TX5) (N := 17) hx hb hts k_2 hown hK.1 hP 0 rfl rfl 15 (by decide) k_4 (fun _ h9 => h9) rfl dX5_layTwo_123 ?_
        refine lv_iconst (v := 0) hx hb dX5_layTwo_126 (by decide) ?_
        refine lv_lload_n hx hb dX5_layTwo_127 rfl (lv_at hl 2 rfl) ?_
        refine lv_lconst (v := 0) hx hb dX5_layTwo_128 (by decide) ?_
        refine lb_ne (tgt := 137) hx hb dX5_layTwo_129 rfl dX5_layTwo_130 (by decide) (fun h => absurd c_2 h) (fun _ => ?_)
        refine lv_lconst (v := 0) hx hb dX5_layTwo_133 (by decide) ?_
        refine lv_goto (tgt := 139) hx hb dX5_layTwo_134 (by decide) ?_
        refine st_l hx hb hK.1 hP hD hS 3 1 rfl rfl (ix_lit (by decide)) 0 (by decide) dX5_layTwo_139 (fun H locs hP hD hS => ?_)
        have hP : va_P D vwCl [kM o mP mL mC mN mF mR mD mV mX mA mK cm mT pm mU mH mI, kA mL cI 180 gl, kJ mU cJ 3 (vp_updL (vp_updL (vp_updL fg 0 ((gl (((3 * i) + 1).toNatClampNeg)).toInt64)) 1 (-((gl ((3 * i).toNatClampNeg)).toInt64))) 2 0), kJ mH cJ 3 (vp_updL fh 0 0)] H := hP
        have hD : va_D A [kM o mP mL mC mN mF mR mD mV mX mA mK cm mT pm mU mH mI, kA mL cI 180 gl, kJ mU cJ 3 (vp_updL (vp_updL (vp_updL fg 0 ((gl (((3 * i) + 1).toNatClampNeg)).toInt64)) 1 (-((gl ((3 * i).toNatClampNeg)).toInt64))) 2 0), kJ mH cJ 3 (vp_updL fh 0 0)] := hD
        refine lv_aload_n hx hb dX5_layTwo_140 rfl (lv_at hl 3 rfl) ?_
        refine va_get (D := D) (ci := 5) (v := .ref mH) (C := RX5) (T := TX5) (N := 17) hx hb hts k_2 hown hK.1 hP 0 rfl rfl 15 (by decide) k_4 (fun _ h9 => h9) rfl dX5_layTwo_141 ?_
        refine lv_iconst (v := 1) hx hb dX5_layTwo_144 (by decide) ?_
        refine lv_lload_n hx hb dX5_layTwo_145 rfl (lv_at hl 2 rfl) ?_
        refine lv_lconst (v := 0) hx hb dX5_layTwo_146 (by decide) ?_
        refine lb_ne (tgt := 156) hx hb dX5_layTwo_147 rfl dX5_layTwo_148 (by decide) (fun h => absurd c_2 h) (fun _ => ?_)
        refine lv_lload hx hb dX5_layTwo_151 (lv_at hl 0 rfl) ?_
        refine lv_goto (tgt := 157) hx hb dX5_layTwo_153 (by decide) ?_
        refine st_l hx hb hK.1 hP hD hS 3 1 rfl rfl (ix_lit (by decide)) 1 (by decide) dX5_layTwo_157 (fun H locs hP hD hS => ?_)
        have hP : va_P D vwCl [kM o mP mL mC mN mF mR mD mV mX mA mK cm mT pm mU mH mI, kA mL cI 180 gl, kJ mU cJ 3 (vp_updL (vp_updL (vp_updL fg 0 ((gl (((3 * i) + 1).toNatClampNeg)).toInt64)) 1 (-((gl ((3 * i).toNatClampNeg)).toInt64))) 2 0), kJ mH cJ 3 (vp_updL (vp_updL fh 0 0) 1 ((gl (((3 * i) + 2).toNatClampNeg)).toInt64))] H := hP
        have hD : va_D A [kM o mP mL mC mN mF mR mD mV mX mA mK cm mT pm mU mH mI, kA mL cI 180 gl, kJ mU cJ 3 (vp_updL (vp_updL (vp_updL fg 0 ((gl (((3 * i) + 1).toNatClampNeg)).toInt64)) 1 (-((gl ((3 * i).toNatClampNeg)).toInt64))) 2 0), kJ mH cJ 3 (vp_updL (vp_updL fh 0 0) 1 ((gl (((3 * i) + 2).toNatClampNeg)).toInt64))] := hD
        refine lv_aload_n hx hb dX5_layTwo_158 rfl (lv_at hl 3 rfl) ?_
        refine va_get (D := D) (ci := 5) (v := .ref mH) (C := RX5) (T := TX5) (N := 17) hx hb hts k_2 hown hK.1 hP 0 rfl rfl 15 (by decide) k_4 (fun _ h9 => h9) rfl dX5_layTwo_159 ?_
        refine lv_iconst (v := 2) hx hb dX5_layTwo_162 (by decide) ?_
        refine lv_lload_n hx hb dX5_layTwo_163 rfl (lv_at hl 2 rfl) ?_
        refine lv_lconst (v := 0) hx hb dX5_layTwo_164 (by decide) ?_
        refine lb_ne (tgt := 175) hx hb dX5_layTwo_165 rfl dX5_layTwo_166 (by decide) (fun h => absurd c_2 h) (fun _ => ?_)
        refine lv_lload hx hb dX5_layTwo_169 (lv_at hl 1 rfl) ?_
        refine lv_lneg hx hb dX5_layTwo_171 ?_
        refine lv_goto (tgt := 177) hx hb dX5_layTwo_172 (by decide) ?_
        refine st_l hx hb hK.1 hP hD hS 3 1 rfl rfl (ix_lit (by decide)) 2 (by decide) dX5_layTwo_177 (fun H locs hP hD hS => ?_)
        have hP : va_P D vwCl [kM o mP mL mC mN mF mR mD mV mX mA mK cm mT pm mU mH mI, kA mL cI 180 gl, kJ mU cJ 3 (vp_updL (vp_updL (vp_updL fg 0 ((gl (((3 * i) + 1).toNatClampNeg)).toInt64)) 1 (-((gl ((3 * i).toNatClampNeg)).toInt64))) 2 0), kJ mH cJ 3 (vp_updL (vp_updL (vp_updL fh 0 0) 1 ((gl (((3 * i) + 2).toNatClampNeg)).toInt64)) 2 (-((gl (((3 * i) + 1).toNatClampNeg)).toInt64)))] H := hP
        have hD : va_D A [kM o mP mL mC mN mF mR mD mV mX mA mK cm mT pm mU mH mI, kA mL cI 180 gl, kJ mU cJ 3 (vp_updL (vp_updL (vp_updL fg 0 ((gl (((3 * i) + 1).toNatClampNeg)).toInt64)) 1 (-((gl ((3 * i).toNatClampNeg)).toInt64))) 2 0), kJ mH cJ 3 (vp_updL (vp_updL (vp_updL fh 0 0) 1 ((gl (((3 * i) + 2).toNatClampNeg)).toInt64)) 2 (-((gl (((3 * i) + 1).toNatClampNeg)).toInt64)))] := hD
        refine lv_lload_n hx hb dX5_layTwo_178 rfl (lv_at hl 2 rfl) ?_
        refine lv_lconst (v := 0) hx hb dX5_layTwo_179 (by decide) ?_
        refine lb_ne (tgt := 212) hx hb dX5_layTwo_180 rfl dX5_layTwo_181 (by decide) (fun h => absurd c_2 h) (fun _ => ?_)
        refine lv_lload hx hb dX5_layTwo_184 (lv_at hl 1 rfl) ?_
        refine lv_lconst (v := 0) hx hb dX5_layTwo_186 (by decide) ?_
        refine lb_ne (tgt := 212) hx hb dX5_layTwo_187 rfl dX5_layTwo_188 (by decide) (fun _ => ?_) (fun h => absurd h c_5)
        refine lv_aload_n hx hb dX5_layTwo_212 rfl (lv_at hl 3 rfl) ?_
        refine va_get (D := D) (ci := 5) (v := .ref mU) (C := RX5) (T := TX5) (N := 17) hx hb hts k_2 hown hK.1 hP 0 rfl rfl 14 (by decide) k_3 (fun _ h9 => h9) rfl dX5_layTwo_213 ?_
        refine lv_iconst (v := 3) hx hb dX5_layTwo_216 (by decide) ?_
        have hPc := hP.sub (ws' := [kJ mU cJ 3 (vp_updL (vp_updL (vp_updL fg 0 ((gl (((3 * i) + 1).toNatClampNeg)).toInt64)) 1 (-((gl ((3 * i).toNatClampNeg)).toInt64))) 2 0)]) [2] rfl
        have hDc := hD.sub (ws' := [kJ mU cJ 3 (vp_updL (vp_updL (vp_updL fg 0 ((gl (((3 * i) + 1).toNatClampNeg)).toInt64)) 1 (-((gl ((3 * i).toNatClampNeg)).toInt64))) 2 0)]) [2] (by decide) rfl
        refine cl_i (wc := [kJ mU cJ 3 (vp_updL (vp_updL (vp_updL fg 0 ((gl (((3 * i) + 1).toNatClampNeg)).toInt64)) 1 (-((gl ((3 * i).toNatClampNeg)).toInt64))) 2 0)]) (wr := [kM o mP mL mC mN mF mR mD mV mX mA mK cm mT pm mU mH mI, kA mL cI 180 gl, kJ mH cJ 3 (vp_updL (vp_updL (vp_updL fh 0 0) 1 ((gl (((3 * i) + 2).toNatClampNeg)).toInt64)) 2 (-((gl (((3 * i) + 1).toNatClampNeg)).toInt64)))]) (w1 := fun uu : Unit => [kJ mU cJ 3 ((z5_norm_3_3 (vp_updL (vp_updL (vp_updL fg 0 ((gl (((3 * i) + 1).toNatClampNeg)).toInt64)) 1 (-((gl ((3 * i).toNatClampNeg)).toInt64))) 2 0)).2)]) (wn := fun uu : Unit => [kM o mP mL mC mN mF mR mD mV mX mA mK cm mT pm mU mH mI, kA mL cI 180 gl, kJ mU cJ 3 ((z5_norm_3_3 (vp_updL (vp_updL (vp_updL fg 0 ((gl (((3 * i) + 1).toNatClampNeg)).toInt64)) 1 (-((gl ((3 * i).toNatClampNeg)).toInt64))) 2 0)).2), kJ mH cJ 3 (vp_updL (vp_updL (vp_updL fh 0 0) 1 ((gl (((3 * i) + 2).toNatClampNeg)).toInt64)) 2 (-((gl (((3 * i) + 1).toNatClampNeg)).toInt64)))]) (va_runS (As := [.ref mU, .int 3]) (rest := []) ⟨hx, hb, hml, hown, hts⟩ (c_X5_norm_3_3 l D cI cJ mU (vp_updL (vp_updL (vp_updL fg 0 ((gl (((3 * i) + 1).toNatClampNeg)).toInt64)) 1 (-((gl ((3 * i).toNatClampNeg)).toInt64))) 2 0) _) (va_cwS 2 hts gX5_layTwo_X5_norm rfl rfl rfl (by decide +kernel) ⟨Nat.le_of_ble_eq_true rfl, Nat.le_of_ble_eq_true rfl⟩) ⟨gd_blP, gd_prP hPc hK hDc⟩ rfl rfl hl.1 rfl (lv_room (Nat.le_of_ble_eq_true rfl)) dX5_layTwo_217 ⟨Nat.zero_le _, Nat.zero_le _⟩) hP hD hS hA [2] [0, 1, 3] rfl rfl (by decide) (by decide) [0, 1, 3, 2] (by decide) (fun _ => rfl) (fun r_217 uG H locs hw hP hD hS => ?_)
        have hP : va_P D vwCl [kM o mP mL mC mN mF mR mD mV mX mA mK cm mT pm mU mH mI, kA mL cI 180 gl, kJ mU cJ 3 ((z5_norm_3_3 (vp_updL (vp_updL (vp_updL fg 0 ((gl (((3 * i) + 1).toNatClampNeg)).toInt64)) 1 (-((gl ((3 * i).toNatClampNeg)).toInt64))) 2 0)).2), kJ mH cJ 3 (vp_updL (vp_updL (vp_updL fh 0 0) 1 ((gl (((3 * i) + 2).toNatClampNeg)).toInt64)) 2 (-((gl (((3 * i) + 1).toNatClampNeg)).toInt64)))] H := hP
        have hD : va_D A [kM o mP mL mC mN mF mR mD mV mX mA mK cm mT pm mU mH mI, kA mL cI 180 gl, kJ mU cJ 3 ((z5_norm_3_3 (vp_updL (vp_updL (vp_updL fg 0 ((gl (((3 * i) + 1).toNatClampNeg)).toInt64)) 1 (-((gl ((3 * i).toNatClampNeg)).toInt64))) 2 0)).2), kJ mH cJ 3 (vp_updL (vp_updL (vp_updL fh 0 0) 1 ((gl (((3 * i) + 2).toNatClampNeg)).toInt64)) 2 (-((gl (((3 * i) + 1).toNatClampNeg)).toInt64)))] := hD
        have ea_0 : (z5_norm_3_3 (vp_updL (vp_updL (vp_updL fg 0 ((gl (((3 * i) + 1).toNatClampNeg)).toInt64)) 1 (-((gl ((3 * i).toNatClampNeg)).toInt64))) 2 0)).2 = z5_layTwo_v1 gl fg i := by delta z5_layTwo_v1; rfl
        have ea_1 : vp_updL (vp_updL (vp_updL fh 0 0) 1 ((gl (((3 * i) + 2).toNatClampNeg)).toInt64)) 2 (-((gl (((3 * i) + 1).toNatClampNeg)).toInt64)) = z5_layTwo_v4 gl fh i := by delta z5_layTwo_v4; rfl
        rw [ea_0, ea_1] at hP hD
        clear ea_0 ea_1
        subst hw
        refine lv_eqi (v := z5_layTwo_v3 gl fg i) (by delta z5_layTwo_v3; rfl) ?_
        clear hPc hDc
        refine lv_if_eq (tgt := 238) hx hb dX5_layTwo_220 (by decide) (fun c_6 => ?_) (fun c_6 => ?_)
        · skip
          refine lv_iconst (v := 0) hx hb dX5_layTwo_238 (by decide) ?_
          refine lv_istore (lv' := [(8, .int 0), (6, .long ((gl (((3 * i) + 2).toNatClampNeg)).toInt64)), (4, .long ((gl (((3 * i) + 1).toNatClampNeg)).toInt64)), (2, .long ((gl ((3 * i).toNatClampNeg)).toInt64)), (0, .ref o), (1, .int i)]) hx hb dX5_layTwo_239 hl (by decide) rfl (fun ls hl => ?_)
          have he : z5_layTwo gl fg fh i = (z5_layTwo_v1 gl fg i, z5_layTwo_v4 gl fh i) := by unfold z5_layTwo; rw [if_neg c_1, if_pos c_2, if_neg c_5, if_pos c_6]
          have he_0 : (z5_layTwo gl fg fh i).1 = z5_layTwo_v1 gl fg i := by rw [he]
          have he_1 : (z5_layTwo gl fg fh i).2 = z5_layTwo_v4 gl fh i := by rw [he]
          exact rt_v (w1 := fun uu : Unit => [kM o mP mL mC mN mF mR mD mV mX mA mK cm mT pm mU mH mI, kA mL cI 180 gl, kJ mU cJ 3 ((z5_layTwo gl fg fh i).1), kJ mH cJ 3 ((z5_layTwo gl fg fh i).2)]) hx hb hr hlk hS dX5_layTwo_241 (()) trivial (by rw [he_0, he_1]; exact hP) (by rw [he_0, he_1]; exact hD)
        · skip
          refine lv_aload_n hx hb dX5_layTwo_223 rfl (lv_at hl 3 rfl) ?_
          refine va_get (D := D) (ci := 5) (v := .ref mH) (C := RX5) (T := TX5) (N := 17) hx hb hts k_2 hown hK.1 hP 0 rfl rfl 15 (by decide) k_4 (fun _ h9 => h9) rfl dX5_layTwo_224 ?_
          refine lv_iconst (v := 3) hx hb dX5_layTwo_227 (by decide) ?_
          have hPc := hP.sub (ws' := [kJ mH cJ 3 (z5_layTwo_v4 gl fh i)]) [3] rfl
          have hDc := hD.sub (ws' := [kJ mH cJ 3 (z5_layTwo_v4 gl fh i)]) [3] (by decide) rfl
          refine cl_i (wc := [kJ mH cJ 3 (z5_layTwo_v4 gl fh i)]) (wr := [kM o mP mL mC mN mF mR mD mV mX mA mK cm mT pm mU mH mI, kA mL cI 180 gl, kJ mU cJ 3 (z5_layTwo_v1 gl fg i)]) (w1 := fun uu : Unit => [kJ mH cJ 3 ((z5_norm_3_3 (z5_layTwo_v4 gl fh i)).2)]) (wn := fun uu : Unit => [kM o mP mL mC mN mF mR mD mV mX mA mK cm mT pm mU mH mI, kA mL cI 180 gl, kJ mU cJ 3 (z5_layTwo_v1 gl fg i), kJ mH cJ 3 ((z5_norm_3_3 (z5_layTwo_v4 gl fh i)).2)]) (va_runS (As := [.ref mH, .int 3]) (rest := []) ⟨hx, hb, hml, hown, hts⟩ (c_X5_norm_3_3 l D cI cJ mH (z5_layTwo_v4 gl fh i) _) (va_cwS 2 hts gX5_layTwo_X5_norm rfl rfl rfl (by decide +kernel) ⟨Nat.le_of_ble_eq_true rfl, Nat.le_of_ble_eq_true rfl⟩) ⟨gd_blP, gd_prP hPc hK hDc⟩ rfl rfl hl.1 rfl (lv_room (Nat.le_of_ble_eq_true rfl)) dX5_layTwo_228 ⟨Nat.zero_le _, Nat.zero_le _⟩) hP hD hS hA [3] [0, 1, 2] rfl rfl (by decide) (by decide) [0, 1, 2, 3] (by decide) (fun _ => rfl) (fun r_228 uG H locs hw hP hD hS => ?_)
          have hP : va_P D vwCl [kM o mP mL mC mN mF mR mD mV mX mA mK cm mT pm mU mH mI, kA mL cI 180 gl, kJ mU cJ 3 (z5_layTwo_v1 gl fg i), kJ mH cJ 3 ((z5_norm_3_3 (z5_layTwo_v4 gl fh i)).2)] H := hP
          have hD : va_D A [kM o mP mL mC mN mF mR mD mV mX mA mK cm mT pm mU mH mI, kA mL cI 180 gl, kJ mU cJ 3 (z5_layTwo_v1 gl fg i), kJ mH cJ 3 ((z5_norm_3_3 (z5_layTwo_v4 gl fh i)).2)] := hD
          subst hw
          clear hPc hDc
          refine lv_if_eq (tgt := 238) hx hb dX5_layTwo_231 (by decide) (fun c_7 => ?_) (fun c_7 => ?_)
          · skip
            refine lv_iconst (v := 0) hx hb dX5_layTwo_238 (by decide) ?_
            refine lv_istore (lv' := [(8, .int 0), (6, .long ((gl (((3 * i) + 2).toNatClampNeg)).toInt64)), (4, .long ((gl (((3 * i) + 1).toNatClampNeg)).toInt64)), (2, .long ((gl ((3 * i).toNatClampNeg)).toInt64)), (0, .ref o), (1, .int i)]) hx hb dX5_layTwo_239 hl (by decide) rfl (fun ls hl => ?_)
            have he : z5_layTwo gl fg fh i = (z5_layTwo_v1 gl fg i, (z5_norm_3_3 (z5_layTwo_v4 gl fh i)).2) := by unfold z5_layTwo; rw [if_neg c_1, if_pos c_2, if_neg c_5, if_neg c_6, if_pos c_7]
            have he_0 : (z5_layTwo gl fg fh i).1 = z5_layTwo_v1 gl fg i := by rw [he]
            have he_1 : (z5_layTwo gl fg fh i).2 = (z5_norm_3_3 (z5_layTwo_v4 gl fh i)).2 := by rw [he]
            exact rt_v (w1 := fun uu : Unit => [kM o mP mL mC mN mF mR mD mV mX mA mK cm mT pm mU mH mI, kA mL cI 180 gl, kJ mU cJ 3 ((z5_layTwo gl fg fh i).1), kJ mH cJ 3 ((z5_layTwo gl fg fh i).2)]) hx hb hr hlk hS dX5_layTwo_241 (()) trivial (by rw [he_0, he_1]; exact hP) (by rw [he_0, he_1]; exact hD)
          · skip
            refine lv_iconst (v := 1) hx hb dX5_layTwo_234 (by decide) ?_
            refine lv_goto (tgt := 239) hx hb dX5_layTwo_235 (by decide) ?_
            refine lv_istore (lv' := [(8, .int 1), (6, .long ((gl (((3 * i) + 2).toNatClampNeg)).toInt64)), (4, .long ((gl (((3 * i) + 1).toNatClampNeg)).toInt64)), (2, .long ((gl ((3 * i).toNatClampNeg)).toInt64)), (0, .ref o), (1, .int i)]) hx hb dX5_layTwo_239 hl (by decide) rfl (fun ls hl => ?_)
            have he : z5_layTwo gl fg fh i = (z5_layTwo_v1 gl fg i, (z5_norm_3_3 (z5_layTwo_v4 gl fh i)).2) := by unfold z5_layTwo; rw [if_neg c_1, if_pos c_2, if_neg c_5, if_neg c_6, if_neg c_7]
            have he_0 : (z5_layTwo gl fg fh i).1 = z5_layTwo_v1 gl fg i := by rw [he]
            have he_1 : (z5_layTwo gl fg fh i).2 = (z5_norm_3_3 (z5_layTwo_v4 gl fh i)).2 := by rw [he]
            exact rt_v (w1 := fun uu : Unit => [kM o mP mL mC mN mF mR mD mV mX mA mK cm mT pm mU mH mI, kA mL cI 180 gl, kJ mU cJ 3 ((z5_layTwo gl fg fh i).1), kJ mH cJ 3 ((z5_layTwo gl fg fh i).2)]) hx hb hr hlk hS dX5_layTwo_241 (()) trivial (by rw [he_0, he_1]; exact hP) (by rw [he_0, he_1]; exact hD)
      · skip
        refine lv_aload_n hx hb dX5_layTwo_108 rfl (lv_at hl 3 rfl) ?_
        refine va_get (D := D) (ci := 5) (v := .ref mU) (C := RX5) (T := TX5) (N := 17) hx hb hts k_2 hown hK.1 hP 0 rfl rfl 14 (by decide) k_3 (fun _ h9 => h9) rfl dX5_layTwo_109 ?_
        refine lv_iconst (v := 0) hx hb dX5_layTwo_112 (by decide) ?_
        refine lv_lconst (v := 1) hx hb dX5_layTwo_113 (by decide) ?_
        refine st_l hx hb hK.1 hP hD hS 2 1 rfl rfl (ix_lit (by decide)) 0 (by decide) dX5_layTwo_114 (fun H locs hP hD hS => ?_)
        have hP : va_P D vwCl [kM o mP mL mC mN mF mR mD mV mX mA mK cm mT pm mU mH mI, kA mL cI 180 gl, kJ mU cJ 3 (vp_updL (vp_updL (vp_updL (vp_updL fg 0 ((gl (((3 * i) + 1).toNatClampNeg)).toInt64)) 1 (-((gl ((3 * i).toNatClampNeg)).toInt64))) 2 0) 0 1), kJ mH cJ 3 fh] H := hP
        have hD : va_D A [kM o mP mL mC mN mF mR mD mV mX mA mK cm mT pm mU mH mI, kA mL cI 180 gl, kJ mU cJ 3 (vp_updL (vp_updL (vp_updL (vp_updL fg 0 ((gl (((3 * i) + 1).toNatClampNeg)).toInt64)) 1 (-((gl ((3 * i).toNatClampNeg)).toInt64))) 2 0) 0 1), kJ mH cJ 3 fh] := hD
        refine lv_aload_n hx hb dX5_layTwo_115 rfl (lv_at hl 3 rfl) ?_
        refine va_get (D := D) (ci := 5) (v := .ref mU) (C := RX5) (T := TX5) (N := 17) hx hb hts k_2 hown hK.1 hP 0 rfl rfl 14 (by decide) k_3 (fun _ h9 => h9) rfl dX5_layTwo_116 ?_
        refine lv_iconst (v := 1) hx hb dX5_layTwo_119 (by decide) ?_
        refine lv_lconst (v := 0) hx hb dX5_layTwo_120 (by decide) ?_
        refine st_l hx hb hK.1 hP hD hS 2 1 rfl rfl (ix_lit (by decide)) 1 (by decide) dX5_layTwo_121 (fun H locs hP hD hS => ?_)
        have hP : va_P D vwCl [kM o mP mL mC mN mF mR mD mV mX mA mK cm mT pm mU mH mI, kA mL cI 180 gl, kJ mU cJ 3 (vp_updL (vp_updL (vp_updL (vp_updL (vp_updL fg 0 ((gl (((3 * i) + 1).toNatClampNeg)).toInt64)) 1 (-((gl ((3 * i).toNatClampNeg)).toInt64))) 2 0) 0 1) 1 0), kJ mH cJ 3 fh] H := hP
        have hD : va_D A [kM o mP mL mC mN mF mR mD mV mX mA mK cm mT pm mU mH mI, kA mL cI 180 gl, kJ mU cJ 3 (vp_updL (vp_updL (vp_updL (vp_updL (vp_updL fg 0 ((gl (((3 * i) + 1).toNatClampNeg)).toInt64)) 1 (-((gl ((3 * i).toNatClampNeg)).toInt64))) 2 0) 0 1) 1 0), kJ mH cJ 3 fh] := hD
        refine lv_aload_n hx hb dX5_layTwo_122 rfl (lv_at hl 3 rfl) ?_
        refine va_get (D := D) (ci := 5) (v := .ref mH) (C := RX5) (T := TX5) (N := 17) hx hb hts k_2 hown hK.1 hP 0 rfl rfl 15 (by decide) k_4 (fun _ h9 => h9) rfl dX5_layTwo_123 ?_
        refine lv_iconst (v := 0) hx hb dX5_layTwo_126 (by decide) ?_
        refine lv_lload_n hx hb dX5_layTwo_127 rfl (lv_at hl 2 rfl) ?_
        refine lv_lconst (v := 0) hx hb dX5_layTwo_128 (by decide) ?_
        refine lb_ne (tgt := 137) hx hb dX5_layTwo_129 rfl dX5_layTwo_130 (by decide) (fun h => absurd c_2 h) (fun _ => ?_)
        refine lv_lconst (v := 0) hx hb dX5_layTwo_133 (by decide) ?_
        refine lv_goto (tgt := 139) hx hb dX5_layTwo_134 (by decide) ?_
        refine st_l hx hb hK.1 hP hD hS 3 1 rfl rfl (ix_lit (by decide)) 0 (by decide) dX5_layTwo_139 (fun H locs hP hD hS => ?_)
        have hP : va_P D vwCl [kM o mP mL mC mN mF mR mD mV mX mA mK cm mT pm mU mH mI, kA mL cI 180 gl, kJ mU cJ 3 (vp_updL (vp_updL (vp_updL (vp_updL (vp_updL fg 0 ((gl (((3 * i) + 1).toNatClampNeg)).toInt64)) 1 (-((gl ((3 * i).toNatClampNeg)).toInt64))) 2 0) 0 1) 1 0), kJ mH cJ 3 (vp_updL fh 0 0)] H := hP
        have hD : va_D A [kM o mP mL mC mN mF mR mD mV mX mA mK cm mT pm mU mH mI, kA mL cI 180 gl, kJ mU cJ 3 (vp_updL (vp_updL (vp_updL (vp_updL (vp_updL fg 0 ((gl (((3 * i) + 1).toNatClampNeg)).toInt64)) 1 (-((gl ((3 * i).toNatClampNeg)).toInt64))) 2 0) 0 1) 1 0), kJ mH cJ 3 (vp_updL fh 0 0)] := hD
        refine lv_aload_n hx hb dX5_layTwo_140 rfl (lv_at hl 3 rfl) ?_
        refine va_get (D := D) (ci := 5) (v := .ref mH) (C := RX5) (T := TX5) (N := 17) hx hb hts k_2 hown hK.1 hP 0 rfl rfl 15 (by decide) k_4 (fun _ h9 => h9) rfl dX5_layTwo_141 ?_
        refine lv_iconst (v := 1) hx hb dX5_layTwo_144 (by decide) ?_
        refine lv_lload_n hx hb dX5_layTwo_145 rfl (lv_at hl 2 rfl) ?_
        refine lv_lconst (v := 0) hx hb dX5_layTwo_146 (by decide) ?_
        refine lb_ne (tgt := 156) hx hb dX5_layTwo_147 rfl dX5_layTwo_148 (by decide) (fun h => absurd c_2 h) (fun _ => ?_)
        refine lv_lload hx hb dX5_layTwo_151 (lv_at hl 0 rfl) ?_
        refine lv_goto (tgt := 157) hx hb dX5_layTwo_153 (by decide) ?_
        refine st_l hx hb hK.1 hP hD hS 3 1 rfl rfl (ix_lit (by decide)) 1 (by decide) dX5_layTwo_157 (fun H locs hP hD hS => ?_)
        have hP : va_P D vwCl [kM o mP mL mC mN mF mR mD mV mX mA mK cm mT pm mU mH mI, kA mL cI 180 gl, kJ mU cJ 3 (vp_updL (vp_updL (vp_updL (vp_updL (vp_updL fg 0 ((gl (((3 * i) + 1).toNatClampNeg)).toInt64)) 1 (-((gl ((3 * i).toNatClampNeg)).toInt64))) 2 0) 0 1) 1 0), kJ mH cJ 3 (vp_updL (vp_updL fh 0 0) 1 ((gl (((3 * i) + 2).toNatClampNeg)).toInt64))] H := hP
        have hD : va_D A [kM o mP mL mC mN mF mR mD mV mX mA mK cm mT pm mU mH mI, kA mL cI 180 gl, kJ mU cJ 3 (vp_updL (vp_updL (vp_updL (vp_updL (vp_updL fg 0 ((gl (((3 * i) + 1).toNatClampNeg)).toInt64)) 1 (-((gl ((3 * i).toNatClampNeg)).toInt64))) 2 0) 0 1) 1 0), kJ mH cJ 3 (vp_updL (vp_updL fh 0 0) 1 ((gl (((3 * i) + 2).toNatClampNeg)).toInt64))] := hD
        refine lv_aload_n hx hb dX5_layTwo_158 rfl (lv_at hl 3 rfl) ?_
        refine va_get (D := D) (ci := 5) (v := .ref mH) (C := RX5) (T := TX5) (N := 17) hx hb hts k_2 hown hK.1 hP 0 rfl rfl 15 (by decide) k_4 (fun _ h9 => h9) rfl dX5_layTwo_159 ?_
        refine lv_iconst (v := 2) hx hb dX5_layTwo_162 (by decide) ?_
        refine lv_lload_n hx hb dX5_layTwo_163 rfl (lv_at hl 2 rfl) ?_
        refine lv_lconst (v := 0) hx hb dX5_layTwo_164 (by decide) ?_
        refine lb_ne (tgt := 175) hx hb dX5_layTwo_165 rfl dX5_layTwo_166 (by decide) (fun h => absurd c_2 h) (fun _ => ?_)
        refine lv_lload hx hb dX5_layTwo_169 (lv_at hl 1 rfl) ?_
        refine lv_lneg hx hb dX5_layTwo_171 ?_
        refine lv_goto (tgt := 177) hx hb dX5_layTwo_172 (by decide) ?_
        refine st_l hx hb hK.1 hP hD hS 3 1 rfl rfl (ix_lit (by decide)) 2 (by decide) dX5_layTwo_177 (fun H locs hP hD hS => ?_)
        have hP : va_P D vwCl [kM o mP mL mC mN mF mR mD mV mX mA mK cm mT pm mU mH mI, kA mL cI 180 gl, kJ mU cJ 3 (vp_updL (vp_updL (vp_updL (vp_updL (vp_updL fg 0 ((gl (((3 * i) + 1).toNatClampNeg)).toInt64)) 1 (-((gl ((3 * i).toNatClampNeg)).toInt64))) 2 0) 0 1) 1 0), kJ mH cJ 3 (vp_updL (vp_updL (vp_updL fh 0 0) 1 ((gl (((3 * i) + 2).toNatClampNeg)).toInt64)) 2 (-((gl (((3 * i) + 1).toNatClampNeg)).toInt64)))] H := hP
        have hD : va_D A [kM o mP mL mC mN mF mR mD mV mX mA mK cm mT pm mU mH mI, kA mL cI 180 gl, kJ mU cJ 3 (vp_updL (vp_updL (vp_updL (vp_updL (vp_updL fg 0 ((gl (((3 * i) + 1).toNatClampNeg)).toInt64)) 1 (-((gl ((3 * i).toNatClampNeg)).toInt64))) 2 0) 0 1) 1 0), kJ mH cJ 3 (vp_updL (vp_updL (vp_updL fh 0 0) 1 ((gl (((3 * i) + 2).toNatClampNeg)).toInt64)) 2 (-((gl (((3 * i) + 1).toNatClampNeg)).toInt64)))] := hD
        refine lv_lload_n hx hb dX5_layTwo_178 rfl (lv_at hl 2 rfl) ?_
        refine lv_lconst (v := 0) hx hb dX5_layTwo_179 (by decide) ?_
        refine lb_ne (tgt := 212) hx hb dX5_layTwo_180 rfl dX5_layTwo_181 (by decide) (fun h => absurd c_2 h) (fun _ => ?_)
        refine lv_lload hx hb dX5_layTwo_184 (lv_at hl 1 rfl) ?_
        refine lv_lconst (v := 0) hx hb dX5_layTwo_186 (by decide) ?_
        refine lb_ne (tgt := 212) hx hb dX5_layTwo_187 rfl dX5_layTwo_188 (by decide) (fun h => absurd c_5 h) (fun _ => ?_)
        refine lv_aload_n hx hb dX5_layTwo_191 rfl (lv_at hl 3 rfl) ?_
        refine va_get (D := D) (ci := 5) (v := .ref mH) (C := RX5) (T := TX5) (N := 17) hx hb hts k_2 hown hK.1 hP 0 rfl rfl 15 (by decide) k_4 (fun _ h9 => h9) rfl dX5_layTwo_192 ?_
        refine lv_iconst (v := 0) hx hb dX5_layTwo_195 (by decide) ?_
        refine lv_lconst (v := 0) hx hb dX5_layTwo_196 (by decide) ?_
        refine st_l hx hb hK.1 hP hD hS 3 1 rfl rfl (ix_lit (by decide)) 0 (by decide) dX5_layTwo_197 (fun H locs hP hD hS => ?_)
        have hP : va_P D vwCl [kM o mP mL mC mN mF mR mD mV mX mA mK cm mT pm mU mH mI, kA mL cI 180 gl, kJ mU cJ 3 (vp_updL (vp_updL (vp_updL (vp_updL (vp_updL fg 0 ((gl (((3 * i) + 1).toNatClampNeg)).toInt64)) 1 (-((gl ((3 * i).toNatClampNeg)).toInt64))) 2 0) 0 1) 1 0), kJ mH cJ 3 (vp_updL (vp_updL (vp_updL (vp_updL fh 0 0) 1 ((gl (((3 * i) + 2).toNatClampNeg)).toInt64)) 2 (-((gl (((3 * i) + 1).toNatClampNeg)).toInt64))) 0 0)] H := hP
        have hD : va_D A [kM o mP mL mC mN mF mR mD mV mX mA mK cm mT pm mU mH mI, kA mL cI 180 gl, kJ mU cJ 3 (vp_updL (vp_updL (vp_updL (vp_updL (vp_updL fg 0 ((gl (((3 * i) + 1).toNatClampNeg)).toInt64)) 1 (-((gl ((3 * i).toNatClampNeg)).toInt64))) 2 0) 0 1) 1 0), kJ mH cJ 3 (vp_updL (vp_updL (vp_updL (vp_updL fh 0 0) 1 ((gl (((3 * i) + 2).toNatClampNeg)).toInt64)) 2 (-((gl (((3 * i) + 1).toNatClampNeg)).toInt64))) 0 0)] := hD
        refine lv_aload_n hx hb dX5_layTwo_198 rfl (lv_at hl 3 rfl) ?_
        refine va_get (D := D) (ci := 5) (v := .ref mH) (C := RX5) (T := TX5) (N := 17) hx hb hts k_2 hown hK.1 hP 0 rfl rfl 15 (by decide) k_4 (fun _ h9 => h9) rfl dX5_layTwo_199 ?_
        refine lv_iconst (v := 1) hx hb dX5_layTwo_202 (by decide) ?_
        refine lv_lconst (v := 1) hx hb dX5_layTwo_203 (by decide) ?_
        refine st_l hx hb hK.1 hP hD hS 3 1 rfl rfl (ix_lit (by decide)) 1 (by decide) dX5_layTwo_204 (fun H locs hP hD hS => ?_)
        have hP : va_P D vwCl [kM o mP mL mC mN mF mR mD mV mX mA mK cm mT pm mU mH mI, kA mL cI 180 gl, kJ mU cJ 3 (vp_updL (vp_updL (vp_updL (vp_updL (vp_updL fg 0 ((gl (((3 * i) + 1).toNatClampNeg)).toInt64)) 1 (-((gl ((3 * i).toNatClampNeg)).toInt64))) 2 0) 0 1) 1 0), kJ mH cJ 3 (vp_updL (vp_updL (vp_updL (vp_updL (vp_updL fh 0 0) 1 ((gl (((3 * i) + 2).toNatClampNeg)).toInt64)) 2 (-((gl (((3 * i) + 1).toNatClampNeg)).toInt64))) 0 0) 1 1)] H := hP
        have hD : va_D A [kM o mP mL mC mN mF mR mD mV mX mA mK cm mT pm mU mH mI, kA mL cI 180 gl, kJ mU cJ 3 (vp_updL (vp_updL (vp_updL (vp_updL (vp_updL fg 0 ((gl (((3 * i) + 1).toNatClampNeg)).toInt64)) 1 (-((gl ((3 * i).toNatClampNeg)).toInt64))) 2 0) 0 1) 1 0), kJ mH cJ 3 (vp_updL (vp_updL (vp_updL (vp_updL (vp_updL fh 0 0) 1 ((gl (((3 * i) + 2).toNatClampNeg)).toInt64)) 2 (-((gl (((3 * i) + 1).toNatClampNeg)).toInt64))) 0 0) 1 1)] := hD
        refine lv_aload_n hx hb dX5_layTwo_205 rfl (lv_at hl 3 rfl) ?_
        refine va_get (D := D) (ci := 5) (v := .ref mH) (C := RX5) (T := TX5) (N := 17) hx hb hts k_2 hown hK.1 hP 0 rfl rfl 15 (by decide) k_4 (fun _ h9 => h9) rfl dX5_layTwo_206 ?_
        refine lv_iconst (v := 2) hx hb dX5_layTwo_209 (by decide) ?_
        refine lv_lconst (v := 0) hx hb dX5_layTwo_210 (by decide) ?_
        refine st_l hx hb hK.1 hP hD hS 3 1 rfl rfl (ix_lit (by decide)) 2 (by decide) dX5_layTwo_211 (fun H locs hP hD hS => ?_)
        have hP : va_P D vwCl [kM o mP mL mC mN mF mR mD mV mX mA mK cm mT pm mU mH mI, kA mL cI 180 gl, kJ mU cJ 3 (vp_updL (vp_updL (vp_updL (vp_updL (vp_updL fg 0 ((gl (((3 * i) + 1).toNatClampNeg)).toInt64)) 1 (-((gl ((3 * i).toNatClampNeg)).toInt64))) 2 0) 0 1) 1 0), kJ mH cJ 3 (vp_updL (vp_updL (vp_updL (vp_updL (vp_updL (vp_updL fh 0 0) 1 ((gl (((3 * i) + 2).toNatClampNeg)).toInt64)) 2 (-((gl (((3 * i) + 1).toNatClampNeg)).toInt64))) 0 0) 1 1) 2 0)] H := hP
        have hD : va_D A [kM o mP mL mC mN mF mR mD mV mX mA mK cm mT pm mU mH mI, kA mL cI 180 gl, kJ mU cJ 3 (vp_updL (vp_updL (vp_updL (vp_updL (vp_updL fg 0 ((gl (((3 * i) + 1).toNatClampNeg)).toInt64)) 1 (-((gl ((3 * i).toNatClampNeg)).toInt64))) 2 0) 0 1) 1 0), kJ mH cJ 3 (vp_updL (vp_updL (vp_updL (vp_updL (vp_updL (vp_updL fh 0 0) 1 ((gl (((3 * i) + 2).toNatClampNeg)).toInt64)) 2 (-((gl (((3 * i) + 1).toNatClampNeg)).toInt64))) 0 0) 1 1) 2 0)] := hD
        refine lv_aload_n hx hb dX5_layTwo_212 rfl (lv_at hl 3 rfl) ?_
        refine va_get (D := D) (ci := 5) (v := .ref mU) (C := RX5) (T := TX5) (N := 17) hx hb hts k_2 hown hK.1 hP 0 rfl rfl 14 (by decide) k_3 (fun _ h9 => h9) rfl dX5_layTwo_213 ?_
        refine lv_iconst (v := 3) hx hb dX5_layTwo_216 (by decide) ?_
        have hPc := hP.sub (ws' := [kJ mU cJ 3 (vp_updL (vp_updL (vp_updL (vp_updL (vp_updL fg 0 ((gl (((3 * i) + 1).toNatClampNeg)).toInt64)) 1 (-((gl ((3 * i).toNatClampNeg)).toInt64))) 2 0) 0 1) 1 0)]) [2] rfl
        have hDc := hD.sub (ws' := [kJ mU cJ 3 (vp_updL (vp_updL (vp_updL (vp_updL (vp_updL fg 0 ((gl (((3 * i) + 1).toNatClampNeg)).toInt64)) 1 (-((gl ((3 * i).toNatClampNeg)).toInt64))) 2 0) 0 1) 1 0)]) [2] (by decide) rfl
        refine cl_i (wc := [kJ mU cJ 3 (vp_updL (vp_updL (vp_updL (vp_updL (vp_updL fg 0 ((gl (((3 * i) + 1).toNatClampNeg)).toInt64)) 1 (-((gl ((3 * i).toNatClampNeg)).toInt64))) 2 0) 0 1) 1 0)]) (wr := [kM o mP mL mC mN mF mR mD mV mX mA mK cm mT pm mU mH mI, kA mL cI 180 gl, kJ mH cJ 3 (vp_updL (vp_updL (vp_updL (vp_updL (vp_updL (vp_updL fh 0 0) 1 ((gl (((3 * i) + 2).toNatClampNeg)).toInt64)) 2 (-((gl (((3 * i) + 1).toNatClampNeg)).toInt64))) 0 0) 1 1) 2 0)]) (w1 := fun uu : Unit => [kJ mU cJ 3 ((z5_norm_3_3 (vp_updL (vp_updL (vp_updL (vp_updL (vp_updL fg 0 ((gl (((3 * i) + 1).toNatClampNeg)).toInt64)) 1 (-((gl ((3 * i).toNatClampNeg)).toInt64))) 2 0) 0 1) 1 0)).2)]) (wn := fun uu : Unit => [kM o mP mL mC mN mF mR mD mV mX mA mK cm mT pm mU mH mI, kA mL cI 180 gl, kJ mU cJ 3 ((z5_norm_3_3 (vp_updL (vp_updL (vp_updL (vp_updL (vp_updL fg 0 ((gl (((3 * i) + 1).toNatClampNeg)).toInt64)) 1 (-((gl ((3 * i).toNatClampNeg)).toInt64))) 2 0) 0 1) 1 0)).2), kJ mH cJ 3 (vp_updL (vp_updL (vp_updL (vp_updL (vp_updL (vp_updL fh 0 0) 1 ((gl (((3 * i) + 2).toNatClampNeg)).toInt64)) 2 (-((gl (((3 * i) + 1).toNatClampNeg)).toInt64))) 0 0) 1 1) 2 0)]) (va_runS (As := [.ref mU, .int 3]) (rest := []) ⟨hx, hb, hml, hown, hts⟩ (c_X5_norm_3_3 l D cI cJ mU (vp_updL (vp_updL (vp_updL (vp_updL (vp_updL fg 0 ((gl (((3 * i) + 1).toNatClampNeg)).toInt64)) 1 (-((gl ((3 * i).toNatClampNeg)).toInt64))) 2 0) 0 1) 1 0) _) (va_cwS 2 hts gX5_layTwo_X5_norm rfl rfl rfl (by decide +kernel) ⟨Nat.le_of_ble_eq_true rfl, Nat.le_of_ble_eq_true rfl⟩) ⟨gd_blP, gd_prP hPc hK hDc⟩ rfl rfl hl.1 rfl (lv_room (Nat.le_of_ble_eq_true rfl)) dX5_layTwo_217 ⟨Nat.zero_le _, Nat.zero_le _⟩) hP hD hS hA [2] [0, 1, 3] rfl rfl (by decide) (by decide) [0, 1, 3, 2] (by decide) (fun _ => rfl) (fun r_217 uG H locs hw hP hD hS => ?_)
        have hP : va_P D vwCl [kM o mP mL mC mN mF mR mD mV mX mA mK cm mT pm mU mH mI, kA mL cI 180 gl, kJ mU cJ 3 ((z5_norm_3_3 (vp_updL (vp_updL (vp_updL (vp_updL (vp_updL fg 0 ((gl (((3 * i) + 1).toNatClampNeg)).toInt64)) 1 (-((gl ((3 * i).toNatClampNeg)).toInt64))) 2 0) 0 1) 1 0)).2), kJ mH cJ 3 (vp_updL (vp_updL (vp_updL (vp_updL (vp_updL (vp_updL fh 0 0) 1 ((gl (((3 * i) + 2).toNatClampNeg)).toInt64)) 2 (-((gl (((3 * i) + 1).toNatClampNeg)).toInt64))) 0 0) 1 1) 2 0)] H := hP
        have hD : va_D A [kM o mP mL mC mN mF mR mD mV mX mA mK cm mT pm mU mH mI, kA mL cI 180 gl, kJ mU cJ 3 ((z5_norm_3_3 (vp_updL (vp_updL (vp_updL (vp_updL (vp_updL fg 0 ((gl (((3 * i) + 1).toNatClampNeg)).toInt64)) 1 (-((gl ((3 * i).toNatClampNeg)).toInt64))) 2 0) 0 1) 1 0)).2), kJ mH cJ 3 (vp_updL (vp_updL (vp_updL (vp_updL (vp_updL (vp_updL fh 0 0) 1 ((gl (((3 * i) + 2).toNatClampNeg)).toInt64)) 2 (-((gl (((3 * i) + 1).toNatClampNeg)).toInt64))) 0 0) 1 1) 2 0)] := hD
        have ea_0 : (z5_norm_3_3 (vp_updL (vp_updL (vp_updL (vp_updL (vp_updL fg 0 ((gl (((3 * i) + 1).toNatClampNeg)).toInt64)) 1 (-((gl ((3 * i).toNatClampNeg)).toInt64))) 2 0) 0 1) 1 0)).2 = z5_layTwo_v5 gl fg i := by delta z5_layTwo_v5; rfl
        have ea_1 : vp_updL (vp_updL (vp_updL (vp_updL (vp_updL (vp_updL fh 0 0) 1 ((gl (((3 * i) + 2).toNatClampNeg)).toInt64)) 2 (-((gl (((3 * i) + 1).toNatClampNeg)).toInt64))) 0 0) 1 1) 2 0 = z5_layTwo_v6 gl fh i := by delta z5_layTwo_v6; rfl
        rw [ea_0, ea_1] at hP hD
        clear ea_0 ea_1
        subst hw
        refine lv_eqi (v := z5_layTwo_v7 gl fg i) (by delta z5_layTwo_v7; rfl) ?_
        clear hPc hDc
        refine lv_if_eq (tgt := 238) hx hb dX5_layTwo_220 (by decide) (fun c_8 => ?_) (fun c_8 => ?_)
        · skip
          refine lv_iconst (v := 0) hx hb dX5_layTwo_238 (by decide) ?_
          refine lv_istore (lv' := [(8, .int 0), (6, .long ((gl (((3 * i) + 2).toNatClampNeg)).toInt64)), (4, .long ((gl (((3 * i) + 1).toNatClampNeg)).toInt64)), (2, .long ((gl ((3 * i).toNatClampNeg)).toInt64)), (0, .ref o), (1, .int i)]) hx hb dX5_layTwo_239 hl (by decide) rfl (fun ls hl => ?_)
          have he : z5_layTwo gl fg fh i = (z5_layTwo_v5 gl fg i, z5_layTwo_v6 gl fh i) := by unfold z5_layTwo; rw [if_neg c_1, if_pos c_2, if_pos c_5, if_pos c_8]
          have he_0 : (z5_layTwo gl fg fh i).1 = z5_layTwo_v5 gl fg i := by rw [he]
          have he_1 : (z5_layTwo gl fg fh i).2 = z5_layTwo_v6 gl fh i := by rw [he]
          exact rt_v (w1 := fun uu : Unit => [kM o mP mL mC mN mF mR mD mV mX mA mK cm mT pm mU mH mI, kA mL cI 180 gl, kJ mU cJ 3 ((z5_layTwo gl fg fh i).1), kJ mH cJ 3 ((z5_layTwo gl fg fh i).2)]) hx hb hr hlk hS dX5_layTwo_241 (()) trivial (by rw [he_0, he_1]; exact hP) (by rw [he_0, he_1]; exact hD)
        · skip
          refine lv_aload_n hx hb dX5_layTwo_223 rfl (lv_at hl 3 rfl) ?_
          refine va_get (D := D) (ci := 5) (v := .ref mH) (C := RX5) (T := TX5) (N := 17) hx hb hts k_2 hown hK.1 hP 0 rfl rfl 15 (by decide) k_4 (fun _ h9 => h9) rfl dX5_layTwo_224 ?_
          refine lv_iconst (v := 3) hx hb dX5_layTwo_227 (by decide) ?_
          have hPc := hP.sub (ws' := [kJ mH cJ 3 (z5_layTwo_v6 gl fh i)]) [3] rfl
          have hDc := hD.sub (ws' := [kJ mH cJ 3 (z5_layTwo_v6 gl fh i)]) [3] (by decide) rfl
          refine cl_i (wc := [kJ mH cJ 3 (z5_layTwo_v6 gl fh i)]) (wr := [kM o mP mL mC mN mF mR mD mV mX mA mK cm mT pm mU mH mI, kA mL cI 180 gl, kJ mU cJ 3 (z5_layTwo_v5 gl fg i)]) (w1 := fun uu : Unit => [kJ mH cJ 3 ((z5_norm_3_3 (z5_layTwo_v6 gl fh i)).2)]) (wn := fun uu : Unit => [kM o mP mL mC mN mF mR mD mV mX mA mK cm mT pm mU mH mI, kA mL cI 180 gl, kJ mU cJ 3 (z5_layTwo_v5 gl fg i), kJ mH cJ 3 ((z5_norm_3_3 (z5_layTwo_v6 gl fh i)).2)]) (va_runS (As := [.ref mH, .int 3]) (rest := []) ⟨hx, hb, hml, hown, hts⟩ (c_X5_norm_3_3 l D cI cJ mH (z5_layTwo_v6 gl fh i) _) (va_cwS 2 hts gX5_layTwo_X5_norm rfl rfl rfl (by decide +kernel) ⟨Nat.le_of_ble_eq_true rfl, Nat.le_of_ble_eq_true rfl⟩) ⟨gd_blP, gd_prP hPc hK hDc⟩ rfl rfl hl.1 rfl (lv_room (Nat.le_of_ble_eq_true rfl)) dX5_layTwo_228 ⟨Nat.zero_le _, Nat.zero_le _⟩) hP hD hS hA [3] [0, 1, 2] rfl rfl (by decide) (by decide) [0, 1, 2, 3] (by decide) (fun _ => rfl) (fun r_228 uG H locs hw hP hD hS => ?_)
          have hP : va_P D vwCl [kM o mP mL mC mN mF mR mD mV mX mA mK cm mT pm mU mH mI, kA mL cI 180 gl, kJ mU cJ 3 (z5_layTwo_v5 gl fg i), kJ mH cJ 3 ((z5_norm_3_3 (z5_layTwo_v6 gl fh i)).2)] H := hP
          have hD : va_D A [kM o mP mL mC mN mF mR mD mV mX mA mK cm mT pm mU mH mI, kA mL cI 180 gl, kJ mU cJ 3 (z5_layTwo_v5 gl fg i), kJ mH cJ 3 ((z5_norm_3_3 (z5_layTwo_v6 gl fh i)).2)] := hD
          subst hw
          clear hPc hDc
          refine lv_if_eq (tgt := 238) hx hb dX5_layTwo_231 (by decide) (fun c_9 => ?_) (fun c_9 => ?_)
          · skip
            refine lv_iconst (v := 0) hx hb dX5_layTwo_238 (by decide) ?_
            refine lv_istore (lv' := [(8, .int 0), (6, .long ((gl (((3 * i) + 2).toNatClampNeg)).toInt64)), (4, .long ((gl (((3 * i) + 1).toNatClampNeg)).toInt64)), (2, .long ((gl ((3 * i).toNatClampNeg)).toInt64)), (0, .ref o), (1, .int i)]) hx hb dX5_layTwo_239 hl (by decide) rfl (fun ls hl => ?_)
            have he : z5_layTwo gl fg fh i = (z5_layTwo_v5 gl fg i, (z5_norm_3_3 (z5_layTwo_v6 gl fh i)).2) := by unfold z5_layTwo; rw [if_neg c_1, if_pos c_2, if_pos c_5, if_neg c_8, if_pos c_9]
            have he_0 : (z5_layTwo gl fg fh i).1 = z5_layTwo_v5 gl fg i := by rw [he]
            have he_1 : (z5_layTwo gl fg fh i).2 = (z5_norm_3_3 (z5_layTwo_v6 gl fh i)).2 := by rw [he]
            exact rt_v (w1 := fun uu : Unit => [kM o mP mL mC mN mF mR mD mV mX mA mK cm mT pm mU mH mI, kA mL cI 180 gl, kJ mU cJ 3 ((z5_layTwo gl fg fh i).1), kJ mH cJ 3 ((z5_layTwo gl fg fh i).2)]) hx hb hr hlk hS dX5_layTwo_241 (()) trivial (by rw [he_0, he_1]; exact hP) (by rw [he_0, he_1]; exact hD)
          · skip
            refine lv_iconst (v := 1) hx hb dX5_layTwo_234 (by decide) ?_
            refine lv_goto (tgt := 239) hx hb dX5_layTwo_235 (by decide) ?_
            refine lv_istore (lv' := [(8, .int 1), (6, .long ((gl (((3 * i) + 2).toNatClampNeg)).toInt64)), (4, .long ((gl (((3 * i) + 1).toNatClampNeg)).toInt64)), (2, .long ((gl ((3 * i).toNatClampNeg)).toInt64)), (0, .ref o), (1, .int i)]) hx hb dX5_layTwo_239 hl (by decide) rfl (fun ls hl => ?_)
            have he : z5_layTwo gl fg fh i = (z5_layTwo_v5 gl fg i, (z5_norm_3_3 (z5_layTwo_v6 gl fh i)).2) := by unfold z5_layTwo; rw [if_neg c_1, if_pos c_2, if_pos c_5, if_neg c_8, if_neg c_9]
            have he_0 : (z5_layTwo gl fg fh i).1 = z5_layTwo_v5 gl fg i := by rw [he]
            have he_1 : (z5_layTwo gl fg fh i).2 = (z5_norm_3_3 (z5_layTwo_v6 gl fh i)).2 := by rw [he]
            exact rt_v (w1 := fun uu : Unit => [kM o mP mL mC mN mF mR mD mV mX mA mK cm mT pm mU mH mI, kA mL cI 180 gl, kJ mU cJ 3 ((z5_layTwo gl fg fh i).1), kJ mH cJ 3 ((z5_layTwo gl fg fh i).2)]) hx hb hr hlk hS dX5_layTwo_241 (()) trivial (by rw [he_0, he_1]; exact hP) (by rw [he_0, he_1]; exact hD)
  · skip
    refine lv_lload hx hb dX5_layTwo_48 (lv_at hl 1 rfl) ?_
    refine lv_lconst (v := 0) hx hb dX5_layTwo_50 (by decide) ?_
    refine lb_ne (tgt := 59) hx hb dX5_layTwo_51 rfl dX5_layTwo_52 (by decide) (fun c_10 => ?_) (fun c_10 => ?_)
    · skip
      refine lv_lload hx hb dX5_layTwo_59 (lv_at hl 1 rfl) ?_
      refine st_l hx hb hK.1 hP hD hS 2 1 rfl rfl (ix_lit (by decide)) 0 (by decide) dX5_layTwo_61 (fun H locs hP hD hS => ?_)
      have hP : va_P D vwCl [kM o mP mL mC mN mF mR mD mV mX mA mK cm mT pm mU mH mI, kA mL cI 180 gl, kJ mU cJ 3 (vp_updL fg 0 ((gl (((3 * i) + 1).toNatClampNeg)).toInt64)), kJ mH cJ 3 fh] H := hP
      have hD : va_D A [kM o mP mL mC mN mF mR mD mV mX mA mK cm mT pm mU mH mI, kA mL cI 180 gl, kJ mU cJ 3 (vp_updL fg 0 ((gl (((3 * i) + 1).toNatClampNeg)).toInt64)), kJ mH cJ 3 fh] := hD
      refine lv_aload_n hx hb dX5_layTwo_62 rfl (lv_at hl 3 rfl) ?_
      refine va_get (D := D) (ci := 5) (v := .ref mU) (C := RX5) (T := TX5) (N := 17) hx hb hts k_2 hown hK.1 hP 0 rfl rfl 14 (by decide) k_3 (fun _ h9 => h9) rfl dX5_layTwo_63 ?_
      refine lv_iconst (v := 1) hx hb dX5_layTwo_66 (by decide) ?_
      refine lv_lload hx hb dX5_layTwo_67 (lv_at hl 0 rfl) ?_
      refine lv_lconst (v := 0) hx hb dX5_layTwo_69 (by decide) ?_
      refine lb_ne (tgt := 85) hx hb dX5_layTwo_70 rfl dX5_layTwo_71 (by decide) (fun h => absurd c_1 h) (fun _ => ?_)
      refine lv_lload hx hb dX5_layTwo_74 (lv_at hl 1 rfl) ?_
      refine lv_lconst (v := 0) hx hb dX5_layTwo_76 (by decide) ?_
      refine lb_ne (tgt := 85) hx hb dX5_layTwo_77 rfl dX5_layTwo_78 (by decide) (fun _ => ?_) (fun h => absurd h c_10)
      refine lv_lload_n hx hb dX5_layTwo_85 rfl (lv_at hl 2 rfl) ?_
      refine lv_lneg hx hb dX5_layTwo_86 ?_
      refine st_l hx hb hK.1 hP hD hS 2 1 rfl rfl (ix_lit (by decide)) 1 (by decide) dX5_layTwo_87 (fun H locs hP hD hS => ?_)
      have hP : va_P D vwCl [kM o mP mL mC mN mF mR mD mV mX mA mK cm mT pm mU mH mI, kA mL cI 180 gl, kJ mU cJ 3 (vp_updL (vp_updL fg 0 ((gl (((3 * i) + 1).toNatClampNeg)).toInt64)) 1 (-((gl ((3 * i).toNatClampNeg)).toInt64))), kJ mH cJ 3 fh] H := hP
      have hD : va_D A [kM o mP mL mC mN mF mR mD mV mX mA mK cm mT pm mU mH mI, kA mL cI 180 gl, kJ mU cJ 3 (vp_updL (vp_updL fg 0 ((gl (((3 * i) + 1).toNatClampNeg)).toInt64)) 1 (-((gl ((3 * i).toNatClampNeg)).toInt64))), kJ mH cJ 3 fh] := hD
      refine lv_aload_n hx hb dX5_layTwo_88 rfl (lv_at hl 3 rfl) ?_
      refine va_get (D := D) (ci := 5) (v := .ref mU) (C := RX5) (T := TX5) (N := 17) hx hb hts k_2 hown hK.1 hP 0 rfl rfl 14 (by decide) k_3 (fun _ h9 => h9) rfl dX5_layTwo_89 ?_
      refine lv_iconst (v := 2) hx hb dX5_layTwo_92 (by decide) ?_
      refine lv_lconst (v := 0) hx hb dX5_layTwo_93 (by decide) ?_
      refine st_l hx hb hK.1 hP hD hS 2 1 rfl rfl (ix_lit (by decide)) 2 (by decide) dX5_layTwo_94 (fun H locs hP hD hS => ?_)
      have hP : va_P D vwCl [kM o mP mL mC mN mF mR mD mV mX mA mK cm mT pm mU mH mI, kA mL cI 180 gl, kJ mU cJ 3 (vp_updL (vp_updL (vp_updL fg 0 ((gl (((3 * i) + 1).toNatClampNeg)).toInt64)) 1 (-((gl ((3 * i).toNatClampNeg)).toInt64))) 2 0), kJ mH cJ 3 fh] H := hP
      have hD : va_D A [kM o mP mL mC mN mF mR mD mV mX mA mK cm mT pm mU mH mI, kA mL cI 180 gl, kJ mU cJ 3 (vp_updL (vp_updL (vp_updL fg 0 ((gl (((3 * i) + 1).toNatClampNeg)).toInt64)) 1 (-((gl ((3 * i).toNatClampNeg)).toInt64))) 2 0), kJ mH cJ 3 fh] := hD
      refine lv_lload_n hx hb dX5_layTwo_95 rfl (lv_at hl 2 rfl) ?_
      refine lv_lconst (v := 0) hx hb dX5_layTwo_96 (by decide) ?_
      refine lb_ne (tgt := 122) hx hb dX5_layTwo_97 rfl dX5_layTwo_98 (by decide) (fun c_11 => ?_) (fun c_11 => ?_)
      · skip
        refine lv_aload_n hx hb dX5_layTwo_122 rfl (lv_at hl 3 rfl) ?_
        refine va_get (D := D) (ci := 5) (v := .ref mH) (C := RX5) (T := TX5) (N := 17) hx hb hts k_2 hown hK.1 hP 0 rfl rfl 15 (by decide) k_4 (fun _ h9 => h9) rfl dX5_layTwo_123 ?_
        refine lv_iconst (v := 0) hx hb dX5_layTwo_126 (by decide) ?_
        refine lv_lload_n hx hb dX5_layTwo_127 rfl (lv_at hl 2 rfl) ?_
        refine lv_lconst (v := 0) hx hb dX5_layTwo_128 (by decide) ?_
        refine lb_ne (tgt := 137) hx hb dX5_layTwo_129 rfl dX5_layTwo_130 (by decide) (fun _ => ?_) (fun h => absurd h c_11)
        refine lv_lload hx hb dX5_layTwo_137 (lv_at hl 0 rfl) ?_
        refine st_l hx hb hK.1 hP hD hS 3 1 rfl rfl (ix_lit (by decide)) 0 (by decide) dX5_layTwo_139 (fun H locs hP hD hS => ?_)
        have hP : va_P D vwCl [kM o mP mL mC mN mF mR mD mV mX mA mK cm mT pm mU mH mI, kA mL cI 180 gl, kJ mU cJ 3 (vp_updL (vp_updL (vp_updL fg 0 ((gl (((3 * i) + 1).toNatClampNeg)).toInt64)) 1 (-((gl ((3 * i).toNatClampNeg)).toInt64))) 2 0), kJ mH cJ 3 (vp_updL fh 0 ((gl (((3 * i) + 2).toNatClampNeg)).toInt64))] H := hP
        have hD : va_D A [kM o mP mL mC mN mF mR mD mV mX mA mK cm mT pm mU mH mI, kA mL cI 180 gl, kJ mU cJ 3 (vp_updL (vp_updL (vp_updL fg 0 ((gl (((3 * i) + 1).toNatClampNeg)).toInt64)) 1 (-((gl ((3 * i).toNatClampNeg)).toInt64))) 2 0), kJ mH cJ 3 (vp_updL fh 0 ((gl (((3 * i) + 2).toNatClampNeg)).toInt64))] := hD
        refine lv_aload_n hx hb dX5_layTwo_140 rfl (lv_at hl 3 rfl) ?_
        refine va_get (D := D) (ci := 5) (v := .ref mH) (C := RX5) (T := TX5) (N := 17) hx hb hts k_2 hown hK.1 hP 0 rfl rfl 15 (by decide) k_4 (fun _ h9 => h9) rfl dX5_layTwo_141 ?_
        refine lv_iconst (v := 1) hx hb dX5_layTwo_144 (by decide) ?_
        refine lv_lload_n hx hb dX5_layTwo_145 rfl (lv_at hl 2 rfl) ?_
        refine lv_lconst (v := 0) hx hb dX5_layTwo_146 (by decide) ?_
        refine lb_ne (tgt := 156) hx hb dX5_layTwo_147 rfl dX5_layTwo_148 (by decide) (fun _ => ?_) (fun h => absurd h c_11)
        refine lv_lconst (v := 0) hx hb dX5_layTwo_156 (by decide) ?_
        refine st_l hx hb hK.1 hP hD hS 3 1 rfl rfl (ix_lit (by decide)) 1 (by decide) dX5_layTwo_157 (fun H locs hP hD hS => ?_)
        have hP : va_P D vwCl [kM o mP mL mC mN mF mR mD mV mX mA mK cm mT pm mU mH mI, kA mL cI 180 gl, kJ mU cJ 3 (vp_updL (vp_updL (vp_updL fg 0 ((gl (((3 * i) + 1).toNatClampNeg)).toInt64)) 1 (-((gl ((3 * i).toNatClampNeg)).toInt64))) 2 0), kJ mH cJ 3 (vp_updL (vp_updL fh 0 ((gl (((3 * i) + 2).toNatClampNeg)).toInt64)) 1 0)] H := hP
        have hD : va_D A [kM o mP mL mC mN mF mR mD mV mX mA mK cm mT pm mU mH mI, kA mL cI 180 gl, kJ mU cJ 3 (vp_updL (vp_updL (vp_updL fg 0 ((gl (((3 * i) + 1).toNatClampNeg)).toInt64)) 1 (-((gl ((3 * i).toNatClampNeg)).toInt64))) 2 0), kJ mH cJ 3 (vp_updL (vp_updL fh 0 ((gl (((3 * i) + 2).toNatClampNeg)).toInt64)) 1 0)] := hD
        refine lv_aload_n hx hb dX5_layTwo_158 rfl (lv_at hl 3 rfl) ?_
        refine va_get (D := D) (ci := 5) (v := .ref mH) (C := RX5) (T := TX5) (N := 17) hx hb hts k_2 hown hK.1 hP 0 rfl rfl 15 (by decide) k_4 (fun _ h9 => h9) rfl dX5_layTwo_159 ?_
        refine lv_iconst (v := 2) hx hb dX5_layTwo_162 (by decide) ?_
        refine lv_lload_n hx hb dX5_layTwo_163 rfl (lv_at hl 2 rfl) ?_
        refine lv_lconst (v := 0) hx hb dX5_layTwo_164 (by decide) ?_
        refine lb_ne (tgt := 175) hx hb dX5_layTwo_165 rfl dX5_layTwo_166 (by decide) (fun _ => ?_) (fun h => absurd h c_11)
        refine lv_lload_n hx hb dX5_layTwo_175 rfl (lv_at hl 2 rfl) ?_
        refine lv_lneg hx hb dX5_layTwo_176 ?_
        refine st_l hx hb hK.1 hP hD hS 3 1 rfl rfl (ix_lit (by decide)) 2 (by decide) dX5_layTwo_177 (fun H locs hP hD hS => ?_)
        have hP : va_P D vwCl [kM o mP mL mC mN mF mR mD mV mX mA mK cm mT pm mU mH mI, kA mL cI 180 gl, kJ mU cJ 3 (vp_updL (vp_updL (vp_updL fg 0 ((gl (((3 * i) + 1).toNatClampNeg)).toInt64)) 1 (-((gl ((3 * i).toNatClampNeg)).toInt64))) 2 0), kJ mH cJ 3 (vp_updL (vp_updL (vp_updL fh 0 ((gl (((3 * i) + 2).toNatClampNeg)).toInt64)) 1 0) 2 (-((gl ((3 * i).toNatClampNeg)).toInt64)))] H := hP
        have hD : va_D A [kM o mP mL mC mN mF mR mD mV mX mA mK cm mT pm mU mH mI, kA mL cI 180 gl, kJ mU cJ 3 (vp_updL (vp_updL (vp_updL fg 0 ((gl (((3 * i) + 1).toNatClampNeg)).toInt64)) 1 (-((gl ((3 * i).toNatClampNeg)).toInt64))) 2 0), kJ mH cJ 3 (vp_updL (vp_updL (vp_updL fh 0 ((gl (((3 * i) + 2).toNatClampNeg)).toInt64)) 1 0) 2 (-((gl ((3 * i).toNatClampNeg)).toInt64)))] := hD
        refine lv_lload_n hx hb dX5_layTwo_178 rfl (lv_at hl 2 rfl) ?_
        refine lv_lconst (v := 0) hx hb dX5_layTwo_179 (by decide) ?_
        refine lb_ne (tgt := 212) hx hb dX5_layTwo_180 rfl dX5_layTwo_181 (by decide) (fun _ => ?_) (fun h => absurd h c_11)
        refine lv_aload_n hx hb dX5_layTwo_212 rfl (lv_at hl 3 rfl) ?_
        refine va_get (D := D) (ci := 5) (v := .ref mU) (C := RX5) (T := TX5) (N := 17) hx hb hts k_2 hown hK.1 hP 0 rfl rfl 14 (by decide) k_3 (fun _ h9 => h9) rfl dX5_layTwo_213 ?_
        refine lv_iconst (v := 3) hx hb dX5_layTwo_216 (by decide) ?_
        have hPc := hP.sub (ws' := [kJ mU cJ 3 (vp_updL (vp_updL (vp_updL fg 0 ((gl (((3 * i) + 1).toNatClampNeg)).toInt64)) 1 (-((gl ((3 * i).toNatClampNeg)).toInt64))) 2 0)]) [2] rfl
        have hDc := hD.sub (ws' := [kJ mU cJ 3 (vp_updL (vp_updL (vp_updL fg 0 ((gl (((3 * i) + 1).toNatClampNeg)).toInt64)) 1 (-((gl ((3 * i).toNatClampNeg)).toInt64))) 2 0)]) [2] (by decide) rfl
        refine cl_i (wc := [kJ mU cJ 3 (vp_updL (vp_updL (vp_updL fg 0 ((gl (((3 * i) + 1).toNatClampNeg)).toInt64)) 1 (-((gl ((3 * i).toNatClampNeg)).toInt64))) 2 0)]) (wr := [kM o mP mL mC mN mF mR mD mV mX mA mK cm mT pm mU mH mI, kA mL cI 180 gl, kJ mH cJ 3 (vp_updL (vp_updL (vp_updL fh 0 ((gl (((3 * i) + 2).toNatClampNeg)).toInt64)) 1 0) 2 (-((gl ((3 * i).toNatClampNeg)).toInt64)))]) (w1 := fun uu : Unit => [kJ mU cJ 3 ((z5_norm_3_3 (vp_updL (vp_updL (vp_updL fg 0 ((gl (((3 * i) + 1).toNatClampNeg)).toInt64)) 1 (-((gl ((3 * i).toNatClampNeg)).toInt64))) 2 0)).2)]) (wn := fun uu : Unit => [kM o mP mL mC mN mF mR mD mV mX mA mK cm mT pm mU mH mI, kA mL cI 180 gl, kJ mU cJ 3 ((z5_norm_3_3 (vp_updL (vp_updL (vp_updL fg 0 ((gl (((3 * i) + 1).toNatClampNeg)).toInt64)) 1 (-((gl ((3 * i).toNatClampNeg)).toInt64))) 2 0)).2), kJ mH cJ 3 (vp_updL (vp_updL (vp_updL fh 0 ((gl (((3 * i) + 2).toNatClampNeg)).toInt64)) 1 0) 2 (-((gl ((3 * i).toNatClampNeg)).toInt64)))]) (va_runS (As := [.ref mU, .int 3]) (rest := []) ⟨hx, hb, hml, hown, hts⟩ (c_X5_norm_3_3 l D cI cJ mU (vp_updL (vp_updL (vp_updL fg 0 ((gl (((3 * i) + 1).toNatClampNeg)).toInt64)) 1 (-((gl ((3 * i).toNatClampNeg)).toInt64))) 2 0) _) (va_cwS 2 hts gX5_layTwo_X5_norm rfl rfl rfl (by decide +kernel) ⟨Nat.le_of_ble_eq_true rfl, Nat.le_of_ble_eq_true rfl⟩) ⟨gd_blP, gd_prP hPc hK hDc⟩ rfl rfl hl.1 rfl (lv_room (Nat.le_of_ble_eq_true rfl)) dX5_layTwo_217 ⟨Nat.zero_le _, Nat.zero_le _⟩) hP hD hS hA [2] [0, 1, 3] rfl rfl (by decide) (by decide) [0, 1, 3, 2] (by decide) (fun _ => rfl) (fun r_217 uG H locs hw hP hD hS => ?_)
        have hP : va_P D vwCl [kM o mP mL mC mN mF mR mD mV mX mA mK cm mT pm mU mH mI, kA mL cI 180 gl, kJ mU cJ 3 ((z5_norm_3_3 (vp_updL (vp_updL (vp_updL fg 0 ((gl (((3 * i) + 1).toNatClampNeg)).toInt64)) 1 (-((gl ((3 * i).toNatClampNeg)).toInt64))) 2 0)).2), kJ mH cJ 3 (vp_updL (vp_updL (vp_updL fh 0 ((gl (((3 * i) + 2).toNatClampNeg)).toInt64)) 1 0) 2 (-((gl ((3 * i).toNatClampNeg)).toInt64)))] H := hP
        have hD : va_D A [kM o mP mL mC mN mF mR mD mV mX mA mK cm mT pm mU mH mI, kA mL cI 180 gl, kJ mU cJ 3 ((z5_norm_3_3 (vp_updL (vp_updL (vp_updL fg 0 ((gl (((3 * i) + 1).toNatClampNeg)).toInt64)) 1 (-((gl ((3 * i).toNatClampNeg)).toInt64))) 2 0)).2), kJ mH cJ 3 (vp_updL (vp_updL (vp_updL fh 0 ((gl (((3 * i) + 2).toNatClampNeg)).toInt64)) 1 0) 2 (-((gl ((3 * i).toNatClampNeg)).toInt64)))] := hD
        have ea_0 : (z5_norm_3_3 (vp_updL (vp_updL (vp_updL fg 0 ((gl (((3 * i) + 1).toNatClampNeg)).toInt64)) 1 (-((gl ((3 * i).toNatClampNeg)).toInt64))) 2 0)).2 = z5_layTwo_v1 gl fg i := by delta z5_layTwo_v1; rfl
        have ea_1 : vp_updL (vp_updL (vp_updL fh 0 ((gl (((3 * i) + 2).toNatClampNeg)).toInt64)) 1 0) 2 (-((gl ((3 * i).toNatClampNeg)).toInt64)) = z5_layTwo_v2 gl fh i := by delta z5_layTwo_v2; rfl
        rw [ea_0, ea_1] at hP hD
        clear ea_0 ea_1
        subst hw
        refine lv_eqi (v := z5_layTwo_v3 gl fg i) (by delta z5_layTwo_v3; rfl) ?_
        clear hPc hDc
        refine lv_if_eq (tgt := 238) hx hb dX5_layTwo_220 (by decide) (fun c_12 => ?_) (fun c_12 => ?_)
        · skip
          refine lv_iconst (v := 0) hx hb dX5_layTwo_238 (by decide) ?_
          refine lv_istore (lv' := [(8, .int 0), (6, .long ((gl (((3 * i) + 2).toNatClampNeg)).toInt64)), (4, .long ((gl (((3 * i) + 1).toNatClampNeg)).toInt64)), (2, .long ((gl ((3 * i).toNatClampNeg)).toInt64)), (0, .ref o), (1, .int i)]) hx hb dX5_layTwo_239 hl (by decide) rfl (fun ls hl => ?_)
          have he : z5_layTwo gl fg fh i = (z5_layTwo_v1 gl fg i, z5_layTwo_v2 gl fh i) := by unfold z5_layTwo; rw [if_pos c_1, if_neg c_10, if_neg c_11, if_pos c_12]
          have he_0 : (z5_layTwo gl fg fh i).1 = z5_layTwo_v1 gl fg i := by rw [he]
          have he_1 : (z5_layTwo gl fg fh i).2 = z5_layTwo_v2 gl fh i := by rw [he]
          exact rt_v (w1 := fun uu : Unit => [kM o mP mL mC mN mF mR mD mV mX mA mK cm mT pm mU mH mI, kA mL cI 180 gl, kJ mU cJ 3 ((z5_layTwo gl fg fh i).1), kJ mH cJ 3 ((z5_layTwo gl fg fh i).2)]) hx hb hr hlk hS dX5_layTwo_241 (()) trivial (by rw [he_0, he_1]; exact hP) (by rw [he_0, he_1]; exact hD)
        · skip
          refine lv_aload_n hx hb dX5_layTwo_223 rfl (lv_at hl 3 rfl) ?_
          refine va_get (D := D) (ci := 5) (v := .ref mH) (C := RX5) (T := TX5) (N := 17) hx hb hts k_2 hown hK.1 hP 0 rfl rfl 15 (by decide) k_4 (fun _ h9 => h9) rfl dX5_layTwo_224 ?_
          refine lv_iconst (v := 3) hx hb dX5_layTwo_227 (by decide) ?_
          have hPc := hP.sub (ws' := [kJ mH cJ 3 (z5_layTwo_v2 gl fh i)]) [3] rfl
          have hDc := hD.sub (ws' := [kJ mH cJ 3 (z5_layTwo_v2 gl fh i)]) [3] (by decide) rfl
          refine cl_i (wc := [kJ mH cJ 3 (z5_layTwo_v2 gl fh i)]) (wr := [kM o mP mL mC mN mF mR mD mV mX mA mK cm mT pm mU mH mI, kA mL cI 180 gl, kJ mU cJ 3 (z5_layTwo_v1 gl fg i)]) (w1 := fun uu : Unit => [kJ mH cJ 3 ((z5_norm_3_3 (z5_layTwo_v2 gl fh i)).2)]) (wn := fun uu : Unit => [kM o mP mL mC mN mF mR mD mV mX mA mK cm mT pm mU mH mI, kA mL cI 180 gl, kJ mU cJ 3 (z5_layTwo_v1 gl fg i), kJ mH cJ 3 ((z5_norm_3_3 (z5_layTwo_v2 gl fh i)).2)]) (va_runS (As := [.ref mH, .int 3]) (rest := []) ⟨hx, hb, hml, hown, hts⟩ (c_X5_norm_3_3 l D cI cJ mH (z5_layTwo_v2 gl fh i) _) (va_cwS 2 hts gX5_layTwo_X5_norm rfl rfl rfl (by decide +kernel) ⟨Nat.le_of_ble_eq_true rfl, Nat.le_of_ble_eq_true rfl⟩) ⟨gd_blP, gd_prP hPc hK hDc⟩ rfl rfl hl.1 rfl (lv_room (Nat.le_of_ble_eq_true rfl)) dX5_layTwo_228 ⟨Nat.zero_le _, Nat.zero_le _⟩) hP hD hS hA [3] [0, 1, 2] rfl rfl (by decide) (by decide) [0, 1, 2, 3] (by decide) (fun _ => rfl) (fun r_228 uG H locs hw hP hD hS => ?_)
          have hP : va_P D vwCl [kM o mP mL mC mN mF mR mD mV mX mA mK cm mT pm mU mH mI, kA mL cI 180 gl, kJ mU cJ 3 (z5_layTwo_v1 gl fg i), kJ mH cJ 3 ((z5_norm_3_3 (z5_layTwo_v2 gl fh i)).2)] H := hP
          have hD : va_D A [kM o mP mL mC mN mF mR mD mV mX mA mK cm mT pm mU mH mI, kA mL cI 180 gl, kJ mU cJ 3 (z5_layTwo_v1 gl fg i), kJ mH cJ 3 ((z5_norm_3_3 (z5_layTwo_v2 gl fh i)).2)] := hD
          subst hw
          clear hPc hDc
          refine lv_if_eq (tgt := 238) hx hb dX5_layTwo_231 (by decide) (fun c_13 => ?_) (fun c_13 => ?_)
          · skip
            refine lv_iconst (v := 0) hx hb dX5_layTwo_238 (by decide) ?_
            refine lv_istore (lv' := [(8, .int 0), (6, .long ((gl (((3 * i) + 2).toNatClampNeg)).toInt64)), (4, .long ((gl (((3 * i) + 1).toNatClampNeg)).toInt64)), (2, .long ((gl ((3 * i).toNatClampNeg)).toInt64)), (0, .ref o), (1, .int i)]) hx hb dX5_layTwo_239 hl (by decide) rfl (fun ls hl => ?_)
            have he : z5_layTwo gl fg fh i = (z5_layTwo_v1 gl fg i, (z5_norm_3_3 (z5_layTwo_v2 gl fh i)).2) := by unfold z5_layTwo; rw [if_pos c_1, if_neg c_10, if_neg c_11, if_neg c_12, if_pos c_13]
            have he_0 : (z5_layTwo gl fg fh i).1 = z5_layTwo_v1 gl fg i := by rw [he]
            have he_1 : (z5_layTwo gl fg fh i).2 = (z5_norm_3_3 (z5_layTwo_v2 gl fh i)).2 := by rw [he]
            exact rt_v (w1 := fun uu : Unit => [kM o mP mL mC mN mF mR mD mV mX mA mK cm mT pm mU mH mI, kA mL cI 180 gl, kJ mU cJ 3 ((z5_layTwo gl fg fh i).1), kJ mH cJ 3 ((z5_layTwo gl fg fh i).2)]) hx hb hr hlk hS dX5_layTwo_241 (()) trivial (by rw [he_0, he_1]; exact hP) (by rw [he_0, he_1]; exact hD)
          · skip
            refine lv_iconst (v := 1) hx hb dX5_layTwo_234 (by decide) ?_
            refine lv_goto (tgt := 239) hx hb dX5_layTwo_235 (by decide) ?_
            refine lv_istore (lv' := [(8, .int 1), (6, .long ((gl (((3 * i) + 2).toNatClampNeg)).toInt64)), (4, .long ((gl (((3 * i) + 1).toNatClampNeg)).toInt64)), (2, .long ((gl ((3 * i).toNatClampNeg)).toInt64)), (0, .ref o), (1, .int i)]) hx hb dX5_layTwo_239 hl (by decide) rfl (fun ls hl => ?_)
            have he : z5_layTwo gl fg fh i = (z5_layTwo_v1 gl fg i, (z5_norm_3_3 (z5_layTwo_v2 gl fh i)).2) := by unfold z5_layTwo; rw [if_pos c_1, if_neg c_10, if_neg c_11, if_neg c_12, if_neg c_13]
            have he_0 : (z5_layTwo gl fg fh i).1 = z5_layTwo_v1 gl fg i := by rw [he]
            have he_1 : (z5_layTwo gl fg fh i).2 = (z5_norm_3_3 (z5_layTwo_v2 gl fh i)).2 := by rw [he]
            exact rt_v (w1 := fun uu : Unit => [kM o mP mL mC mN mF mR mD mV mX mA mK cm mT pm mU mH mI, kA mL cI 180 gl, kJ mU cJ 3 ((z5_layTwo gl fg fh i).1), kJ mH cJ 3 ((z5_layTwo gl fg fh i).2)]) hx hb hr hlk hS dX5_layTwo_241 (()) trivial (by rw [he_0, he_1]; exact hP) (by rw [he_0, he_1]; exact hD)
      · skip
        refine lv_lload hx hb dX5_layTwo_101 (lv_at hl 1 rfl) ?_
        refine lv_lconst (v := 0) hx hb dX5_layTwo_103 (by decide) ?_
        refine lb_ne (tgt := 122) hx hb dX5_layTwo_104 rfl dX5_layTwo_105 (by decide) (fun _ => ?_) (fun h => absurd h c_10)
        refine lv_aload_n hx hb dX5_layTwo_122 rfl (lv_at hl 3 rfl) ?_
        refine va_get (D := D) (ci := 5) (v := .ref mH) (C := RX5) (T := TX5) (N := 17) hx hb hts k_2 hown hK.1 hP 0 rfl rfl 15 (by decide) k_4 (fun _ h9 => h9) rfl dX5_layTwo_123 ?_
        refine lv_iconst (v := 0) hx hb dX5_layTwo_126 (by decide) ?_
        refine lv_lload_n hx hb dX5_layTwo_127 rfl (lv_at hl 2 rfl) ?_
        refine lv_lconst (v := 0) hx hb dX5_layTwo_128 (by decide) ?_
        refine lb_ne (tgt := 137) hx hb dX5_layTwo_129 rfl dX5_layTwo_130 (by decide) (fun h => absurd c_11 h) (fun _ => ?_)
        refine lv_lconst (v := 0) hx hb dX5_layTwo_133 (by decide) ?_
        refine lv_goto (tgt := 139) hx hb dX5_layTwo_134 (by decide) ?_
        refine st_l hx hb hK.1 hP hD hS 3 1 rfl rfl (ix_lit (by decide)) 0 (by decide) dX5_layTwo_139 (fun H locs hP hD hS => ?_)
        have hP : va_P D vwCl [kM o mP mL mC mN mF mR mD mV mX mA mK cm mT pm mU mH mI, kA mL cI 180 gl, kJ mU cJ 3 (vp_updL (vp_updL (vp_updL fg 0 ((gl (((3 * i) + 1).toNatClampNeg)).toInt64)) 1 (-((gl ((3 * i).toNatClampNeg)).toInt64))) 2 0), kJ mH cJ 3 (vp_updL fh 0 0)] H := hP
        have hD : va_D A [kM o mP mL mC mN mF mR mD mV mX mA mK cm mT pm mU mH mI, kA mL cI 180 gl, kJ mU cJ 3 (vp_updL (vp_updL (vp_updL fg 0 ((gl (((3 * i) + 1).toNatClampNeg)).toInt64)) 1 (-((gl ((3 * i).toNatClampNeg)).toInt64))) 2 0), kJ mH cJ 3 (vp_updL fh 0 0)] := hD
        refine lv_aload_n hx hb dX5_layTwo_140 rfl (lv_at hl 3 rfl) ?_
        refine va_get (D := D) (ci := 5) (v := .ref mH) (C := RX5) (T := TX5) (N := 17) hx hb hts k_2 hown hK.1 hP 0 rfl rfl 15 (by decide) k_4 (fun _ h9 => h9) rfl dX5_layTwo_141 ?_
        refine lv_iconst (v := 1) hx hb dX5_layTwo_144 (by decide) ?_
        refine lv_lload_n hx hb dX5_layTwo_145 rfl (lv_at hl 2 rfl) ?_
        refine lv_lconst (v := 0) hx hb dX5_layTwo_146 (by decide) ?_
        refine lb_ne (tgt := 156) hx hb dX5_layTwo_147 rfl dX5_layTwo_148 (by decide) (fun h => absurd c_11 h) (fun _ => ?_)
        refine lv_lload hx hb dX5_layTwo_151 (lv_at hl 0 rfl) ?_
        refine lv_goto (tgt := 157) hx hb dX5_layTwo_153 (by decide) ?_
        refine st_l hx hb hK.1 hP hD hS 3 1 rfl rfl (ix_lit (by decide)) 1 (by decide) dX5_layTwo_157 (fun H locs hP hD hS => ?_)
        have hP : va_P D vwCl [kM o mP mL mC mN mF mR mD mV mX mA mK cm mT pm mU mH mI, kA mL cI 180 gl, kJ mU cJ 3 (vp_updL (vp_updL (vp_updL fg 0 ((gl (((3 * i) + 1).toNatClampNeg)).toInt64)) 1 (-((gl ((3 * i).toNatClampNeg)).toInt64))) 2 0), kJ mH cJ 3 (vp_updL (vp_updL fh 0 0) 1 ((gl (((3 * i) + 2).toNatClampNeg)).toInt64))] H := hP
        have hD : va_D A [kM o mP mL mC mN mF mR mD mV mX mA mK cm mT pm mU mH mI, kA mL cI 180 gl, kJ mU cJ 3 (vp_updL (vp_updL (vp_updL fg 0 ((gl (((3 * i) + 1).toNatClampNeg)).toInt64)) 1 (-((gl ((3 * i).toNatClampNeg)).toInt64))) 2 0), kJ mH cJ 3 (vp_updL (vp_updL fh 0 0) 1 ((gl (((3 * i) + 2).toNatClampNeg)).toInt64))] := hD
        refine lv_aload_n hx hb dX5_layTwo_158 rfl (lv_at hl 3 rfl) ?_
        refine va_get (D := D) (ci := 5) (v := .ref mH) (C := RX5) (T := TX5) (N := 17) hx hb hts k_2 hown hK.1 hP 0 rfl rfl 15 (by decide) k_4 (fun _ h9 => h9) rfl dX5_layTwo_159 ?_
        refine lv_iconst (v := 2) hx hb dX5_layTwo_162 (by decide) ?_
        refine lv_lload_n hx hb dX5_layTwo_163 rfl (lv_at hl 2 rfl) ?_
        refine lv_lconst (v := 0) hx hb dX5_layTwo_164 (by decide) ?_
        refine lb_ne (tgt := 175) hx hb dX5_layTwo_165 rfl dX5_layTwo_166 (by decide) (fun h => absurd c_11 h) (fun _ => ?_)
        refine lv_lload hx hb dX5_layTwo_169 (lv_at hl 1 rfl) ?_
        refine lv_lneg hx hb dX5_layTwo_171 ?_
        refine lv_goto (tgt := 177) hx hb dX5_layTwo_172 (by decide) ?_
        refine st_l hx hb hK.1 hP hD hS 3 1 rfl rfl (ix_lit (by decide)) 2 (by decide) dX5_layTwo_177 (fun H locs hP hD hS => ?_)
        have hP : va_P D vwCl [kM o mP mL mC mN mF mR mD mV mX mA mK cm mT pm mU mH mI, kA mL cI 180 gl, kJ mU cJ 3 (vp_updL (vp_updL (vp_updL fg 0 ((gl (((3 * i) + 1).toNatClampNeg)).toInt64)) 1 (-((gl ((3 * i).toNatClampNeg)).toInt64))) 2 0), kJ mH cJ 3 (vp_updL (vp_updL (vp_updL fh 0 0) 1 ((gl (((3 * i) + 2).toNatClampNeg)).toInt64)) 2 (-((gl (((3 * i) + 1).toNatClampNeg)).toInt64)))] H := hP
        have hD : va_D A [kM o mP mL mC mN mF mR mD mV mX mA mK cm mT pm mU mH mI, kA mL cI 180 gl, kJ mU cJ 3 (vp_updL (vp_updL (vp_updL fg 0 ((gl (((3 * i) + 1).toNatClampNeg)).toInt64)) 1 (-((gl ((3 * i).toNatClampNeg)).toInt64))) 2 0), kJ mH cJ 3 (vp_updL (vp_updL (vp_updL fh 0 0) 1 ((gl (((3 * i) + 2).toNatClampNeg)).toInt64)) 2 (-((gl (((3 * i) + 1).toNatClampNeg)).toInt64)))] := hD
        refine lv_lload_n hx hb dX5_layTwo_178 rfl (lv_at hl 2 rfl) ?_
        refine lv_lconst (v := 0) hx hb dX5_layTwo_179 (by decide) ?_
        refine lb_ne (tgt := 212) hx hb dX5_layTwo_180 rfl dX5_layTwo_181 (by decide) (fun h => absurd c_11 h) (fun _ => ?_)
        refine lv_lload hx hb dX5_layTwo_184 (lv_at hl 1 rfl) ?_
        refine lv_lconst (v := 0) hx hb dX5_layTwo_186 (by decide) ?_
        refine lb_ne (tgt := 212) hx hb dX5_layTwo_187 rfl dX5_layTwo_188 (by decide) (fun _ => ?_) (fun h => absurd h c_10)
        refine lv_aload_n hx hb dX5_layTwo_212 rfl (lv_at hl 3 rfl) ?_
        refine va_get (D := D) (ci := 5) (v := .ref mU) (C := RX5) (T := TX5) (N := 17) hx hb hts k_2 hown hK.1 hP 0 rfl rfl 14 (by decide) k_3 (fun _ h9 => h9) rfl dX5_layTwo_213 ?_
        refine lv_iconst (v := 3) hx hb dX5_layTwo_216 (by decide) ?_
        have hPc := hP.sub (ws' := [kJ mU cJ 3 (vp_updL (vp_updL (vp_updL fg 0 ((gl (((3 * i) + 1).toNatClampNeg)).toInt64)) 1 (-((gl ((3 * i).toNatClampNeg)).toInt64))) 2 0)]) [2] rfl
        have hDc := hD.sub (ws' := [kJ mU cJ 3 (vp_updL (vp_updL (vp_updL fg 0 ((gl (((3 * i) + 1).toNatClampNeg)).toInt64)) 1 (-((gl ((3 * i).toNatClampNeg)).toInt64))) 2 0)]) [2] (by decide) rfl
        refine cl_i (wc := [kJ mU cJ 3 (vp_updL (vp_updL (vp_updL fg 0 ((gl (((3 * i) + 1).toNatClampNeg)).toInt64)) 1 (-((gl ((3 * i).toNatClampNeg)).toInt64))) 2 0)]) (wr := [kM o mP mL mC mN mF mR mD mV mX mA mK cm mT pm mU mH mI, kA mL cI 180 gl, kJ mH cJ 3 (vp_updL (vp_updL (vp_updL fh 0 0) 1 ((gl (((3 * i) + 2).toNatClampNeg)).toInt64)) 2 (-((gl (((3 * i) + 1).toNatClampNeg)).toInt64)))]) (w1 := fun uu : Unit => [kJ mU cJ 3 ((z5_norm_3_3 (vp_updL (vp_updL (vp_updL fg 0 ((gl (((3 * i) + 1).toNatClampNeg)).toInt64)) 1 (-((gl ((3 * i).toNatClampNeg)).toInt64))) 2 0)).2)]) (wn := fun uu : Unit => [kM o mP mL mC mN mF mR mD mV mX mA mK cm mT pm mU mH mI, kA mL cI 180 gl, kJ mU cJ 3 ((z5_norm_3_3 (vp_updL (vp_updL (vp_updL fg 0 ((gl (((3 * i) + 1).toNatClampNeg)).toInt64)) 1 (-((gl ((3 * i).toNatClampNeg)).toInt64))) 2 0)).2), kJ mH cJ 3 (vp_updL (vp_updL (vp_updL fh 0 0) 1 ((gl (((3 * i) + 2).toNatClampNeg)).toInt64)) 2 (-((gl (((3 * i) + 1).toNatClampNeg)).toInt64)))]) (va_runS (As := [.ref mU, .int 3]) (rest := []) ⟨hx, hb, hml, hown, hts⟩ (c_X5_norm_3_3 l D cI cJ mU (vp_updL (vp_updL (vp_updL fg 0 ((gl (((3 * i) + 1).toNatClampNeg)).toInt64)) 1 (-((gl ((3 * i).toNatClampNeg)).toInt64))) 2 0) _) (va_cwS 2 hts gX5_layTwo_X5_norm rfl rfl rfl (by decide +kernel) ⟨Nat.le_of_ble_eq_true rfl, Nat.le_of_ble_eq_true rfl⟩) ⟨gd_blP, gd_prP hPc hK hDc⟩ rfl rfl hl.1 rfl (lv_room (Nat.le_of_ble_eq_true rfl)) dX5_layTwo_217 ⟨Nat.zero_le _, Nat.zero_le _⟩) hP hD hS hA [2] [0, 1, 3] rfl rfl (by decide) (by decide) [0, 1, 3, 2] (by decide) (fun _ => rfl) (fun r_217 uG H locs hw hP hD hS => ?_)
        have hP : va_P D vwCl [kM o mP mL mC mN mF mR mD mV mX mA mK cm mT pm mU mH mI, kA mL cI 180 gl, kJ mU cJ 3 ((z5_norm_3_3 (vp_updL (vp_updL (vp_updL fg 0 ((gl (((3 * i) + 1).toNatClampNeg)).toInt64)) 1 (-((gl ((3 * i).toNatClampNeg)).toInt64))) 2 0)).2), kJ mH cJ 3 (vp_updL (vp_updL (vp_updL fh 0 0) 1 ((gl (((3 * i) + 2).toNatClampNeg)).toInt64)) 2 (-((gl (((3 * i) + 1).toNatClampNeg)).toInt64)))] H := hP
        have hD : va_D A [kM o mP mL mC mN mF mR mD mV mX mA mK cm mT pm mU mH mI, kA mL cI 180 gl, kJ mU cJ 3 ((z5_norm_3_3 (vp_updL (vp_updL (vp_updL fg 0 ((gl (((3 * i) + 1).toNatClampNeg)).toInt64)) 1 (-((gl ((3 * i).toNatClampNeg)).toInt64))) 2 0)).2), kJ mH cJ 3 (vp_updL (vp_updL (vp_updL fh 0 0) 1 ((gl (((3 * i) + 2).toNatClampNeg)).toInt64)) 2 (-((gl (((3 * i) + 1).toNatClampNeg)).toInt64)))] := hD
        have ea_0 : (z5_norm_3_3 (vp_updL (vp_updL (vp_updL fg 0 ((gl (((3 * i) + 1).toNatClampNeg)).toInt64)) 1 (-((gl ((3 * i).toNatClampNeg)).toInt64))) 2 0)).2 = z5_layTwo_v1 gl fg i := by delta z5_layTwo_v1; rfl
        have ea_1 : vp_updL (vp_updL (vp_updL fh 0 0) 1 ((gl (((3 * i) + 2).toNatClampNeg)).toInt64)) 2 (-((gl (((3 * i) + 1).toNatClampNeg)).toInt64)) = z5_layTwo_v4 gl fh i := by delta z5_layTwo_v4; rfl
        rw [ea_0, ea_1] at hP hD
        clear ea_0 ea_1
        subst hw
        refine lv_eqi (v := z5_layTwo_v3 gl fg i) (by delta z5_layTwo_v3; rfl) ?_
        clear hPc hDc
        refine lv_if_eq (tgt := 238) hx hb dX5_layTwo_220 (by decide) (fun c_14 => ?_) (fun c_14 => ?_)
        · skip
          refine lv_iconst (v := 0) hx hb dX5_layTwo_238 (by decide) ?_
          refine lv_istore (lv' := [(8, .int 0), (6, .long ((gl (((3 * i) + 2).toNatClampNeg)).toInt64)), (4, .long ((gl (((3 * i) + 1).toNatClampNeg)).toInt64)), (2, .long ((gl ((3 * i).toNatClampNeg)).toInt64)), (0, .ref o), (1, .int i)]) hx hb dX5_layTwo_239 hl (by decide) rfl (fun ls hl => ?_)
          have he : z5_layTwo gl fg fh i = (z5_layTwo_v1 gl fg i, z5_layTwo_v4 gl fh i) := by unfold z5_layTwo; rw [if_pos c_1, if_neg c_10, if_pos c_11, if_pos c_14]
          have he_0 : (z5_layTwo gl fg fh i).1 = z5_layTwo_v1 gl fg i := by rw [he]
          have he_1 : (z5_layTwo gl fg fh i).2 = z5_layTwo_v4 gl fh i := by rw [he]
          exact rt_v (w1 := fun uu : Unit => [kM o mP mL mC mN mF mR mD mV mX mA mK cm mT pm mU mH mI, kA mL cI 180 gl, kJ mU cJ 3 ((z5_layTwo gl fg fh i).1), kJ mH cJ 3 ((z5_layTwo gl fg fh i).2)]) hx hb hr hlk hS dX5_layTwo_241 (()) trivial (by rw [he_0, he_1]; exact hP) (by rw [he_0, he_1]; exact hD)
        · skip
          refine lv_aload_n hx hb dX5_layTwo_223 rfl (lv_at hl 3 rfl) ?_
          refine va_get (D := D) (ci := 5) (v := .ref mH) (C := RX5) (T := TX5) (N := 17) hx hb hts k_2 hown hK.1 hP 0 rfl rfl 15 (by decide) k_4 (fun _ h9 => h9) rfl dX5_layTwo_224 ?_
          refine lv_iconst (v := 3) hx hb dX5_layTwo_227 (by decide) ?_
          have hPc := hP.sub (ws' := [kJ mH cJ 3 (z5_layTwo_v4 gl fh i)]) [3] rfl
          have hDc := hD.sub (ws' := [kJ mH cJ 3 (z5_layTwo_v4 gl fh i)]) [3] (by decide) rfl
          refine cl_i (wc := [kJ mH cJ 3 (z5_layTwo_v4 gl fh i)]) (wr := [kM o mP mL mC mN mF mR mD mV mX mA mK cm mT pm mU mH mI, kA mL cI 180 gl, kJ mU cJ 3 (z5_layTwo_v1 gl fg i)]) (w1 := fun uu : Unit => [kJ mH cJ 3 ((z5_norm_3_3 (z5_layTwo_v4 gl fh i)).2)]) (wn := fun uu : Unit => [kM o mP mL mC mN mF mR mD mV mX mA mK cm mT pm mU mH mI, kA mL cI 180 gl, kJ mU cJ 3 (z5_layTwo_v1 gl fg i), kJ mH cJ 3 ((z5_norm_3_3 (z5_layTwo_v4 gl fh i)).2)]) (va_runS (As := [.ref mH, .int 3]) (rest := []) ⟨hx, hb, hml, hown, hts⟩ (c_X5_norm_3_3 l D cI cJ mH (z5_layTwo_v4 gl fh i) _) (va_cwS 2 hts gX5_layTwo_X5_norm rfl rfl rfl (by decide +kernel) ⟨Nat.le_of_ble_eq_true rfl, Nat.le_of_ble_eq_true rfl⟩) ⟨gd_blP, gd_prP hPc hK hDc⟩ rfl rfl hl.1 rfl (lv_room (Nat.le_of_ble_eq_true rfl)) dX5_layTwo_228 ⟨Nat.zero_le _, Nat.zero_le _⟩) hP hD hS hA [3] [0, 1, 2] rfl rfl (by decide) (by decide) [0, 1, 2, 3] (by decide) (fun _ => rfl) (fun r_228 uG H locs hw hP hD hS => ?_)
          have hP : va_P D vwCl [kM o mP mL mC mN mF mR mD mV mX mA mK cm mT pm mU mH mI, kA mL cI 180 gl, kJ mU cJ 3 (z5_layTwo_v1 gl fg i), kJ mH cJ 3 ((z5_norm_3_3 (z5_layTwo_v4 gl fh i)).2)] H := hP
          have hD : va_D A [kM o mP mL mC mN mF mR mD mV mX mA mK cm mT pm mU mH mI, kA mL cI 180 gl, kJ mU cJ 3 (z5_layTwo_v1 gl fg i), kJ mH cJ 3 ((z5_norm_3_3 (z5_layTwo_v4 gl fh i)).2)] := hD
          subst hw
          clear hPc hDc
          refine lv_if_eq (tgt := 238) hx hb dX5_layTwo_231 (by decide) (fun c_15 => ?_) (fun c_15 => ?_)
          · skip
            refine lv_iconst (v := 0) hx hb dX5_layTwo_238 (by decide) ?_
            refine lv_istore (lv' := [(8, .int 0), (6, .long ((gl (((3 * i) + 2).toNatClampNeg)).toInt64)), (4, .long ((gl (((3 * i) + 1).toNatClampNeg)).toInt64)), (2, .long ((gl ((3 * i).toNatClampNeg)).toInt64)), (0, .ref o), (1, .int i)]) hx hb dX5_layTwo_239 hl (by decide) rfl (fun ls hl => ?_)
            have he : z5_layTwo gl fg fh i = (z5_layTwo_v1 gl fg i, (z5_norm_3_3 (z5_layTwo_v4 gl fh i)).2) := by unfold z5_layTwo; rw [if_pos c_1, if_neg c_10, if_pos c_11, if_neg c_14, if_pos c_15]
            have he_0 : (z5_layTwo gl fg fh i).1 = z5_layTwo_v1 gl fg i := by rw [he]
            have he_1 : (z5_layTwo gl fg fh i).2 = (z5_norm_3_3 (z5_layTwo_v4 gl fh i)).2 := by rw [he]
            exact rt_v (w1 := fun uu : Unit => [kM o mP mL mC mN mF mR mD mV mX mA mK cm mT pm mU mH mI, kA mL cI 180 gl, kJ mU cJ 3 ((z5_layTwo gl fg fh i).1), kJ mH cJ 3 ((z5_layTwo gl fg fh i).2)]) hx hb hr hlk hS dX5_layTwo_241 (()) trivial (by rw [he_0, he_1]; exact hP) (by rw [he_0, he_1]; exact hD)
          · skip
            refine lv_iconst (v := 1) hx hb dX5_layTwo_234 (by decide) ?_
            refine lv_goto (tgt := 239) hx hb dX5_layTwo_235 (by decide) ?_
            refine lv_istore (lv' := [(8, .int 1), (6, .long ((gl (((3 * i) + 2).toNatClampNeg)).toInt64)), (4, .long ((gl (((3 * i) + 1).toNatClampNeg)).toInt64)), (2, .long ((gl ((3 * i).toNatClampNeg)).toInt64)), (0, .ref o), (1, .int i)]) hx hb dX5_layTwo_239 hl (by decide) rfl (fun ls hl => ?_)
            have he : z5_layTwo gl fg fh i = (z5_layTwo_v1 gl fg i, (z5_norm_3_3 (z5_layTwo_v4 gl fh i)).2) := by unfold z5_layTwo; rw [if_pos c_1, if_neg c_10, if_pos c_11, if_neg c_14, if_neg c_15]
            have he_0 : (z5_layTwo gl fg fh i).1 = z5_layTwo_v1 gl fg i := by rw [he]
            have he_1 : (z5_layTwo gl fg fh i).2 = (z5_norm_3_3 (z5_layTwo_v4 gl fh i)).2 := by rw [he]
            exact rt_v (w1 := fun uu : Unit => [kM o mP mL mC mN mF mR mD mV mX mA mK cm mT pm mU mH mI, kA mL cI 180 gl, kJ mU cJ 3 ((z5_layTwo gl fg fh i).1), kJ mH cJ 3 ((z5_layTwo gl fg fh i).2)]) hx hb hr hlk hS dX5_layTwo_241 (()) trivial (by rw [he_0, he_1]; exact hP) (by rw [he_0, he_1]; exact hD)
    · skip
      refine lv_lconst (v := 0) hx hb dX5_layTwo_55 (by decide) ?_
      refine lv_goto (tgt := 61) hx hb dX5_layTwo_56 (by decide) ?_
      refine st_l hx hb hK.1 hP hD hS 2 1 rfl rfl (ix_lit (by decide)) 0 (by decide) dX5_layTwo_61 (fun H locs hP hD hS => ?_)
      have hP : va_P D vwCl [kM o mP mL mC mN mF mR mD mV mX mA mK cm mT pm mU mH mI, kA mL cI 180 gl, kJ mU cJ 3 (vp_updL fg 0 0), kJ mH cJ 3 fh] H := hP
      have hD : va_D A [kM o mP mL mC mN mF mR mD mV mX mA mK cm mT pm mU mH mI, kA mL cI 180 gl, kJ mU cJ 3 (vp_updL fg 0 0), kJ mH cJ 3 fh] := hD
      refine lv_aload_n hx hb dX5_layTwo_62 rfl (lv_at hl 3 rfl) ?_
      refine va_get (D := D) (ci := 5) (v := .ref mU) (C := RX5) (T := TX5) (N := 17) hx hb hts k_2 hown hK.1 hP 0 rfl rfl 14 (by decide) k_3 (fun _ h9 => h9) rfl dX5_layTwo_63 ?_
      refine lv_iconst (v := 1) hx hb dX5_layTwo_66 (by decide) ?_
      refine lv_lload hx hb dX5_layTwo_67 (lv_at hl 0 rfl) ?_
      refine lv_lconst (v := 0) hx hb dX5_layTwo_69 (by decide) ?_
      refine lb_ne (tgt := 85) hx hb dX5_layTwo_70 rfl dX5_layTwo_71 (by decide) (fun h => absurd c_1 h) (fun _ => ?_)
      refine lv_lload hx hb dX5_layTwo_74 (lv_at hl 1 rfl) ?_
      refine lv_lconst (v := 0) hx hb dX5_layTwo_76 (by decide) ?_
      refine lb_ne (tgt := 85) hx hb dX5_layTwo_77 rfl dX5_layTwo_78 (by decide) (fun h => absurd c_10 h) (fun _ => ?_)
      refine lv_lconst (v := 1) hx hb dX5_layTwo_81 (by decide) ?_
      refine lv_goto (tgt := 87) hx hb dX5_layTwo_82 (by decide) ?_
      refine st_l hx hb hK.1 hP hD hS 2 1 rfl rfl (ix_lit (by decide)) 1 (by decide) dX5_layTwo_87 (fun H locs hP hD hS => ?_)
      have hP : va_P D vwCl [kM o mP mL mC mN mF mR mD mV mX mA mK cm mT pm mU mH mI, kA mL cI 180 gl, kJ mU cJ 3 (vp_updL (vp_updL fg 0 0) 1 1), kJ mH cJ 3 fh] H := hP
      have hD : va_D A [kM o mP mL mC mN mF mR mD mV mX mA mK cm mT pm mU mH mI, kA mL cI 180 gl, kJ mU cJ 3 (vp_updL (vp_updL fg 0 0) 1 1), kJ mH cJ 3 fh] := hD
      refine lv_aload_n hx hb dX5_layTwo_88 rfl (lv_at hl 3 rfl) ?_
      refine va_get (D := D) (ci := 5) (v := .ref mU) (C := RX5) (T := TX5) (N := 17) hx hb hts k_2 hown hK.1 hP 0 rfl rfl 14 (by decide) k_3 (fun _ h9 => h9) rfl dX5_layTwo_89 ?_
      refine lv_iconst (v := 2) hx hb dX5_layTwo_92 (by decide) ?_
      refine lv_lconst (v := 0) hx hb dX5_layTwo_93 (by decide) ?_
      refine st_l hx hb hK.1 hP hD hS 2 1 rfl rfl (ix_lit (by decide)) 2 (by decide) dX5_layTwo_94 (fun H locs hP hD hS => ?_)
      have hP : va_P D vwCl [kM o mP mL mC mN mF mR mD mV mX mA mK cm mT pm mU mH mI, kA mL cI 180 gl, kJ mU cJ 3 (vp_updL (vp_updL (vp_updL fg 0 0) 1 1) 2 0), kJ mH cJ 3 fh] H := hP
      have hD : va_D A [kM o mP mL mC mN mF mR mD mV mX mA mK cm mT pm mU mH mI, kA mL cI 180 gl, kJ mU cJ 3 (vp_updL (vp_updL (vp_updL fg 0 0) 1 1) 2 0), kJ mH cJ 3 fh] := hD
      refine lv_lload_n hx hb dX5_layTwo_95 rfl (lv_at hl 2 rfl) ?_
      refine lv_lconst (v := 0) hx hb dX5_layTwo_96 (by decide) ?_
      refine lb_ne (tgt := 122) hx hb dX5_layTwo_97 rfl dX5_layTwo_98 (by decide) (fun c_16 => ?_) (fun c_16 => ?_)
      · skip
        refine lv_aload_n hx hb dX5_layTwo_122 rfl (lv_at hl 3 rfl) ?_
        refine va_get (D := D) (ci := 5) (v := .ref mH) (C := RX5) (T := TX5) (N := 17) hx hb hts k_2 hown hK.1 hP 0 rfl rfl 15 (by decide) k_4 (fun _ h9 => h9) rfl dX5_layTwo_123 ?_
        refine lv_iconst (v := 0) hx hb dX5_layTwo_126 (by decide) ?_
        refine lv_lload_n hx hb dX5_layTwo_127 rfl (lv_at hl 2 rfl) ?_
        refine lv_lconst (v := 0) hx hb dX5_layTwo_128 (by decide) ?_
        refine lb_ne (tgt := 137) hx hb dX5_layTwo_129 rfl dX5_layTwo_130 (by decide) (fun _ => ?_) (fun h => absurd h c_16)
        refine lv_lload hx hb dX5_layTwo_137 (lv_at hl 0 rfl) ?_
        refine st_l hx hb hK.1 hP hD hS 3 1 rfl rfl (ix_lit (by decide)) 0 (by decide) dX5_layTwo_139 (fun H locs hP hD hS => ?_)
        have hP : va_P D vwCl [kM o mP mL mC mN mF mR mD mV mX mA mK cm mT pm mU mH mI, kA mL cI 180 gl, kJ mU cJ 3 (vp_updL (vp_updL (vp_updL fg 0 0) 1 1) 2 0), kJ mH cJ 3 (vp_updL fh 0 ((gl (((3 * i) + 2).toNatClampNeg)).toInt64))] H := hP
        have hD : va_D A [kM o mP mL mC mN mF mR mD mV mX mA mK cm mT pm mU mH mI, kA mL cI 180 gl, kJ mU cJ 3 (vp_updL (vp_updL (vp_updL fg 0 0) 1 1) 2 0), kJ mH cJ 3 (vp_updL fh 0 ((gl (((3 * i) + 2).toNatClampNeg)).toInt64))] := hD
        refine lv_aload_n hx hb dX5_layTwo_140 rfl (lv_at hl 3 rfl) ?_
        refine va_get (D := D) (ci := 5) (v := .ref mH) (C := RX5) (T := TX5) (N := 17) hx hb hts k_2 hown hK.1 hP 0 rfl rfl 15 (by decide) k_4 (fun _ h9 => h9) rfl dX5_layTwo_141 ?_
        refine lv_iconst (v := 1) hx hb dX5_layTwo_144 (by decide) ?_
        refine lv_lload_n hx hb dX5_layTwo_145 rfl (lv_at hl 2 rfl) ?_
        refine lv_lconst (v := 0) hx hb dX5_layTwo_146 (by decide) ?_
        refine lb_ne (tgt := 156) hx hb dX5_layTwo_147 rfl dX5_layTwo_148 (by decide) (fun _ => ?_) (fun h => absurd h c_16)
        refine lv_lconst (v := 0) hx hb dX5_layTwo_156 (by decide) ?_
        refine st_l hx hb hK.1 hP hD hS 3 1 rfl rfl (ix_lit (by decide)) 1 (by decide) dX5_layTwo_157 (fun H locs hP hD hS => ?_)
        have hP : va_P D vwCl [kM o mP mL mC mN mF mR mD mV mX mA mK cm mT pm mU mH mI, kA mL cI 180 gl, kJ mU cJ 3 (vp_updL (vp_updL (vp_updL fg 0 0) 1 1) 2 0), kJ mH cJ 3 (vp_updL (vp_updL fh 0 ((gl (((3 * i) + 2).toNatClampNeg)).toInt64)) 1 0)] H := hP
        have hD : va_D A [kM o mP mL mC mN mF mR mD mV mX mA mK cm mT pm mU mH mI, kA mL cI 180 gl, kJ mU cJ 3 (vp_updL (vp_updL (vp_updL fg 0 0) 1 1) 2 0), kJ mH cJ 3 (vp_updL (vp_updL fh 0 ((gl (((3 * i) + 2).toNatClampNeg)).toInt64)) 1 0)] := hD
        refine lv_aload_n hx hb dX5_layTwo_158 rfl (lv_at hl 3 rfl) ?_
        refine va_get (D := D) (ci := 5) (v := .ref mH) (C := RX5) (T := TX5) (N := 17) hx hb hts k_2 hown hK.1 hP 0 rfl rfl 15 (by decide) k_4 (fun _ h9 => h9) rfl dX5_layTwo_159 ?_
        refine lv_iconst (v := 2) hx hb dX5_layTwo_162 (by decide) ?_
        refine lv_lload_n hx hb dX5_layTwo_163 rfl (lv_at hl 2 rfl) ?_
        refine lv_lconst (v := 0) hx hb dX5_layTwo_164 (by decide) ?_
        refine lb_ne (tgt := 175) hx hb dX5_layTwo_165 rfl dX5_layTwo_166 (by decide) (fun _ => ?_) (fun h => absurd h c_16)
        refine lv_lload_n hx hb dX5_layTwo_175 rfl (lv_at hl 2 rfl) ?_
        refine lv_lneg hx hb dX5_layTwo_176 ?_
        refine st_l hx hb hK.1 hP hD hS 3 1 rfl rfl (ix_lit (by decide)) 2 (by decide) dX5_layTwo_177 (fun H locs hP hD hS => ?_)
        have hP : va_P D vwCl [kM o mP mL mC mN mF mR mD mV mX mA mK cm mT pm mU mH mI, kA mL cI 180 gl, kJ mU cJ 3 (vp_updL (vp_updL (vp_updL fg 0 0) 1 1) 2 0), kJ mH cJ 3 (vp_updL (vp_updL (vp_updL fh 0 ((gl (((3 * i) + 2).toNatClampNeg)).toInt64)) 1 0) 2 (-((gl ((3 * i).toNatClampNeg)).toInt64)))] H := hP
        have hD : va_D A [kM o mP mL mC mN mF mR mD mV mX mA mK cm mT pm mU mH mI, kA mL cI 180 gl, kJ mU cJ 3 (vp_updL (vp_updL (vp_updL fg 0 0) 1 1) 2 0), kJ mH cJ 3 (vp_updL (vp_updL (vp_updL fh 0 ((gl (((3 * i) + 2).toNatClampNeg)).toInt64)) 1 0) 2 (-((gl ((3 * i).toNatClampNeg)).toInt64)))] := hD
        refine lv_lload_n hx hb dX5_layTwo_178 rfl (lv_at hl 2 rfl) ?_
        refine lv_lconst (v := 0) hx hb dX5_layTwo_179 (by decide) ?_
        refine lb_ne (tgt := 212) hx hb dX5_layTwo_180 rfl dX5_layTwo_181 (by decide) (fun _ => ?_) (fun h => absurd h c_16)
        refine lv_aload_n hx hb dX5_layTwo_212 rfl (lv_at hl 3 rfl) ?_
        refine va_get (D := D) (ci := 5) (v := .ref mU) (C := RX5) (T := TX5) (N := 17) hx hb hts k_2 hown hK.1 hP 0 rfl rfl 14 (by decide) k_3 (fun _ h9 => h9) rfl dX5_layTwo_213 ?_
        refine lv_iconst (v := 3) hx hb dX5_layTwo_216 (by decide) ?_
        have hPc := hP.sub (ws' := [kJ mU cJ 3 (vp_updL (vp_updL (vp_updL fg 0 0) 1 1) 2 0)]) [2] rfl
        have hDc := hD.sub (ws' := [kJ mU cJ 3 (vp_updL (vp_updL (vp_updL fg 0 0) 1 1) 2 0)]) [2] (by decide) rfl
        refine cl_i (wc := [kJ mU cJ 3 (vp_updL (vp_updL (vp_updL fg 0 0) 1 1) 2 0)]) (wr := [kM o mP mL mC mN mF mR mD mV mX mA mK cm mT pm mU mH mI, kA mL cI 180 gl, kJ mH cJ 3 (vp_updL (vp_updL (vp_updL fh 0 ((gl (((3 * i) + 2).toNatClampNeg)).toInt64)) 1 0) 2 (-((gl ((3 * i).toNatClampNeg)).toInt64)))]) (w1 := fun uu : Unit => [kJ mU cJ 3 ((z5_norm_3_3 (vp_updL (vp_updL (vp_updL fg 0 0) 1 1) 2 0)).2)]) (wn := fun uu : Unit => [kM o mP mL mC mN mF mR mD mV mX mA mK cm mT pm mU mH mI, kA mL cI 180 gl, kJ mU cJ 3 ((z5_norm_3_3 (vp_updL (vp_updL (vp_updL fg 0 0) 1 1) 2 0)).2), kJ mH cJ 3 (vp_updL (vp_updL (vp_updL fh 0 ((gl (((3 * i) + 2).toNatClampNeg)).toInt64)) 1 0) 2 (-((gl ((3 * i).toNatClampNeg)).toInt64)))]) (va_runS (As := [.ref mU, .int 3]) (rest := []) ⟨hx, hb, hml, hown, hts⟩ (c_X5_norm_3_3 l D cI cJ mU (vp_updL (vp_updL (vp_updL fg 0 0) 1 1) 2 0) _) (va_cwS 2 hts gX5_layTwo_X5_norm rfl rfl rfl (by decide +kernel) ⟨Nat.le_of_ble_eq_true rfl, Nat.le_of_ble_eq_true rfl⟩) ⟨gd_blP, gd_prP hPc hK hDc⟩ rfl rfl hl.1 rfl (lv_room (Nat.le_of_ble_eq_true rfl)) dX5_layTwo_217 ⟨Nat.zero_le _, Nat.zero_le _⟩) hP hD hS hA [2] [0, 1, 3] rfl rfl (by decide) (by decide) [0, 1, 3, 2] (by decide) (fun _ => rfl) (fun r_217 uG H locs hw hP hD hS => ?_)
        have hP : va_P D vwCl [kM o mP mL mC mN mF mR mD mV mX mA mK cm mT pm mU mH mI, kA mL cI 180 gl, kJ mU cJ 3 ((z5_norm_3_3 (vp_updL (vp_updL (vp_updL fg 0 0) 1 1) 2 0)).2), kJ mH cJ 3 (vp_updL (vp_updL (vp_updL fh 0 ((gl (((3 * i) + 2).toNatClampNeg)).toInt64)) 1 0) 2 (-((gl ((3 * i).toNatClampNeg)).toInt64)))] H := hP
        have hD : va_D A [kM o mP mL mC mN mF mR mD mV mX mA mK cm mT pm mU mH mI, kA mL cI 180 gl, kJ mU cJ 3 ((z5_norm_3_3 (vp_updL (vp_updL (vp_updL fg 0 0) 1 1) 2 0)).2), kJ mH cJ 3 (vp_updL (vp_updL (vp_updL fh 0 ((gl (((3 * i) + 2).toNatClampNeg)).toInt64)) 1 0) 2 (-((gl ((3 * i).toNatClampNeg)).toInt64)))] := hD
        have ea_0 : vp_updL (vp_updL (vp_updL fh 0 ((gl (((3 * i) + 2).toNatClampNeg)).toInt64)) 1 0) 2 (-((gl ((3 * i).toNatClampNeg)).toInt64)) = z5_layTwo_v2 gl fh i := by delta z5_layTwo_v2; rfl
        rw [ea_0] at hP hD
        clear ea_0
        subst hw
        clear hPc hDc
        refine lv_if_eq (tgt := 238) hx hb dX5_layTwo_220 (by decide) (fun c_17 => ?_) (fun c_17 => ?_)
        · skip
          refine lv_iconst (v := 0) hx hb dX5_layTwo_238 (by decide) ?_
          refine lv_istore (lv' := [(8, .int 0), (6, .long ((gl (((3 * i) + 2).toNatClampNeg)).toInt64)), (4, .long ((gl (((3 * i) + 1).toNatClampNeg)).toInt64)), (2, .long ((gl ((3 * i).toNatClampNeg)).toInt64)), (0, .ref o), (1, .int i)]) hx hb dX5_layTwo_239 hl (by decide) rfl (fun ls hl => ?_)
          have he : z5_layTwo gl fg fh i = ((z5_norm_3_3 (vp_updL (vp_updL (vp_updL fg 0 0) 1 1) 2 0)).2, z5_layTwo_v2 gl fh i) := by unfold z5_layTwo; rw [if_pos c_1, if_pos c_10, if_neg c_16, if_pos c_17]
          have he_0 : (z5_layTwo gl fg fh i).1 = (z5_norm_3_3 (vp_updL (vp_updL (vp_updL fg 0 0) 1 1) 2 0)).2 := by rw [he]
          have he_1 : (z5_layTwo gl fg fh i).2 = z5_layTwo_v2 gl fh i := by rw [he]
          exact rt_v (w1 := fun uu : Unit => [kM o mP mL mC mN mF mR mD mV mX mA mK cm mT pm mU mH mI, kA mL cI 180 gl, kJ mU cJ 3 ((z5_layTwo gl fg fh i).1), kJ mH cJ 3 ((z5_layTwo gl fg fh i).2)]) hx hb hr hlk hS dX5_layTwo_241 (()) trivial (by rw [he_0, he_1]; exact hP) (by rw [he_0, he_1]; exact hD)
        · skip
          refine lv_aload_n hx hb dX5_layTwo_223 rfl (lv_at hl 3 rfl) ?_
          refine va_get (D := D) (ci := 5) (v := .ref mH) (C := RX5) (T := TX5) (N := 17) hx hb hts k_2 hown hK.1 hP 0 rfl rfl 15 (by decide) k_4 (fun _ h9 => h9) rfl dX5_layTwo_224 ?_
          refine lv_iconst (v := 3) hx hb dX5_layTwo_227 (by decide) ?_
          have hPc := hP.sub (ws' := [kJ mH cJ 3 (z5_layTwo_v2 gl fh i)]) [3] rfl
          have hDc := hD.sub (ws' := [kJ mH cJ 3 (z5_layTwo_v2 gl fh i)]) [3] (by decide) rfl
          refine cl_i (wc := [kJ mH cJ 3 (z5_layTwo_v2 gl fh i)]) (wr := [kM o mP mL mC mN mF mR mD mV mX mA mK cm mT pm mU mH mI, kA mL cI 180 gl, kJ mU cJ 3 ((z5_norm_3_3 (vp_updL (vp_updL (vp_updL fg 0 0) 1 1) 2 0)).2)]) (w1 := fun uu : Unit => [kJ mH cJ 3 ((z5_norm_3_3 (z5_layTwo_v2 gl fh i)).2)]) (wn := fun uu : Unit => [kM o mP mL mC mN mF mR mD mV mX mA mK cm mT pm mU mH mI, kA mL cI 180 gl, kJ mU cJ 3 ((z5_norm_3_3 (vp_updL (vp_updL (vp_updL fg 0 0) 1 1) 2 0)).2), kJ mH cJ 3 ((z5_norm_3_3 (z5_layTwo_v2 gl fh i)).2)]) (va_runS (As := [.ref mH, .int 3]) (rest := []) ⟨hx, hb, hml, hown, hts⟩ (c_X5_norm_3_3 l D cI cJ mH (z5_layTwo_v2 gl fh i) _) (va_cwS 2 hts gX5_layTwo_X5_norm rfl rfl rfl (by decide +kernel) ⟨Nat.le_of_ble_eq_true rfl, Nat.le_of_ble_eq_true rfl⟩) ⟨gd_blP, gd_prP hPc hK hDc⟩ rfl rfl hl.1 rfl (lv_room (Nat.le_of_ble_eq_true rfl)) dX5_layTwo_228 ⟨Nat.zero_le _, Nat.zero_le _⟩) hP hD hS hA [3] [0, 1, 2] rfl rfl (by decide) (by decide) [0, 1, 2, 3] (by decide) (fun _ => rfl) (fun r_228 uG H locs hw hP hD hS => ?_)
          have hP : va_P D vwCl [kM o mP mL mC mN mF mR mD mV mX mA mK cm mT pm mU mH mI, kA mL cI 180 gl, kJ mU cJ 3 ((z5_norm_3_3 (vp_updL (vp_updL (vp_updL fg 0 0) 1 1) 2 0)).2), kJ mH cJ 3 ((z5_norm_3_3 (z5_layTwo_v2 gl fh i)).2)] H := hP
          have hD : va_D A [kM o mP mL mC mN mF mR mD mV mX mA mK cm mT pm mU mH mI, kA mL cI 180 gl, kJ mU cJ 3 ((z5_norm_3_3 (vp_updL (vp_updL (vp_updL fg 0 0) 1 1) 2 0)).2), kJ mH cJ 3 ((z5_norm_3_3 (z5_layTwo_v2 gl fh i)).2)] := hD
          subst hw
          clear hPc hDc
          refine lv_if_eq (tgt := 238) hx hb dX5_layTwo_231 (by decide) (fun c_18 => ?_) (fun c_18 => ?_)
          · skip
            refine lv_iconst (v := 0) hx hb dX5_layTwo_238 (by decide) ?_
            refine lv_istore (lv' := [(8, .int 0), (6, .long ((gl (((3 * i) + 2).toNatClampNeg)).toInt64)), (4, .long ((gl (((3 * i) + 1).toNatClampNeg)).toInt64)), (2, .long ((gl ((3 * i).toNatClampNeg)).toInt64)), (0, .ref o), (1, .int i)]) hx hb dX5_layTwo_239 hl (by decide) rfl (fun ls hl => ?_)
            have he : z5_layTwo gl fg fh i = ((z5_norm_3_3 (vp_updL (vp_updL (vp_updL fg 0 0) 1 1) 2 0)).2, (z5_norm_3_3 (z5_layTwo_v2 gl fh i)).2) := by unfold z5_layTwo; rw [if_pos c_1, if_pos c_10, if_neg c_16, if_neg c_17, if_pos c_18]
            have he_0 : (z5_layTwo gl fg fh i).1 = (z5_norm_3_3 (vp_updL (vp_updL (vp_updL fg 0 0) 1 1) 2 0)).2 := by rw [he]
            have he_1 : (z5_layTwo gl fg fh i).2 = (z5_norm_3_3 (z5_layTwo_v2 gl fh i)).2 := by rw [he]
            exact rt_v (w1 := fun uu : Unit => [kM o mP mL mC mN mF mR mD mV mX mA mK cm mT pm mU mH mI, kA mL cI 180 gl, kJ mU cJ 3 ((z5_layTwo gl fg fh i).1), kJ mH cJ 3 ((z5_layTwo gl fg fh i).2)]) hx hb hr hlk hS dX5_layTwo_241 (()) trivial (by rw [he_0, he_1]; exact hP) (by rw [he_0, he_1]; exact hD)
          · skip
            refine lv_iconst (v := 1) hx hb dX5_layTwo_234 (by decide) ?_
            refine lv_goto (tgt := 239) hx hb dX5_layTwo_235 (by decide) ?_
            refine lv_istore (lv' := [(8, .int 1), (6, .long ((gl (((3 * i) + 2).toNatClampNeg)).toInt64)), (4, .long ((gl (((3 * i) + 1).toNatClampNeg)).toInt64)), (2, .long ((gl ((3 * i).toNatClampNeg)).toInt64)), (0, .ref o), (1, .int i)]) hx hb dX5_layTwo_239 hl (by decide) rfl (fun ls hl => ?_)
            have he : z5_layTwo gl fg fh i = ((z5_norm_3_3 (vp_updL (vp_updL (vp_updL fg 0 0) 1 1) 2 0)).2, (z5_norm_3_3 (z5_layTwo_v2 gl fh i)).2) := by unfold z5_layTwo; rw [if_pos c_1, if_pos c_10, if_neg c_16, if_neg c_17, if_neg c_18]
            have he_0 : (z5_layTwo gl fg fh i).1 = (z5_norm_3_3 (vp_updL (vp_updL (vp_updL fg 0 0) 1 1) 2 0)).2 := by rw [he]
            have he_1 : (z5_layTwo gl fg fh i).2 = (z5_norm_3_3 (z5_layTwo_v2 gl fh i)).2 := by rw [he]
            exact rt_v (w1 := fun uu : Unit => [kM o mP mL mC mN mF mR mD mV mX mA mK cm mT pm mU mH mI, kA mL cI 180 gl, kJ mU cJ 3 ((z5_layTwo gl fg fh i).1), kJ mH cJ 3 ((z5_layTwo gl fg fh i).2)]) hx hb hr hlk hS dX5_layTwo_241 (()) trivial (by rw [he_0, he_1]; exact hP) (by rw [he_0, he_1]; exact hD)
      · skip
        refine lv_lload hx hb dX5_layTwo_101 (lv_at hl 1 rfl) ?_
        refine lv_lconst (v := 0) hx hb dX5_layTwo_103 (by decide) ?_
        refine lb_ne (tgt := 122) hx hb dX5_layTwo_104 rfl dX5_layTwo_105 (by decide) (fun h => absurd c_10 h) (fun _ => ?_)
        refine lv_aload_n hx hb dX5_layTwo_108 rfl (lv_at hl 3 rfl) ?_
        refine va_get (D := D) (ci := 5) (v := .ref mU) (C := RX5) (T := TX5) (N := 17) hx hb hts k_2 hown hK.1 hP 0 rfl rfl 14 (by decide) k_3 (fun _ h9 => h9) rfl dX5_layTwo_109 ?_
        refine lv_iconst (v := 0) hx hb dX5_layTwo_112 (by decide) ?_
        refine lv_lconst (v := 1) hx hb dX5_layTwo_113 (by decide) ?_
        refine st_l hx hb hK.1 hP hD hS 2 1 rfl rfl (ix_lit (by decide)) 0 (by decide) dX5_layTwo_114 (fun H locs hP hD hS => ?_)
        have hP : va_P D vwCl [kM o mP mL mC mN mF mR mD mV mX mA mK cm mT pm mU mH mI, kA mL cI 180 gl, kJ mU cJ 3 (vp_updL (vp_updL (vp_updL (vp_updL fg 0 0) 1 1) 2 0) 0 1), kJ mH cJ 3 fh] H := hP
        have hD : va_D A [kM o mP mL mC mN mF mR mD mV mX mA mK cm mT pm mU mH mI, kA mL cI 180 gl, kJ mU cJ 3 (vp_updL (vp_updL (vp_updL (vp_updL fg 0 0) 1 1) 2 0) 0 1), kJ mH cJ 3 fh] := hD
        refine lv_aload_n hx hb dX5_layTwo_115 rfl (lv_at hl 3 rfl) ?_
        refine va_get (D := D) (ci := 5) (v := .ref mU) (C := RX5) (T := TX5) (N := 17) hx hb hts k_2 hown hK.1 hP 0 rfl rfl 14 (by decide) k_3 (fun _ h9 => h9) rfl dX5_layTwo_116 ?_
        refine lv_iconst (v := 1) hx hb dX5_layTwo_119 (by decide) ?_
        refine lv_lconst (v := 0) hx hb dX5_layTwo_120 (by decide) ?_
        refine st_l hx hb hK.1 hP hD hS 2 1 rfl rfl (ix_lit (by decide)) 1 (by decide) dX5_layTwo_121 (fun H locs hP hD hS => ?_)
        have hP : va_P D vwCl [kM o mP mL mC mN mF mR mD mV mX mA mK cm mT pm mU mH mI, kA mL cI 180 gl, kJ mU cJ 3 (vp_updL (vp_updL (vp_updL (vp_updL (vp_updL fg 0 0) 1 1) 2 0) 0 1) 1 0), kJ mH cJ 3 fh] H := hP
        have hD : va_D A [kM o mP mL mC mN mF mR mD mV mX mA mK cm mT pm mU mH mI, kA mL cI 180 gl, kJ mU cJ 3 (vp_updL (vp_updL (vp_updL (vp_updL (vp_updL fg 0 0) 1 1) 2 0) 0 1) 1 0), kJ mH cJ 3 fh] := hD
        refine lv_aload_n hx hb dX5_layTwo_122 rfl (lv_at hl 3 rfl) ?_
        refine va_get (D := D) (ci := 5) (v := .ref mH) (C := RX5) (T := TX5) (N := 17) hx hb hts k_2 hown hK.1 hP 0 rfl rfl 15 (by decide) k_4 (fun _ h9 => h9) rfl dX5_layTwo_123 ?_
        refine lv_iconst (v := 0) hx hb dX5_layTwo_126 (by decide) ?_
        refine lv_lload_n hx hb dX5_layTwo_127 rfl (lv_at hl 2 rfl) ?_
        refine lv_lconst (v := 0) hx hb dX5_layTwo_128 (by decide) ?_
        refine lb_ne (tgt := 137) hx hb dX5_layTwo_129 rfl dX5_layTwo_130 (by decide) (fun h => absurd c_16 h) (fun _ => ?_)
        refine lv_lconst (v := 0) hx hb dX5_layTwo_133 (by decide) ?_
        refine lv_goto (tgt := 139) hx hb dX5_layTwo_134 (by decide) ?_
        refine st_l hx hb hK.1 hP hD hS 3 1 rfl rfl (ix_lit (by decide)) 0 (by decide) dX5_layTwo_139 (fun H locs hP hD hS => ?_)
        have hP : va_P D vwCl [kM o mP mL mC mN mF mR mD mV mX mA mK cm mT pm mU mH mI, kA mL cI 180 gl, kJ mU cJ 3 (vp_updL (vp_updL (vp_updL (vp_updL (vp_updL fg 0 0) 1 1) 2 0) 0 1) 1 0), kJ mH cJ 3 (vp_updL fh 0 0)] H := hP
        have hD : va_D A [kM o mP mL mC mN mF mR mD mV mX mA mK cm mT pm mU mH mI, kA mL cI 180 gl, kJ mU cJ 3 (vp_updL (vp_updL (vp_updL (vp_updL (vp_updL fg 0 0) 1 1) 2 0) 0 1) 1 0), kJ mH cJ 3 (vp_updL fh 0 0)] := hD
        refine lv_aload_n hx hb dX5_layTwo_140 rfl (lv_at hl 3 rfl) ?_
        refine va_get (D := D) (ci := 5) (v := .ref mH) (C := RX5) (T := TX5) (N := 17) hx hb hts k_2 hown hK.1 hP 0 rfl rfl 15 (by decide) k_4 (fun _ h9 => h9) rfl dX5_layTwo_141 ?_
        refine lv_iconst (v := 1) hx hb dX5_layTwo_144 (by decide) ?_
        refine lv_lload_n hx hb dX5_layTwo_145 rfl (lv_at hl 2 rfl) ?_
        refine lv_lconst (v := 0) hx hb dX5_layTwo_146 (by decide) ?_
        refine lb_ne (tgt := 156) hx hb dX5_layTwo_147 rfl dX5_layTwo_148 (by decide) (fun h => absurd c_16 h) (fun _ => ?_)
        refine lv_lload hx hb dX5_layTwo_151 (lv_at hl 0 rfl) ?_
        refine lv_goto (tgt := 157) hx hb dX5_layTwo_153 (by decide) ?_
        refine st_l hx hb hK.1 hP hD hS 3 1 rfl rfl (ix_lit (by decide)) 1 (by decide) dX5_layTwo_157 (fun H locs hP hD hS => ?_)
        have hP : va_P D vwCl [kM o mP mL mC mN mF mR mD mV mX mA mK cm mT pm mU mH mI, kA mL cI 180 gl, kJ mU cJ 3 (vp_updL (vp_updL (vp_updL (vp_updL (vp_updL fg 0 0) 1 1) 2 0) 0 1) 1 0), kJ mH cJ 3 (vp_updL (vp_updL fh 0 0) 1 ((gl (((3 * i) + 2).toNatClampNeg)).toInt64))] H := hP
        have hD : va_D A [kM o mP mL mC mN mF mR mD mV mX mA mK cm mT pm mU mH mI, kA mL cI 180 gl, kJ mU cJ 3 (vp_updL (vp_updL (vp_updL (vp_updL (vp_updL fg 0 0) 1 1) 2 0) 0 1) 1 0), kJ mH cJ 3 (vp_updL (vp_updL fh 0 0) 1 ((gl (((3 * i) + 2).toNatClampNeg)).toInt64))] := hD
        refine lv_aload_n hx hb dX5_layTwo_158 rfl (lv_at hl 3 rfl) ?_
        refine va_get (D := D) (ci := 5) (v := .ref mH) (C := RX5) (T := TX5) (N := 17) hx hb hts k_2 hown hK.1 hP 0 rfl rfl 15 (by decide) k_4 (fun _ h9 => h9) rfl dX5_layTwo_159 ?_
        refine lv_iconst (v := 2) hx hb dX5_layTwo_162 (by decide) ?_
        refine lv_lload_n hx hb dX5_layTwo_163 rfl (lv_at hl 2 rfl) ?_
        refine lv_lconst (v := 0) hx hb dX5_layTwo_164 (by decide) ?_
        refine lb_ne (tgt := 175) hx hb dX5_layTwo_165 rfl dX5_layTwo_166 (by decide) (fun h => absurd c_16 h) (fun _ => ?_)
        refine lv_lload hx hb dX5_layTwo_169 (lv_at hl 1 rfl) ?_
        refine lv_lneg hx hb dX5_layTwo_171 ?_
        refine lv_goto (tgt := 177) hx hb dX5_layTwo_172 (by decide) ?_
        refine st_l hx hb hK.1 hP hD hS 3 1 rfl rfl (ix_lit (by decide)) 2 (by decide) dX5_layTwo_177 (fun H locs hP hD hS => ?_)
        have hP : va_P D vwCl [kM o mP mL mC mN mF mR mD mV mX mA mK cm mT pm mU mH mI, kA mL cI 180 gl, kJ mU cJ 3 (vp_updL (vp_updL (vp_updL (vp_updL (vp_updL fg 0 0) 1 1) 2 0) 0 1) 1 0), kJ mH cJ 3 (vp_updL (vp_updL (vp_updL fh 0 0) 1 ((gl (((3 * i) + 2).toNatClampNeg)).toInt64)) 2 (-((gl (((3 * i) + 1).toNatClampNeg)).toInt64)))] H := hP
        have hD : va_D A [kM o mP mL mC mN mF mR mD mV mX mA mK cm mT pm mU mH mI, kA mL cI 180 gl, kJ mU cJ 3 (vp_updL (vp_updL (vp_updL (vp_updL (vp_updL fg 0 0) 1 1) 2 0) 0 1) 1 0), kJ mH cJ 3 (vp_updL (vp_updL (vp_updL fh 0 0) 1 ((gl (((3 * i) + 2).toNatClampNeg)).toInt64)) 2 (-((gl (((3 * i) + 1).toNatClampNeg)).toInt64)))] := hD
        refine lv_lload_n hx hb dX5_layTwo_178 rfl (lv_at hl 2 rfl) ?_
        refine lv_lconst (v := 0) hx hb dX5_layTwo_179 (by decide) ?_
        refine lb_ne (tgt := 212) hx hb dX5_layTwo_180 rfl dX5_layTwo_181 (by decide) (fun h => absurd c_16 h) (fun _ => ?_)
        refine lv_lload hx hb dX5_layTwo_184 (lv_at hl 1 rfl) ?_
        refine lv_lconst (v := 0) hx hb dX5_layTwo_186 (by decide) ?_
        refine lb_ne (tgt := 212) hx hb dX5_layTwo_187 rfl dX5_layTwo_188 (by decide) (fun h => absurd c_10 h) (fun _ => ?_)
        refine lv_aload_n hx hb dX5_layTwo_191 rfl (lv_at hl 3 rfl) ?_
        refine va_get (D := D) (ci := 5) (v := .ref mH) (C := RX5) (T := TX5) (N := 17) hx hb hts k_2 hown hK.1 hP 0 rfl rfl 15 (by decide) k_4 (fun _ h9 => h9) rfl dX5_layTwo_192 ?_
        refine lv_iconst (v := 0) hx hb dX5_layTwo_195 (by decide) ?_
        refine lv_lconst (v := 0) hx hb dX5_layTwo_196 (by decide) ?_
        refine st_l hx hb hK.1 hP hD hS 3 1 rfl rfl (ix_lit (by decide)) 0 (by decide) dX5_layTwo_197 (fun H locs hP hD hS => ?_)
        have hP : va_P D vwCl [kM o mP mL mC mN mF mR mD mV mX mA mK cm mT pm mU mH mI, kA mL cI 180 gl, kJ mU cJ 3 (vp_updL (vp_updL (vp_updL (vp_updL (vp_updL fg 0 0) 1 1) 2 0) 0 1) 1 0), kJ mH cJ 3 (vp_updL (vp_updL (vp_updL (vp_updL fh 0 0) 1 ((gl (((3 * i) + 2).toNatClampNeg)).toInt64)) 2 (-((gl (((3 * i) + 1).toNatClampNeg)).toInt64))) 0 0)] H := hP
        have hD : va_D A [kM o mP mL mC mN mF mR mD mV mX mA mK cm mT pm mU mH mI, kA mL cI 180 gl, kJ mU cJ 3 (vp_updL (vp_updL (vp_updL (vp_updL (vp_updL fg 0 0) 1 1) 2 0) 0 1) 1 0), kJ mH cJ 3 (vp_updL (vp_updL (vp_updL (vp_updL fh 0 0) 1 ((gl (((3 * i) + 2).toNatClampNeg)).toInt64)) 2 (-((gl (((3 * i) + 1).toNatClampNeg)).toInt64))) 0 0)] := hD
        refine lv_aload_n hx hb dX5_layTwo_198 rfl (lv_at hl 3 rfl) ?_
        refine va_get (D := D) (ci := 5) (v := .ref mH) (C := RX5) (T := TX5) (N := 17) hx hb hts k_2 hown hK.1 hP 0 rfl rfl 15 (by decide) k_4 (fun _ h9 => h9) rfl dX5_layTwo_199 ?_
        refine lv_iconst (v := 1) hx hb dX5_layTwo_202 (by decide) ?_
        refine lv_lconst (v := 1) hx hb dX5_layTwo_203 (by decide) ?_
        refine st_l hx hb hK.1 hP hD hS 3 1 rfl rfl (ix_lit (by decide)) 1 (by decide) dX5_layTwo_204 (fun H locs hP hD hS => ?_)
        have hP : va_P D vwCl [kM o mP mL mC mN mF mR mD mV mX mA mK cm mT pm mU mH mI, kA mL cI 180 gl, kJ mU cJ 3 (vp_updL (vp_updL (vp_updL (vp_updL (vp_updL fg 0 0) 1 1) 2 0) 0 1) 1 0), kJ mH cJ 3 (vp_updL (vp_updL (vp_updL (vp_updL (vp_updL fh 0 0) 1 ((gl (((3 * i) + 2).toNatClampNeg)).toInt64)) 2 (-((gl (((3 * i) + 1).toNatClampNeg)).toInt64))) 0 0) 1 1)] H := hP
        have hD : va_D A [kM o mP mL mC mN mF mR mD mV mX mA mK cm mT pm mU mH mI, kA mL cI 180 gl, kJ mU cJ 3 (vp_updL (vp_updL (vp_updL (vp_updL (vp_updL fg 0 0) 1 1) 2 0) 0 1) 1 0), kJ mH cJ 3 (vp_updL (vp_updL (vp_updL (vp_updL (vp_updL fh 0 0) 1 ((gl (((3 * i) + 2).toNatClampNeg)).toInt64)) 2 (-((gl (((3 * i) + 1).toNatClampNeg)).toInt64))) 0 0) 1 1)] := hD
        refine lv_aload_n hx hb dX5_layTwo_205 rfl (lv_at hl 3 rfl) ?_
        refine va_get (D := D) (ci := 5) (v := .ref mH) (C := RX5) (T := TX5) (N := 17) hx hb hts k_2 hown hK.1 hP 0 rfl rfl 15 (by decide) k_4 (fun _ h9 => h9) rfl dX5_layTwo_206 ?_
        refine lv_iconst (v := 2) hx hb dX5_layTwo_209 (by decide) ?_
        refine lv_lconst (v := 0) hx hb dX5_layTwo_210 (by decide) ?_
        refine st_l hx hb hK.1 hP hD hS 3 1 rfl rfl (ix_lit (by decide)) 2 (by decide) dX5_layTwo_211 (fun H locs hP hD hS => ?_)
        have hP : va_P D vwCl [kM o mP mL mC mN mF mR mD mV mX mA mK cm mT pm mU mH mI, kA mL cI 180 gl, kJ mU cJ 3 (vp_updL (vp_updL (vp_updL (vp_updL (vp_updL fg 0 0) 1 1) 2 0) 0 1) 1 0), kJ mH cJ 3 (vp_updL (vp_updL (vp_updL (vp_updL (vp_updL (vp_updL fh 0 0) 1 ((gl (((3 * i) + 2).toNatClampNeg)).toInt64)) 2 (-((gl (((3 * i) + 1).toNatClampNeg)).toInt64))) 0 0) 1 1) 2 0)] H := hP
        have hD : va_D A [kM o mP mL mC mN mF mR mD mV mX mA mK cm mT pm mU mH mI, kA mL cI 180 gl, kJ mU cJ 3 (vp_updL (vp_updL (vp_updL (vp_updL (vp_updL fg 0 0) 1 1) 2 0) 0 1) 1 0), kJ mH cJ 3 (vp_updL (vp_updL (vp_updL (vp_updL (vp_updL (vp_updL fh 0 0) 1 ((gl (((3 * i) + 2).toNatClampNeg)).toInt64)) 2 (-((gl (((3 * i) + 1).toNatClampNeg)).toInt64))) 0 0) 1 1) 2 0)] := hD
        refine lv_aload_n hx hb dX5_layTwo_212 rfl (lv_at hl 3 rfl) ?_
        refine va_get (D := D) (ci := 5) (v := .ref mU) (C := RX5) (T := TX5) (N := 17) hx hb hts k_2 hown hK.1 hP 0 rfl rfl 14 (by decide) k_3 (fun _ h9 => h9) rfl dX5_layTwo_213 ?_
        refine lv_iconst (v := 3) hx hb dX5_layTwo_216 (by decide) ?_
        have hPc := hP.sub (ws' := [kJ mU cJ 3 (vp_updL (vp_updL (vp_updL (vp_updL (vp_updL fg 0 0) 1 1) 2 0) 0 1) 1 0)]) [2] rfl
        have hDc := hD.sub (ws' := [kJ mU cJ 3 (vp_updL (vp_updL (vp_updL (vp_updL (vp_updL fg 0 0) 1 1) 2 0) 0 1) 1 0)]) [2] (by decide) rfl
        refine cl_i (wc := [kJ mU cJ 3 (vp_updL (vp_updL (vp_updL (vp_updL (vp_updL fg 0 0) 1 1) 2 0) 0 1) 1 0)]) (wr := [kM o mP mL mC mN mF mR mD mV mX mA mK cm mT pm mU mH mI, kA mL cI 180 gl, kJ mH cJ 3 (vp_updL (vp_updL (vp_updL (vp_updL (vp_updL (vp_updL fh 0 0) 1 ((gl (((3 * i) + 2).toNatClampNeg)).toInt64)) 2 (-((gl (((3 * i) + 1).toNatClampNeg)).toInt64))) 0 0) 1 1) 2 0)]) (w1 := fun uu : Unit => [kJ mU cJ 3 ((z5_norm_3_3 (vp_updL (vp_updL (vp_updL (vp_updL (vp_updL fg 0 0) 1 1) 2 0) 0 1) 1 0)).2)]) (wn := fun uu : Unit => [kM o mP mL mC mN mF mR mD mV mX mA mK cm mT pm mU mH mI, kA mL cI 180 gl, kJ mU cJ 3 ((z5_norm_3_3 (vp_updL (vp_updL (vp_updL (vp_updL (vp_updL fg 0 0) 1 1) 2 0) 0 1) 1 0)).2), kJ mH cJ 3 (vp_updL (vp_updL (vp_updL (vp_updL (vp_updL (vp_updL fh 0 0) 1 ((gl (((3 * i) + 2).toNatClampNeg)).toInt64)) 2 (-((gl (((3 * i) + 1).toNatClampNeg)).toInt64))) 0 0) 1 1) 2 0)]) (va_runS (As := [.ref mU, .int 3]) (rest := []) ⟨hx, hb, hml, hown, hts⟩ (c_X5_norm_3_3 l D cI cJ mU (vp_updL (vp_updL (vp_updL (vp_updL (vp_updL fg 0 0) 1 1) 2 0) 0 1) 1 0) _) (va_cwS 2 hts gX5_layTwo_X5_norm rfl rfl rfl (by decide +kernel) ⟨Nat.le_of_ble_eq_true rfl, Nat.le_of_ble_eq_true rfl⟩) ⟨gd_blP, gd_prP hPc hK hDc⟩ rfl rfl hl.1 rfl (lv_room (Nat.le_of_ble_eq_true rfl)) dX5_layTwo_217 ⟨Nat.zero_le _, Nat.zero_le _⟩) hP hD hS hA [2] [0, 1, 3] rfl rfl (by decide) (by decide) [0, 1, 3, 2] (by decide) (fun _ => rfl) (fun r_217 uG H locs hw hP hD hS => ?_)
        have hP : va_P D vwCl [kM o mP mL mC mN mF mR mD mV mX mA mK cm mT pm mU mH mI, kA mL cI 180 gl, kJ mU cJ 3 ((z5_norm_3_3 (vp_updL (vp_updL (vp_updL (vp_updL (vp_updL fg 0 0) 1 1) 2 0) 0 1) 1 0)).2), kJ mH cJ 3 (vp_updL (vp_updL (vp_updL (vp_updL (vp_updL (vp_updL fh 0 0) 1 ((gl (((3 * i) + 2).toNatClampNeg)).toInt64)) 2 (-((gl (((3 * i) + 1).toNatClampNeg)).toInt64))) 0 0) 1 1) 2 0)] H := hP
        have hD : va_D A [kM o mP mL mC mN mF mR mD mV mX mA mK cm mT pm mU mH mI, kA mL cI 180 gl, kJ mU cJ 3 ((z5_norm_3_3 (vp_updL (vp_updL (vp_updL (vp_updL (vp_updL fg 0 0) 1 1) 2 0) 0 1) 1 0)).2), kJ mH cJ 3 (vp_updL (vp_updL (vp_updL (vp_updL (vp_updL (vp_updL fh 0 0) 1 ((gl (((3 * i) + 2).toNatClampNeg)).toInt64)) 2 (-((gl (((3 * i) + 1).toNatClampNeg)).toInt64))) 0 0) 1 1) 2 0)] := hD
        have ea_0 : vp_updL (vp_updL (vp_updL (vp_updL (vp_updL (vp_updL fh 0 0) 1 ((gl (((3 * i) + 2).toNatClampNeg)).toInt64)) 2 (-((gl (((3 * i) + 1).toNatClampNeg)).toInt64))) 0 0) 1 1) 2 0 = z5_layTwo_v6 gl fh i := by delta z5_layTwo_v6; rfl
        rw [ea_0] at hP hD
        clear ea_0
        subst hw
        clear hPc hDc
        refine lv_if_eq (tgt := 238) hx hb dX5_layTwo_220 (by decide) (fun c_19 => ?_) (fun c_19 => ?_)
        · skip
          refine lv_iconst (v := 0) hx hb dX5_layTwo_238 (by decide) ?_
          refine lv_istore (lv' := [(8, .int 0), (6, .long ((gl (((3 * i) + 2).toNatClampNeg)).toInt64)), (4, .long ((gl (((3 * i) + 1).toNatClampNeg)).toInt64)), (2, .long ((gl ((3 * i).toNatClampNeg)).toInt64)), (0, .ref o), (1, .int i)]) hx hb dX5_layTwo_239 hl (by decide) rfl (fun ls hl => ?_)
          have he : z5_layTwo gl fg fh i = ((z5_norm_3_3 (vp_updL (vp_updL (vp_updL (vp_updL (vp_updL fg 0 0) 1 1) 2 0) 0 1) 1 0)).2, z5_layTwo_v6 gl fh i) := by unfold z5_layTwo; rw [if_pos c_1, if_pos c_10, if_pos c_16, if_pos c_19]
          have he_0 : (z5_layTwo gl fg fh i).1 = (z5_norm_3_3 (vp_updL (vp_updL (vp_updL (vp_updL (vp_updL fg 0 0) 1 1) 2 0) 0 1) 1 0)).2 := by rw [he]
          have he_1 : (z5_layTwo gl fg fh i).2 = z5_layTwo_v6 gl fh i := by rw [he]
          exact rt_v (w1 := fun uu : Unit => [kM o mP mL mC mN mF mR mD mV mX mA mK cm mT pm mU mH mI, kA mL cI 180 gl, kJ mU cJ 3 ((z5_layTwo gl fg fh i).1), kJ mH cJ 3 ((z5_layTwo gl fg fh i).2)]) hx hb hr hlk hS dX5_layTwo_241 (()) trivial (by rw [he_0, he_1]; exact hP) (by rw [he_0, he_1]; exact hD)
        · skip
          refine lv_aload_n hx hb dX5_layTwo_223 rfl (lv_at hl 3 rfl) ?_
          refine va_get (D := D) (ci := 5) (v := .ref mH) (C := RX5) (T := TX5) (N := 17) hx hb hts k_2 hown hK.1 hP 0 rfl rfl 15 (by decide) k_4 (fun _ h9 => h9) rfl dX5_layTwo_224 ?_
          refine lv_iconst (v := 3) hx hb dX5_layTwo_227 (by decide) ?_
          have hPc := hP.sub (ws' := [kJ mH cJ 3 (z5_layTwo_v6 gl fh i)]) [3] rfl
          have hDc := hD.sub (ws' := [kJ mH cJ 3 (z5_layTwo_v6 gl fh i)]) [3] (by decide) rfl
          refine cl_i (wc := [kJ mH cJ 3 (z5_layTwo_v6 gl fh i)]) (wr := [kM o mP mL mC mN mF mR mD mV mX mA mK cm mT pm mU mH mI, kA mL cI 180 gl, kJ mU cJ 3 ((z5_norm_3_3 (vp_updL (vp_updL (vp_updL (vp_updL (vp_updL fg 0 0) 1 1) 2 0) 0 1) 1 0)).2)]) (w1 := fun uu : Unit => [kJ mH cJ 3 ((z5_norm_3_3 (z5_layTwo_v6 gl fh i)).2)]) (wn := fun uu : Unit => [kM o mP mL mC mN mF mR mD mV mX mA mK cm mT pm mU mH mI, kA mL cI 180 gl, kJ mU cJ 3 ((z5_norm_3_3 (vp_updL (vp_updL (vp_updL (vp_updL (vp_updL fg 0 0) 1 1) 2 0) 0 1) 1 0)).2), kJ mH cJ 3 ((z5_norm_3_3 (z5_layTwo_v6 gl fh i)).2)]) (va_runS (As := [.ref mH, .int 3]) (rest := []) ⟨hx, hb, hml, hown, hts⟩ (c_X5_norm_3_3 l D cI cJ mH (z5_layTwo_v6 gl fh i) _) (va_cwS 2 hts gX5_layTwo_X5_norm rfl rfl rfl (by decide +kernel) ⟨Nat.le_of_ble_eq_true rfl, Nat.le_of_ble_eq_true rfl⟩) ⟨gd_blP, gd_prP hPc hK hDc⟩ rfl rfl hl.1 rfl (lv_room (Nat.le_of_ble_eq_true rfl)) dX5_layTwo_228 ⟨Nat.zero_le _, Nat.zero_le _⟩) hP hD hS hA [3] [0, 1, 2] rfl rfl (by decide) (by decide) [0, 1, 2, 3] (by decide) (fun _ => rfl) (fun r_228 uG H locs hw hP hD hS => ?_)
          have hP : va_P D vwCl [kM o mP mL mC mN mF mR mD mV mX mA mK cm mT pm mU mH mI, kA mL cI 180 gl, kJ mU cJ 3 ((z5_norm_3_3 (vp_updL (vp_updL (vp_updL (vp_updL (vp_updL fg 0 0) 1 1) 2 0) 0 1) 1 0)).2), kJ mH cJ 3 ((z5_norm_3_3 (z5_layTwo_v6 gl fh i)).2)] H := hP
          have hD : va_D A [kM o mP mL mC mN mF mR mD mV mX mA mK cm mT pm mU mH mI, kA mL cI 180 gl, kJ mU cJ 3 ((z5_norm_3_3 (vp_updL (vp_updL (vp_updL (vp_updL (vp_updL fg 0 0) 1 1) 2 0) 0 1) 1 0)).2), kJ mH cJ 3 ((z5_norm_3_3 (z5_layTwo_v6 gl fh i)).2)] := hD
          subst hw
          clear hPc hDc
          refine lv_if_eq (tgt := 238) hx hb dX5_layTwo_231 (by decide) (fun c_20 => ?_) (fun c_20 => ?_)
          · skip
            refine lv_iconst (v := 0) hx hb dX5_layTwo_238 (by decide) ?_
            refine lv_istore (lv' := [(8, .int 0), (6, .long ((gl (((3 * i) + 2).toNatClampNeg)).toInt64)), (4, .long ((gl (((3 * i) + 1).toNatClampNeg)).toInt64)), (2, .long ((gl ((3 * i).toNatClampNeg)).toInt64)), (0, .ref o), (1, .int i)]) hx hb dX5_layTwo_239 hl (by decide) rfl (fun ls hl => ?_)
            have he : z5_layTwo gl fg fh i = ((z5_norm_3_3 (vp_updL (vp_updL (vp_updL (vp_updL (vp_updL fg 0 0) 1 1) 2 0) 0 1) 1 0)).2, (z5_norm_3_3 (z5_layTwo_v6 gl fh i)).2) := by unfold z5_layTwo; rw [if_pos c_1, if_pos c_10, if_pos c_16, if_neg c_19, if_pos c_20]
            have he_0 : (z5_layTwo gl fg fh i).1 = (z5_norm_3_3 (vp_updL (vp_updL (vp_updL (vp_updL (vp_updL fg 0 0) 1 1) 2 0) 0 1) 1 0)).2 := by rw [he]
            have he_1 : (z5_layTwo gl fg fh i).2 = (z5_norm_3_3 (z5_layTwo_v6 gl fh i)).2 := by rw [he]
            exact rt_v (w1 := fun uu : Unit => [kM o mP mL mC mN mF mR mD mV mX mA mK cm mT pm mU mH mI, kA mL cI 180 gl, kJ mU cJ 3 ((z5_layTwo gl fg fh i).1), kJ mH cJ 3 ((z5_layTwo gl fg fh i).2)]) hx hb hr hlk hS dX5_layTwo_241 (()) trivial (by rw [he_0, he_1]; exact hP) (by rw [he_0, he_1]; exact hD)
          · skip
            refine lv_iconst (v := 1) hx hb dX5_layTwo_234 (by decide) ?_
            refine lv_goto (tgt := 239) hx hb dX5_layTwo_235 (by decide) ?_
            refine lv_istore (lv' := [(8, .int 1), (6, .long ((gl (((3 * i) + 2).toNatClampNeg)).toInt64)), (4, .long ((gl (((3 * i) + 1).toNatClampNeg)).toInt64)), (2, .long ((gl ((3 * i).toNatClampNeg)).toInt64)), (0, .ref o), (1, .int i)]) hx hb dX5_layTwo_239 hl (by decide) rfl (fun ls hl => ?_)
            have he : z5_layTwo gl fg fh i = ((z5_norm_3_3 (vp_updL (vp_updL (vp_updL (vp_updL (vp_updL fg 0 0) 1 1) 2 0) 0 1) 1 0)).2, (z5_norm_3_3 (z5_layTwo_v6 gl fh i)).2) := by unfold z5_layTwo; rw [if_pos c_1, if_pos c_10, if_pos c_16, if_neg c_19, if_neg c_20]
            have he_0 : (z5_layTwo gl fg fh i).1 = (z5_norm_3_3 (vp_updL (vp_updL (vp_updL (vp_updL (vp_updL fg 0 0) 1 1) 2 0) 0 1) 1 0)).2 := by rw [he]
            have he_1 : (z5_layTwo gl fg fh i).2 = (z5_norm_3_3 (z5_layTwo_v6 gl fh i)).2 := by rw [he]
            exact rt_v (w1 := fun uu : Unit => [kM o mP mL mC mN mF mR mD mV mX mA mK cm mT pm mU mH mI, kA mL cI 180 gl, kJ mU cJ 3 ((z5_layTwo gl fg fh i).1), kJ mH cJ 3 ((z5_layTwo gl fg fh i).2)]) hx hb hr hlk hS dX5_layTwo_241 (()) trivial (by rw [he_0, he_1]; exact hP) (by rw [he_0, he_1]; exact hD)
theorem ixc {i k m : Int32} (hm : 0 ≤ m.toInt ∧ m.toInt ≤ 2) (h1 : ¬ z5_in k.toInt64 0 2 = 0) (h2 : ¬ z5_in i.toInt64 0 (m.toInt64 - 1) = 0) : vp_in (3 * i + k) 6 := by
  have hk := k_of3 h1
  obtain ⟨a, b⟩ := z5_in_iff h2
  have z1 : (1 : Int64).toInt = 1 := by decide
  have e := i64_sub (a := m.toInt64) (b := 1) (i32_64 m) z1 (by omega) (by omega)
  rw [i32_64, show (0 : Int64).toInt = 0 by decide] at a
  rw [i32_64, e] at b
  have z3 : (3 : Int32).toInt = 3 := by decide
  have hm := i32_mul (a := 3) (b := i) z3 rfl (by omega) (by omega)
  have ha := i32_add (a := 3 * i) (b := k) hm rfl (by omega) (by omega)
  rw [vp_in_iff, ha]
  omega
def z5_crossing (cm : Int32) (fk : Nat → Int64) (i : Int32) (k : Int32) : Int64 := if (z5_in k.toInt64 0 2) = 0 then (-1000003) else if (z5_in i.toInt64 0 (cm.toInt64 - 1)) = 0 then (-1000001) else fk (((3 * i) + k).toNatClampNeg)
set_option maxHeartbeats 4000000 in
set_option maxRecDepth 100000 in
/-- X5.crossing -/
theorem c_X5_crossing (l : Launch) (D : va_G) (cI cJ : ClassId) (o : Nat) (mP : Nat) (mL : Nat) (mC : Nat) (mN : Nat) (mF : Nat) (mR : Nat) (mD : Nat) (mV : Nat) (mX : Nat) (mA : Nat) (mK : Nat) (mT : Nat) (mU : Nat) (mH : Nat) (mI : Nat) (cm : Int32) (pm : Int32) (fk : Nat → Int64) (i : Int32) (k : Int32) (hcm : 0 ≤ cm.toInt ∧ cm.toInt ≤ 2) : mr_C l yX5_crossing wsX5_crossing ({ frames := 1, cells := 0, slots := 0, locals := 25 }) D cI cJ [.ref o, .int i, .int k] [kM o mP mL mC mN mF mR mD mV mX mA mK cm mT pm mU mH mI, kJ mK cJ 6 fk] (vp_Sl (fun r : Int64 => r = z5_crossing cm fk i k)) := by
  refine mr_in (cc := cX5_crossing) (lv := [(0, .ref o), (1, .int i), (2, .int k)]) (by decide) rfl (Nat.le_of_ble_eq_true rfl) rfl ?_
  intro pG eG sG mG below meth cG ls hx hb hr hml hown hts hlk hP hK hl
  have hown : sG.vm.findClass RX5 = some mG.cls := hown
  have k_1 := hts (.constantLong RX5 95 (2)) (by decide +kernel)
  have k_2 := hts (.fieldLink RX5 188 "ConicRowsModel" "crossMany" "I") (by decide +kernel)
  have k_3 : ∀ w ∈ wsX50, w ∈ wsX5_crossing := by decide +kernel
  have k_4 := hts (.constantLong RX5 207 (-1000001)) (by decide +kernel)
  have k_5 := hts (.fieldLink RX5 41 "ConicRowsModel" "crossings" "[J") (by decide +kernel)
  have k_6 := hts (.constantLong RX5 168 (-1000003)) (by decide +kernel)
  refine lv_iload_n hx hb dX5_crossing_0 rfl (lv_at hl 2 rfl) ?_
  refine lv_i2l hx hb dX5_crossing_1 rfl ?_
  refine lv_lconst (v := 0) hx hb dX5_crossing_2 (by decide) ?_
  refine lv_ldc2 hx hb hown k_1 dX5_crossing_3 ?_
  have hPc := hP.sub (ws' := []) [] rfl
  refine cr_i (va_runS (As := [.long k.toInt64, .long 0, .long 2]) (rest := []) ⟨hx, hb, hml, hown, hts⟩ (c_X5_in l D cI cJ k.toInt64 0 2) (va_cwS 3 hts gX5_crossing_X5_in rfl rfl rfl (by decide +kernel) ⟨Nat.le_of_ble_eq_true rfl, Nat.le_of_ble_eq_true rfl⟩) ⟨gd_blR, gd_prR hPc hK⟩ rfl rfl hl.1 rfl (lv_room (Nat.le_of_ble_eq_true rfl)) dX5_crossing_6 ⟨Nat.zero_le _, Nat.zero_le _⟩) (fun r_6 hw => ?_)
  subst hw
  clear hPc
  refine lv_if_ne (tgt := 16) hx hb dX5_crossing_9 (by decide) (fun c_1 => ?_) (fun c_1 => ?_)
  · skip
    refine lv_iload_n hx hb dX5_crossing_16 rfl (lv_at hl 1 rfl) ?_
    refine lv_i2l hx hb dX5_crossing_17 rfl ?_
    refine lv_lconst (v := 0) hx hb dX5_crossing_18 (by decide) ?_
    refine lv_aload_n hx hb dX5_crossing_19 rfl (lv_at hl 0 rfl) ?_
    refine va_get (D := D) (ci := 5) (v := .int cm) (C := RX5) (T := TX5) (N := 17) hx hb hts k_3 hown hK.1 hP 0 rfl rfl 11 (by decide) k_2 (fun _ h9 => h9) rfl dX5_crossing_20 ?_
    refine lv_i2l hx hb dX5_crossing_23 rfl ?_
    refine lv_lconst (v := 1) hx hb dX5_crossing_24 (by decide) ?_
    refine lv_lsub hx hb dX5_crossing_25 ?_
    have hPc := hP.sub (ws' := []) [] rfl
    refine cr_i (va_runS (As := [.long i.toInt64, .long 0, .long (cm.toInt64 - 1)]) (rest := []) ⟨hx, hb, hml, hown, hts⟩ (c_X5_in l D cI cJ i.toInt64 0 (cm.toInt64 - 1)) (va_cwS 3 hts gX5_crossing_X5_in rfl rfl rfl (by decide +kernel) ⟨Nat.le_of_ble_eq_true rfl, Nat.le_of_ble_eq_true rfl⟩) ⟨gd_blR, gd_prR hPc hK⟩ rfl rfl hl.1 rfl (lv_room (Nat.le_of_ble_eq_true rfl)) dX5_crossing_26 ⟨Nat.zero_le _, Nat.zero_le _⟩) (fun r_26 hw => ?_)
    subst hw
    clear hPc
    refine lv_if_eq (tgt := 45) hx hb dX5_crossing_29 (by decide) (fun c_2 => ?_) (fun c_2 => ?_)
    · skip
      refine lv_ldc2 hx hb hown k_4 dX5_crossing_45 ?_
      have he : z5_crossing cm fk i k = (-1000001) := by unfold z5_crossing; rw [if_neg c_1, if_pos c_2]
      exact rr_l hx hb hr hlk dX5_crossing_48 he.symm
    · skip
      refine lv_aload_n hx hb dX5_crossing_32 rfl (lv_at hl 0 rfl) ?_
      refine va_get (D := D) (ci := 5) (v := .ref mK) (C := RX5) (T := TX5) (N := 17) hx hb hts k_3 hown hK.1 hP 0 rfl rfl 10 (by decide) k_5 (fun _ h9 => h9) rfl dX5_crossing_33 ?_
      refine lv_iconst (v := 3) hx hb dX5_crossing_36 (by decide) ?_
      refine lv_iload_n hx hb dX5_crossing_37 rfl (lv_at hl 1 rfl) ?_
      refine lv_imul hx hb dX5_crossing_38 ?_
      refine lv_iload_n hx hb dX5_crossing_39 rfl (lv_at hl 2 rfl) ?_
      refine lv_iadd hx hb dX5_crossing_40 ?_
      refine ld_l hx hb hK.1 hP 1 1 rfl rfl (ixc hcm c_1 c_2) (((3 * i) + k).toNatClampNeg) rfl (v := fk (((3 * i) + k).toNatClampNeg)) rfl dX5_crossing_41 ?_
      refine lv_goto (tgt := 48) hx hb dX5_crossing_42 (by decide) ?_
      have he : z5_crossing cm fk i k = fk (((3 * i) + k).toNatClampNeg) := by unfold z5_crossing; rw [if_neg c_1, if_neg c_2]
      exact rr_l hx hb hr hlk dX5_crossing_48 he.symm
  · skip
    refine lv_ldc2 hx hb hown k_6 dX5_crossing_12 ?_
    have he : z5_crossing cm fk i k = (-1000003) := by unfold z5_crossing; rw [if_pos c_1]
    exact rr_l hx hb hr hlk dX5_crossing_15 he.symm
def z5_part (pm : Int32) (ft : Nat → Int64) (i : Int32) (k : Int32) : Int64 := if (z5_in k.toInt64 0 2) = 0 then (-1000003) else if (z5_in i.toInt64 0 (pm.toInt64 - 1)) = 0 then (-1000001) else ft (((3 * i) + k).toNatClampNeg)
set_option maxHeartbeats 4000000 in
set_option maxRecDepth 100000 in
/-- X5.part -/
theorem c_X5_part (l : Launch) (D : va_G) (cI cJ : ClassId) (o : Nat) (mP : Nat) (mL : Nat) (mC : Nat) (mN : Nat) (mF : Nat) (mR : Nat) (mD : Nat) (mV : Nat) (mX : Nat) (mA : Nat) (mK : Nat) (mT : Nat) (mU : Nat) (mH : Nat) (mI : Nat) (cm : Int32) (pm : Int32) (ft : Nat → Int64) (i : Int32) (k : Int32) (hcm : 0 ≤ pm.toInt ∧ pm.toInt ≤ 2) : mr_C l yX5_part wsX5_part ({ frames := 1, cells := 0, slots := 0, locals := 25 }) D cI cJ [.ref o, .int i, .int k] [kM o mP mL mC mN mF mR mD mV mX mA mK cm mT pm mU mH mI, kJ mT cJ 6 ft] (vp_Sl (fun r : Int64 => r = z5_part pm ft i k)) := by
  refine mr_in (cc := cX5_part) (lv := [(0, .ref o), (1, .int i), (2, .int k)]) (by decide) rfl (Nat.le_of_ble_eq_true rfl) rfl ?_
  intro pG eG sG mG below meth cG ls hx hb hr hml hown hts hlk hP hK hl
  have hown : sG.vm.findClass RX5 = some mG.cls := hown
  have k_1 := hts (.constantLong RX5 95 (2)) (by decide +kernel)
  have k_2 := hts (.fieldLink RX5 209 "ConicRowsModel" "partMany" "I") (by decide +kernel)
  have k_3 : ∀ w ∈ wsX50, w ∈ wsX5_part := by decide +kernel
  have k_4 := hts (.constantLong RX5 207 (-1000001)) (by decide +kernel)
  have k_5 := hts (.fieldLink RX5 44 "ConicRowsModel" "parts" "[J") (by decide +kernel)
  have k_6 := hts (.constantLong RX5 168 (-1000003)) (by decide +kernel)
  refine lv_iload_n hx hb dX5_part_0 rfl (lv_at hl 2 rfl) ?_
  refine lv_i2l hx hb dX5_part_1 rfl ?_
  refine lv_lconst (v := 0) hx hb dX5_part_2 (by decide) ?_
  refine lv_ldc2 hx hb hown k_1 dX5_part_3 ?_
  have hPc := hP.sub (ws' := []) [] rfl
  refine cr_i (va_runS (As := [.long k.toInt64, .long 0, .long 2]) (rest := []) ⟨hx, hb, hml, hown, hts⟩ (c_X5_in l D cI cJ k.toInt64 0 2) (va_cwS 3 hts gX5_part_X5_in rfl rfl rfl (by decide +kernel) ⟨Nat.le_of_ble_eq_true rfl, Nat.le_of_ble_eq_true rfl⟩) ⟨gd_blR, gd_prR hPc hK⟩ rfl rfl hl.1 rfl (lv_room (Nat.le_of_ble_eq_true rfl)) dX5_part_6 ⟨Nat.zero_le _, Nat.zero_le _⟩) (fun r_6 hw => ?_)
  subst hw
  clear hPc
  refine lv_if_ne (tgt := 16) hx hb dX5_part_9 (by decide) (fun c_1 => ?_) (fun c_1 => ?_)
  · skip
    refine lv_iload_n hx hb dX5_part_16 rfl (lv_at hl 1 rfl) ?_
    refine lv_i2l hx hb dX5_part_17 rfl ?_
    refine lv_lconst (v := 0) hx hb dX5_part_18 (by decide) ?_
    refine lv_aload_n hx hb dX5_part_19 rfl (lv_at hl 0 rfl) ?_
    refine va_get (D := D) (ci := 5) (v := .int pm) (C := RX5) (T := TX5) (N := 17) hx hb hts k_3 hown hK.1 hP 0 rfl rfl 13 (by decide) k_2 (fun _ h9 => h9) rfl dX5_part_20 ?_
    refine lv_i2l hx hb dX5_part_23 rfl ?_
    refine lv_lconst (v := 1) hx hb dX5_part_24 (by decide) ?_
    refine lv_lsub hx hb dX5_part_25 ?_
    have hPc := hP.sub (ws' := []) [] rfl
    refine cr_i (va_runS (As := [.long i.toInt64, .long 0, .long (pm.toInt64 - 1)]) (rest := []) ⟨hx, hb, hml, hown, hts⟩ (c_X5_in l D cI cJ i.toInt64 0 (pm.toInt64 - 1)) (va_cwS 3 hts gX5_part_X5_in rfl rfl rfl (by decide +kernel) ⟨Nat.le_of_ble_eq_true rfl, Nat.le_of_ble_eq_true rfl⟩) ⟨gd_blR, gd_prR hPc hK⟩ rfl rfl hl.1 rfl (lv_room (Nat.le_of_ble_eq_true rfl)) dX5_part_26 ⟨Nat.zero_le _, Nat.zero_le _⟩) (fun r_26 hw => ?_)
    subst hw
    clear hPc
    refine lv_if_eq (tgt := 45) hx hb dX5_part_29 (by decide) (fun c_2 => ?_) (fun c_2 => ?_)
    · skip
      refine lv_ldc2 hx hb hown k_4 dX5_part_45 ?_
      have he : z5_part pm ft i k = (-1000001) := by unfold z5_part; rw [if_neg c_1, if_pos c_2]
      exact rr_l hx hb hr hlk dX5_part_48 he.symm
    · skip
      refine lv_aload_n hx hb dX5_part_32 rfl (lv_at hl 0 rfl) ?_
      refine va_get (D := D) (ci := 5) (v := .ref mT) (C := RX5) (T := TX5) (N := 17) hx hb hts k_3 hown hK.1 hP 0 rfl rfl 12 (by decide) k_5 (fun _ h9 => h9) rfl dX5_part_33 ?_
      refine lv_iconst (v := 3) hx hb dX5_part_36 (by decide) ?_
      refine lv_iload_n hx hb dX5_part_37 rfl (lv_at hl 1 rfl) ?_
      refine lv_imul hx hb dX5_part_38 ?_
      refine lv_iload_n hx hb dX5_part_39 rfl (lv_at hl 2 rfl) ?_
      refine lv_iadd hx hb dX5_part_40 ?_
      refine ld_l hx hb hK.1 hP 1 1 rfl rfl (ixc hcm c_1 c_2) (((3 * i) + k).toNatClampNeg) rfl (v := ft (((3 * i) + k).toNatClampNeg)) rfl dX5_part_41 ?_
      refine lv_goto (tgt := 48) hx hb dX5_part_42 (by decide) ?_
      have he : z5_part pm ft i k = ft (((3 * i) + k).toNatClampNeg) := by unfold z5_part; rw [if_neg c_1, if_neg c_2]
      exact rr_l hx hb hr hlk dX5_part_48 he.symm
  · skip
    refine lv_ldc2 hx hb hown k_6 dX5_part_12 ?_
    have he : z5_part pm ft i k = (-1000003) := by unfold z5_part; rw [if_pos c_1]
    exact rr_l hx hb hr hlk dX5_part_15 he.symm
