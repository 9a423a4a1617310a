-- laid by wip/whole/gen
theorem nI_dec (x : Int32) : x + (-1) + 1 = x := by
  rw [Int32.add_assoc]
  have : ((-1 : Int32) + 1) = 0 := by decide
  rw [this, Int32.add_zero]
theorem nI_up {i : Int32} {n : Nat} (h : i + 1 = nI (n + 1)) : i = nI n := by
  have h2 : i + 1 + (-1) = nI (n + 1) + (-1) := by rw [h]
  rw [pk_m1, Int32.add_assoc] at h2
  have : ((1 : Int32) + -1) = 0 := by decide
  rw [this, Int32.add_zero] at h2
  exact h2
def z4_gcdl : Nat → Int64 → Int64 → Int64
  | 0, h, _ => h
  | n + 1, h, l => if l = 0 then h else z4_gcdl n l (h - h / l * l)
def z4_commonDivisor (x y : Int64) : Int64 := z4_gcdl 100 x y
set_option maxHeartbeats 4000000 in
set_option maxRecDepth 100000 in
/-- X4.commonDivisor -/
theorem c_X4_commonDivisor (l : Launch) (D : va_G) (cI cJ : ClassId) (x : Int64) (y : Int64) : mr_C l yX4_commonDivisor wsX4_commonDivisor ({ frames := 0, cells := 0, slots := 0, locals := 0 }) D cI cJ [.long x, .long y] [] (vp_Sl (fun r : Int64 => r = z4_commonDivisor x y)) := by
  refine mr_in (cc := cX4_commonDivisor) (lv := [(0, .long x), (2, .long y)]) (by decide) rfl (Nat.le_of_ble_eq_true rfl) rfl ?_
  intro pG eG sG mG below meth cG ls hx hb hr hml hown hts hlk hP hK hl
  have hown : sG.vm.findClass RX4 = some mG.cls := hown
  refine lv_lload_n hx hb dX4_commonDivisor_0 rfl (lv_at hl 0 rfl) ?_
  refine lv_lstore (lv' := [(4, .long x), (0, .long x), (2, .long y)]) hx hb dX4_commonDivisor_1 hl (by decide) rfl (fun ls hl => ?_)
  refine lv_lload_n hx hb dX4_commonDivisor_3 rfl (lv_at hl 2 rfl) ?_
  refine lv_lstore (lv' := [(6, .long y), (4, .long x), (0, .long x), (2, .long y)]) hx hb dX4_commonDivisor_4 hl (by decide) rfl (fun ls hl => ?_)
  refine lv_iconst (v := 0) hx hb dX4_commonDivisor_6 (by decide) ?_
  refine lv_istore (lv' := [(8, .int 0), (6, .long y), (4, .long x), (0, .long x), (2, .long y)]) hx hb dX4_commonDivisor_7 hl (by decide) rfl (fun ls hl => ?_)
  have loop : ∀ (n : Nat) (i : Int32) (u v : Int64), n ≤ 100 → i = nI (100 - n) → z4_gcdl n u v = z4_commonDivisor x y → ∀ ls : Array Slot, lv_has ls 11 [(8, .int i), (6, .long v), (4, .long u)] → W pG l eG (headSpec wsX4_commonDivisor ({ frames := 0, cells := 0, slots := 0, locals := 0 })).room sG mG ([.long x, .long y] : List Value).toArray below meth cG sG.heap [] 0 0 (MQ below (vp_Sl (fun r : Int64 => r = z4_commonDivisor x y)) ([.long x, .long y] : List Value).toArray sG 0 0 (fun _ => False)) (F0 mG 9 ls []) := by
    intro n
    induction n with
    | zero =>
      intro i u v hn hi hv ls hl
      have hc : 100 ≤ i := by rw [hi]; decide
      refine lv_iload hx hb dX4_commonDivisor_9 (lv_at hl 0 rfl) ?_
      refine lv_bipush (v := 100) hx hb dX4_commonDivisor_11 (by decide) ?_
      refine lv_icmp_ge (tgt := 44) hx hb dX4_commonDivisor_13 (by decide) (fun _ => ?_) (fun h => absurd hc h)
      refine lv_lload hx hb dX4_commonDivisor_44 (lv_at hl 2 rfl) ?_
      exact rr_l hx hb hr hlk dX4_commonDivisor_46 hv
    | succ n ih =>
      intro i u v hn hi hv ls hl
      have hc : ¬ 100 ≤ i := by rw [hi]; exact nI_ge (a := 100 - (n + 1)) (b := 100) (by omega) (by decide)
      rw [z4_gcdl] at hv
      refine lv_iload hx hb dX4_commonDivisor_9 (lv_at hl 0 rfl) ?_
      refine lv_bipush (v := 100) hx hb dX4_commonDivisor_11 (by decide) ?_
      refine lv_icmp_ge (tgt := 44) hx hb dX4_commonDivisor_13 (by decide) (fun h => absurd h hc) (fun _ => ?_)
      refine lv_lload hx hb dX4_commonDivisor_16 (lv_at hl 1 rfl) ?_
      refine lv_lconst (v := 0) hx hb dX4_commonDivisor_18 (by decide) ?_
      refine lb_eq (tgt := 44) hx hb dX4_commonDivisor_19 rfl dX4_commonDivisor_20 (by decide) (fun c_1 => ?_) (fun c_1 => ?_)
      · skip
        refine lv_lload hx hb dX4_commonDivisor_44 (lv_at hl 2 rfl) ?_
        exact rr_l hx hb hr hlk dX4_commonDivisor_46 (by rw [if_pos c_1] at hv; exact hv)
      · skip
        refine lv_lload hx hb dX4_commonDivisor_23 (lv_at hl 2 rfl) ?_
        refine lv_lload hx hb dX4_commonDivisor_25 (lv_at hl 1 rfl) ?_
        refine lv_lrem hx hb dX4_commonDivisor_27 c_1 ?_
        refine lv_lstore (lv' := [(9, .long (u - u / v * v)), (8, .int i), (6, .long v), (4, .long u)]) hx hb dX4_commonDivisor_28 hl (by decide) rfl (fun ls hl => ?_)
        refine lv_lload hx hb dX4_commonDivisor_30 (lv_at hl 2 rfl) ?_
        refine lv_lstore (lv' := [(4, .long v), (9, .long (u - u / v * v)), (8, .int i), (6, .long v)]) hx hb dX4_commonDivisor_32 hl (by decide) rfl (fun ls hl => ?_)
        refine lv_lload hx hb dX4_commonDivisor_34 (lv_at hl 1 rfl) ?_
        refine lv_lstore (lv' := [(6, .long (u - u / v * v)), (4, .long v), (9, .long (u - u / v * v)), (8, .int i)]) hx hb dX4_commonDivisor_36 hl (by decide) rfl (fun ls hl => ?_)
        refine lv_iinc (v := i + 1) (lv' := [(8, .int (i + 1)), (6, .long (u - u / v * v)), (4, .long v), (9, .long (u - u / v * v))]) hx hb dX4_commonDivisor_38 hl (k := 3) rfl rfl (by decide) rfl (fun ls hl => ?_)
        refine lv_goto (tgt := 9) hx hb dX4_commonDivisor_41 (by decide) ?_
        exact ih (i + 1) v (u - u / v * v) (by omega) (by rw [hi, nI_1]; congr 1; omega) (by rw [if_neg c_1] at hv; exact hv) ls (lv_sub hl [0, 1, 2] rfl)
  exact loop 100 0 x y (Nat.le_refl _) (by decide) rfl ls (lv_sub hl [0, 1, 2] rfl)
def z4_rootl : Nat → Int64 → Int64 → Int64
  | 0, _, r => r
  | n + 1, x, r => if x < (r + 1 <<< ((nI n).toInt64 &&& 63)) * (r + 1 <<< ((nI n).toInt64 &&& 63)) then z4_rootl n x r else z4_rootl n x (r + 1 <<< ((nI n).toInt64 &&& 63))
def z4_rootOf (x : Int64) : Int64 := z4_rootl 31 x 0
set_option maxHeartbeats 4000000 in
set_option maxRecDepth 100000 in
/-- X4.rootOf -/
theorem c_X4_rootOf (l : Launch) (D : va_G) (cI cJ : ClassId) (x : Int64) : mr_C l yX4_rootOf wsX4_rootOf ({ frames := 0, cells := 0, slots := 0, locals := 0 }) D cI cJ [.long x] [] (vp_Sl (fun r : Int64 => r = z4_rootOf x)) := by
  refine mr_in (cc := cX4_rootOf) (lv := [(0, .long x)]) (by decide) rfl (Nat.le_of_ble_eq_true rfl) rfl ?_
  intro pG eG sG mG below meth cG ls hx hb hr hml hown hts hlk hP hK hl
  have hown : sG.vm.findClass RX4 = some mG.cls := hown
  refine lv_lconst (v := 0) hx hb dX4_rootOf_0 (by decide) ?_
  refine lv_lstore_n (lv' := [(2, .long 0), (0, .long x)]) hx hb dX4_rootOf_1 rfl hl (by decide) rfl (fun ls hl => ?_)
  refine lv_bipush (v := 30) hx hb dX4_rootOf_2 (by decide) ?_
  refine lv_istore (lv' := [(4, .int 30), (2, .long 0), (0, .long x)]) hx hb dX4_rootOf_4 hl (by decide) rfl (fun ls hl => ?_)
  have loop : ∀ (n : Nat) (i : Int32) (r : Int64), n ≤ 31 → i + 1 = nI n → z4_rootl n x r = z4_rootOf x → ∀ ls : Array Slot, lv_has ls 7 [(4, .int i), (2, .long r), (0, .long x)] → W pG l eG (headSpec wsX4_rootOf ({ frames := 0, cells := 0, slots := 0, locals := 0 })).room sG mG ([.long x] : List Value).toArray below meth cG sG.heap [] 0 0 (MQ below (vp_Sl (fun r : Int64 => r = z4_rootOf x)) ([.long x] : List Value).toArray sG 0 0 (fun _ => False)) (F0 mG 6 ls []) := by
    intro n
    induction n with
    | zero =>
      intro i r hn hi hv ls hl
      have hc : i < 0 := by
        have h1 : i + 1 + (-1) = -1 := by rw [hi]; decide
        rw [Int32.add_assoc] at h1
        have h2 : ((1 : Int32) + -1) = 0 := by decide
        rw [h2, Int32.add_zero] at h1
        rw [h1]; decide
      refine lv_iload hx hb dX4_rootOf_6 (lv_at hl 0 rfl) ?_
      refine lv_if_lt (tgt := 38) hx hb dX4_rootOf_8 (by decide) (fun _ => ?_) (fun h => absurd hc h)
      refine lv_lload_n hx hb dX4_rootOf_38 rfl (lv_at hl 1 rfl) ?_
      exact rr_l hx hb hr hlk dX4_rootOf_39 hv
    | succ n ih =>
      intro i r hn hi hv ls hl
      have hi2 := nI_up hi
      have hc : ¬ i < 0 := by rw [hi2]; exact nI_pos (by omega)
      rw [z4_rootl, ← hi2] at hv
      refine lv_iload hx hb dX4_rootOf_6 (lv_at hl 0 rfl) ?_
      refine lv_if_lt (tgt := 38) hx hb dX4_rootOf_8 (by decide) (fun h => absurd h hc) (fun _ => ?_)
      refine lv_lload_n hx hb dX4_rootOf_11 rfl (lv_at hl 1 rfl) ?_
      refine lv_lconst (v := 1) hx hb dX4_rootOf_12 (by decide) ?_
      refine lv_iload hx hb dX4_rootOf_13 (lv_at hl 0 rfl) ?_
      refine lv_lshl hx hb dX4_rootOf_15 rfl ?_
      refine lv_ladd hx hb dX4_rootOf_16 ?_
      refine lv_lstore (lv' := [(5, .long (r + (1 <<< (i.toInt64 &&& 63)))), (4, .int i), (2, .long r), (0, .long x)]) hx hb dX4_rootOf_17 hl (by decide) rfl (fun ls hl => ?_)
      refine lv_lload hx hb dX4_rootOf_19 (lv_at hl 0 rfl) ?_
      refine lv_lload hx hb dX4_rootOf_21 (lv_at hl 0 rfl) ?_
      refine lv_lmul hx hb dX4_rootOf_23 ?_
      refine lv_lload_n hx hb dX4_rootOf_24 rfl (lv_at hl 3 rfl) ?_
      refine lb_gt (tgt := 32) hx hb dX4_rootOf_25 rfl dX4_rootOf_26 (by decide) (fun c_1 => ?_) (fun c_1 => ?_)
      · skip
        refine lv_iinc (v := i + (-1)) (lv' := [(4, .int (i + (-1))), (5, .long (r + (1 <<< (i.toInt64 &&& 63)))), (2, .long r), (0, .long x)]) hx hb dX4_rootOf_32 hl (k := 1) rfl rfl (by decide) rfl (fun ls hl => ?_)
        refine lv_goto (tgt := 6) hx hb dX4_rootOf_35 (by decide) ?_
        exact ih (i + (-1)) r (by omega) ((nI_dec _).trans hi2) (by rw [if_pos c_1] at hv; exact hv) ls (lv_sub hl [0, 2, 3] rfl)
      · skip
        refine lv_lload hx hb dX4_rootOf_29 (lv_at hl 0 rfl) ?_
        refine lv_lstore_n (lv' := [(2, .long (r + (1 <<< (i.toInt64 &&& 63)))), (5, .long (r + (1 <<< (i.toInt64 &&& 63)))), (4, .int i), (0, .long x)]) hx hb dX4_rootOf_31 rfl hl (by decide) rfl (fun ls hl => ?_)
        refine lv_iinc (v := i + (-1)) (lv' := [(4, .int (i + (-1))), (2, .long (r + (1 <<< (i.toInt64 &&& 63)))), (5, .long (r + (1 <<< (i.toInt64 &&& 63)))), (0, .long x)]) hx hb dX4_rootOf_32 hl (k := 2) rfl rfl (by decide) rfl (fun ls hl => ?_)
        refine lv_goto (tgt := 6) hx hb dX4_rootOf_35 (by decide) ?_
        exact ih (i + (-1)) (r + (1 <<< (i.toInt64 &&& 63))) (by omega) ((nI_dec _).trans hi2) (by rw [if_neg c_1] at hv; exact hv) ls (lv_sub hl [0, 1, 3] rfl)
  exact loop 31 30 0 (Nat.le_refl _) (by decide) rfl ls (lv_sub hl [0, 1, 2] rfl)
