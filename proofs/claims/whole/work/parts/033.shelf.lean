-- laid by wip/whole/gen
def sh_ok (w : Int32) (L : Nat) (n : Int32) : Prop := ((w = 3 ∧ L = 180) ∨ (w = 6 ∧ L = 360)) ∧ 0 ≤ n ∧ n ≤ 60
theorem i32_lt {a b : Int32} : a < b ↔ a.toInt < b.toInt := Int32.lt_iff_toInt_lt
theorem i32_le {a b : Int32} : a ≤ b ↔ a.toInt ≤ b.toInt := Int32.le_iff_toInt_le
theorem i32_add {a b : Int32} {x y : Int} (ha : a.toInt = x) (hb : b.toInt = y) (h1 : -2147483648 ≤ x + y) (h2 : x + y < 2147483648) : (a + b).toInt = x + y := by
  rw [Int32.toInt_add, ha, hb]
  exact Int.bmod_eq_of_le (by omega) (by omega)
theorem i32_mul {a b : Int32} {x y : Int} (ha : a.toInt = x) (hb : b.toInt = y) (h1 : -2147483648 ≤ x * y) (h2 : x * y < 2147483648) : (a * b).toInt = x * y := by
  rw [Int32.toInt_mul, ha, hb]
  exact Int.bmod_eq_of_le (by omega) (by omega)
theorem ix_row {w i k : Int32} {L : Nat} (hw : (w = 3 ∧ L = 180) ∨ (w = 6 ∧ L = 360)) (h0 : 0 ≤ i.toInt) (h1 : i.toInt < 60) (h2 : ¬ k < 0) (h3 : ¬ w ≤ k) : vp_in (i * w + k) L := by
  rw [i32_lt] at h2
  rw [i32_le] at h3
  have z0 : (0 : Int32).toInt = 0 := by decide
  rw [z0] at h2
  rw [vp_in_iff]
  rcases hw with ⟨e1, e2⟩ | ⟨e1, e2⟩
  · subst e1; subst e2
    have z3 : (3 : Int32).toInt = 3 := by decide
    rw [z3] at h3
    have hm := i32_mul (a := i) (b := 3) rfl z3 (by omega) (by omega)
    have ha := i32_add (a := i * 3) (b := k) hm rfl (by omega) (by omega)
    rw [ha]
    omega
  · subst e1; subst e2
    have z3 : (6 : Int32).toInt = 6 := by decide
    rw [z3] at h3
    have hm := i32_mul (a := i) (b := 6) rfl z3 (by omega) (by omega)
    have ha := i32_add (a := i * 6) (b := k) hm rfl (by omega) (by omega)
    rw [ha]
    omega
def z2_has (n : Int32) (i : Int32) : Int32 := if i < 0 then 0 else if n ≤ i then 0 else 1
set_option maxHeartbeats 4000000 in
set_option maxRecDepth 100000 in
/-- X2.has -/
theorem c_X2_has (l : Launch) (D : va_G) (cI cJ : ClassId) (h : Nat) (q : Nat) (w : Int32) (n : Int32) (i : Int32) : mr_C l yX2_has wsX2_has ({ frames := 0, cells := 0, slots := 0, locals := 0 }) D cI cJ [.ref h, .int i] [kS h w q n] (vp_Si (fun r : Int32 => r = z2_has n i)) := by
  refine mr_in (cc := cX2_has) (lv := [(0, .ref h), (1, .int i)]) (by decide) rfl (Nat.le_of_ble_eq_true rfl) rfl ?_
  intro pG eG sG mG below meth cG ls hx hb hr hml hown hts hlk hP hK hl
  have hown : sG.vm.findClass RX2 = some mG.cls := hown
  have k_1 := hts (.fieldLink RX2 19 "ConicRows$Shelf" "size" "I") (by decide +kernel)
  have k_2 : ∀ w ∈ wsX20, w ∈ wsX2_has := by decide +kernel
  refine lv_iload_n hx hb dX2_has_0 rfl (lv_at hl 1 rfl) ?_
  refine lv_if_lt (tgt := 16) hx hb dX2_has_1 (by decide) (fun c_1 => ?_) (fun c_1 => ?_)
  · skip
    refine lv_iconst (v := 0) hx hb dX2_has_16 (by decide) ?_
    have he : z2_has n i = 0 := by unfold z2_has; rw [if_pos c_1]
    exact rr_z hx hb hr rfl hlk dX2_has_17 he.symm
  · skip
    refine lv_iload_n hx hb dX2_has_4 rfl (lv_at hl 1 rfl) ?_
    refine lv_aload_n hx hb dX2_has_5 rfl (lv_at hl 0 rfl) ?_
    refine va_get (D := D) (ci := 2) (v := .int n) (C := RX2) (T := TX2) (N := 3) hx hb hts k_2 hown hK.1 hP 0 rfl rfl 2 (by decide) k_1 (fun _ h9 => h9) rfl dX2_has_6 ?_
    refine lv_icmp_ge (tgt := 16) hx hb dX2_has_9 (by decide) (fun c_2 => ?_) (fun c_2 => ?_)
    · skip
      refine lv_iconst (v := 0) hx hb dX2_has_16 (by decide) ?_
      have he : z2_has n i = 0 := by unfold z2_has; rw [if_neg c_1, if_pos c_2]
      exact rr_z hx hb hr rfl hlk dX2_has_17 he.symm
    · skip
      refine lv_iconst (v := 1) hx hb dX2_has_12 (by decide) ?_
      refine lv_goto (tgt := 17) hx hb dX2_has_13 (by decide) ?_
      have he : z2_has n i = 1 := by unfold z2_has; rw [if_neg c_1, if_neg c_2]
      exact rr_z hx hb hr rfl hlk dX2_has_17 he.symm
theorem ix_get {w n i k : Int32} {L : Nat} (h : sh_ok w L n) (h1 : ¬ z2_has n i = 0) (h2 : ¬ k < 0) (h3 : ¬ w ≤ k) : vp_in (i * w + k) L := by
  obtain ⟨hw, a, b⟩ := h
  unfold z2_has at h1
  by_cases c1 : i < 0
  · rw [if_pos c1] at h1; exact absurd rfl h1
  · rw [if_neg c1] at h1
    by_cases c2 : n ≤ i
    · rw [if_pos c2] at h1; exact absurd rfl h1
    · rw [i32_lt] at c1
      rw [i32_le] at c2 b
      have z0 : (0 : Int32).toInt = 0 := by decide
      have z6 : (60 : Int32).toInt = 60 := by decide
      rw [z0] at c1
      rw [z6] at b
      exact ix_row hw (by omega) (by omega) h2 h3
theorem ix_put {w n k : Int32} {L : Nat} (h : sh_ok w L n) (h1 : ¬ 60 ≤ n) (h2 : ¬ k < 0) (h3 : ¬ w ≤ k) : vp_in (n * w + k) L := by
  obtain ⟨hw, a, b⟩ := h
  rw [i32_le] at a h1
  have z0 : (0 : Int32).toInt = 0 := by decide
  have z6 : (60 : Int32).toInt = 60 := by decide
  rw [z0] at a
  rw [z6] at h1
  exact ix_row hw (by omega) (by omega) h2 h3
def z2_get (w : Int32) (n : Int32) (i : Int32) (k : Int32) (f : Nat → Int32) : Int32 := if (z2_has n i) = 0 then 0 else if k < 0 then 0 else if w ≤ k then 0 else f (((i * w) + k).toNatClampNeg)
set_option maxHeartbeats 4000000 in
set_option maxRecDepth 100000 in
/-- X2.get -/
theorem c_X2_get (l : Launch) (D : va_G) (cI cJ : ClassId) (h : Nat) (q : Nat) (L : Nat) (w : Int32) (n : Int32) (i : Int32) (k : Int32) (f : Nat → Int32) (hs : sh_ok w L n) : mr_C l yX2_get wsX2_get ({ frames := 1, cells := 0, slots := 0, locals := 21 }) D cI cJ [.ref h, .int i, .int k] [kS h w q n, kA q cI L f] (vp_Si (fun r : Int32 => r = z2_get w n i k f)) := by
  refine mr_in (cc := cX2_get) (lv := [(0, .ref h), (1, .int i), (2, .int k)]) (by decide) rfl (Nat.le_of_ble_eq_true rfl) rfl ?_
  intro pG eG sG mG below meth cG ls hx hb hr hml hown hts hlk hP hK hl
  have hown : sG.vm.findClass RX2 = some mG.cls := hown
  have k_1 := hts (.fieldLink RX2 9 "ConicRows$Shelf" "width" "I") (by decide +kernel)
  have k_2 : ∀ w ∈ wsX20, w ∈ wsX2_get := by decide +kernel
  have k_3 := hts (.fieldLink RX2 15 "ConicRows$Shelf" "numbers" "[I") (by decide +kernel)
  refine lv_aload_n hx hb dX2_get_0 rfl (lv_at hl 0 rfl) ?_
  refine lv_iload_n hx hb dX2_get_1 rfl (lv_at hl 1 rfl) ?_
  have hPc := hP.sub (ws' := [kS h w q n]) [0] rfl
  refine cr_i (va_runV (As := [.int i]) (rest := []) ⟨hx, hb, hml, hown, hts⟩ (c_X2_has l D cI cJ h q w n i) (cwV 1 hts gX2_get_X2_has rfl rfl rfl (by decide +kernel) ⟨Nat.le_of_ble_eq_true rfl, Nat.le_of_ble_eq_true rfl⟩) ⟨gd_blR, va_recv hK.1 hPc (ci := 2) (q0 := 0) rfl rfl, gd_prR hPc hK⟩ rfl rfl hl.1 rfl (lv_room (Nat.le_of_ble_eq_true rfl)) dX2_get_2 ⟨Nat.zero_le _, Nat.zero_le _⟩) (fun r_2 hw => ?_)
  subst hw
  clear hPc
  refine lv_if_eq (tgt := 36) hx hb dX2_get_5 (by decide) (fun c_1 => ?_) (fun c_1 => ?_)
  · skip
    refine lv_iconst (v := 0) hx hb dX2_get_36 (by decide) ?_
    have he : z2_get w n i k f = 0 := by unfold z2_get; rw [if_pos c_1]
    exact rr_i hx hb hr hlk dX2_get_37 he.symm
  · skip
    refine lv_iload_n hx hb dX2_get_8 rfl (lv_at hl 2 rfl) ?_
    refine lv_if_lt (tgt := 36) hx hb dX2_get_9 (by decide) (fun c_2 => ?_) (fun c_2 => ?_)
    · skip
      refine lv_iconst (v := 0) hx hb dX2_get_36 (by decide) ?_
      have he : z2_get w n i k f = 0 := by unfold z2_get; rw [if_neg c_1, if_pos c_2]
      exact rr_i hx hb hr hlk dX2_get_37 he.symm
    · skip
      refine lv_iload_n hx hb dX2_get_12 rfl (lv_at hl 2 rfl) ?_
      refine lv_aload_n hx hb dX2_get_13 rfl (lv_at hl 0 rfl) ?_
      refine va_get (D := D) (ci := 2) (v := .int w) (C := RX2) (T := TX2) (N := 3) hx hb hts k_2 hown hK.1 hP 0 rfl rfl 0 (by decide) k_1 (fun _ h9 => h9) rfl dX2_get_14 ?_
      refine lv_icmp_ge (tgt := 36) hx hb dX2_get_17 (by decide) (fun c_3 => ?_) (fun c_3 => ?_)
      · skip
        refine lv_iconst (v := 0) hx hb dX2_get_36 (by decide) ?_
        have he : z2_get w n i k f = 0 := by unfold z2_get; rw [if_neg c_1, if_neg c_2, if_pos c_3]
        exact rr_i hx hb hr hlk dX2_get_37 he.symm
      · skip
        refine lv_aload_n hx hb dX2_get_20 rfl (lv_at hl 0 rfl) ?_
        refine va_get (D := D) (ci := 2) (v := .ref q) (C := RX2) (T := TX2) (N := 3) hx hb hts k_2 hown hK.1 hP 0 rfl rfl 1 (by decide) k_3 (fun _ h9 => h9) rfl dX2_get_21 ?_
        refine lv_iload_n hx hb dX2_get_24 rfl (lv_at hl 1 rfl) ?_
        refine lv_aload_n hx hb dX2_get_25 rfl (lv_at hl 0 rfl) ?_
        refine va_get (D := D) (ci := 2) (v := .int w) (C := RX2) (T := TX2) (N := 3) hx hb hts k_2 hown hK.1 hP 0 rfl rfl 0 (by decide) k_1 (fun _ h9 => h9) rfl dX2_get_26 ?_
        refine lv_imul hx hb dX2_get_29 ?_
        refine lv_iload_n hx hb dX2_get_30 rfl (lv_at hl 2 rfl) ?_
        refine lv_iadd hx hb dX2_get_31 ?_
        refine ld_i hx hb hK.1 hP 1 0 rfl rfl (ix_get hs c_1 c_2 c_3) (((i * w) + k).toNatClampNeg) rfl (v := f (((i * w) + k).toNatClampNeg)) rfl dX2_get_32 ?_
        refine lv_goto (tgt := 37) hx hb dX2_get_33 (by decide) ?_
        have he : z2_get w n i k f = f (((i * w) + k).toNatClampNeg) := by unfold z2_get; rw [if_neg c_1, if_neg c_2, if_neg c_3]
        exact rr_i hx hb hr hlk dX2_get_37 he.symm
def z2_put (w : Int32) (n : Int32) (k : Int32) (f : Nat → Int32) (x : Int64) : (Nat → Int32) := if 60 ≤ n then f else if k < 0 then f else if w ≤ k then f else upd f (((n * w) + k).toNatClampNeg) x.toInt32
set_option maxHeartbeats 4000000 in
set_option maxRecDepth 100000 in
/-- X2.put -/
theorem c_X2_put (l : Launch) (D : va_G) (cI cJ : ClassId) (h : Nat) (q : Nat) (L : Nat) (w : Int32) (n : Int32) (k : Int32) (f : Nat → Int32) (x : Int64) (hs : sh_ok w L n) : mw_C l yX2_put wsX2_put ({ frames := 0, cells := 0, slots := 0, locals := 0 }) D cI cJ [.ref h, .int k, .long x] [kS h w q n, kA q cI L f] (qe_v (fun _ : Unit => True) (fun uu => [kS h w q n, kA q cI L (z2_put w n k f x)])) := by
  refine mw_in (cc := cX2_put) (lv := [(0, .ref h), (1, .int k), (2, .long x)]) (by decide) rfl (Nat.le_of_ble_eq_true rfl) rfl ?_
  intro pG eG sG mG below meth cG ls A hx hb hr hml hown hts hlk hin hP hK hD hA hS hl
  have hown : sG.vm.findClass RX2 = some mG.cls := hown
  have k_1 := hts (.fieldLink RX2 19 "ConicRows$Shelf" "size" "I") (by decide +kernel)
  have k_2 : ∀ w ∈ wsX20, w ∈ wsX2_put := by decide +kernel
  have k_3 := hts (.fieldLink RX2 9 "ConicRows$Shelf" "width" "I") (by decide +kernel)
  have k_4 := hts (.fieldLink RX2 15 "ConicRows$Shelf" "numbers" "[I") (by decide +kernel)
  refine lv_aload_n hx hb dX2_put_0 rfl (lv_at hl 0 rfl) ?_
  refine va_get (D := D) (ci := 2) (v := .int n) (C := RX2) (T := TX2) (N := 3) hx hb hts k_2 hown hK.1 hP 0 rfl rfl 2 (by decide) k_1 (fun _ h9 => h9) rfl dX2_put_1 ?_
  refine lv_bipush (v := 60) hx hb dX2_put_4 (by decide) ?_
  refine lv_icmp_ge (tgt := 39) hx hb dX2_put_6 (by decide) (fun c_1 => ?_) (fun c_1 => ?_)
  · skip
    have he : z2_put w n k f x = f := by unfold z2_put; rw [if_pos c_1]
    exact rt_v (w1 := fun uu : Unit => [kS h w q n, kA q cI L (z2_put w n k f x)]) hx hb hr hlk hS dX2_put_39 (()) trivial (by rw [he]; exact hP) (by rw [he]; exact hD)
  · skip
    refine lv_iload_n hx hb dX2_put_9 rfl (lv_at hl 1 rfl) ?_
    refine lv_if_lt (tgt := 39) hx hb dX2_put_10 (by decide) (fun c_2 => ?_) (fun c_2 => ?_)
    · skip
      have he : z2_put w n k f x = f := by unfold z2_put; rw [if_neg c_1, if_pos c_2]
      exact rt_v (w1 := fun uu : Unit => [kS h w q n, kA q cI L (z2_put w n k f x)]) hx hb hr hlk hS dX2_put_39 (()) trivial (by rw [he]; exact hP) (by rw [he]; exact hD)
    · skip
      refine lv_iload_n hx hb dX2_put_13 rfl (lv_at hl 1 rfl) ?_
      refine lv_aload_n hx hb dX2_put_14 rfl (lv_at hl 0 rfl) ?_
      refine va_get (D := D) (ci := 2) (v := .int w) (C := RX2) (T := TX2) (N := 3) hx hb hts k_2 hown hK.1 hP 0 rfl rfl 0 (by decide) k_3 (fun _ h9 => h9) rfl dX2_put_15 ?_
      refine lv_icmp_ge (tgt := 39) hx hb dX2_put_18 (by decide) (fun c_3 => ?_) (fun c_3 => ?_)
      · skip
        have he : z2_put w n k f x = f := by unfold z2_put; rw [if_neg c_1, if_neg c_2, if_pos c_3]
        exact rt_v (w1 := fun uu : Unit => [kS h w q n, kA q cI L (z2_put w n k f x)]) hx hb hr hlk hS dX2_put_39 (()) trivial (by rw [he]; exact hP) (by rw [he]; exact hD)
      · skip
        refine lv_aload_n hx hb dX2_put_21 rfl (lv_at hl 0 rfl) ?_
        refine va_get (D := D) (ci := 2) (v := .ref q) (C := RX2) (T := TX2) (N := 3) hx hb hts k_2 hown hK.1 hP 0 rfl rfl 1 (by decide) k_4 (fun _ h9 => h9) rfl dX2_put_22 ?_
        refine lv_aload_n hx hb dX2_put_25 rfl (lv_at hl 0 rfl) ?_
        refine va_get (D := D) (ci := 2) (v := .int n) (C := RX2) (T := TX2) (N := 3) hx hb hts k_2 hown hK.1 hP 0 rfl rfl 2 (by decide) k_1 (fun _ h9 => h9) rfl dX2_put_26 ?_
        refine lv_aload_n hx hb dX2_put_29 rfl (lv_at hl 0 rfl) ?_
        refine va_get (D := D) (ci := 2) (v := .int w) (C := RX2) (T := TX2) (N := 3) hx hb hts k_2 hown hK.1 hP 0 rfl rfl 0 (by decide) k_3 (fun _ h9 => h9) rfl dX2_put_30 ?_
        refine lv_imul hx hb dX2_put_33 ?_
        refine lv_iload_n hx hb dX2_put_34 rfl (lv_at hl 1 rfl) ?_
        refine lv_iadd hx hb dX2_put_35 ?_
        refine lv_lload_n hx hb dX2_put_36 rfl (lv_at hl 2 rfl) ?_
        refine lv_l2i hx hb dX2_put_37 rfl ?_
        refine st_i hx hb hK.1 hP hD hS 1 0 rfl rfl (ix_put hs c_1 c_2 c_3) (((n * w) + k).toNatClampNeg) rfl dX2_put_38 (fun H locs hP hD hS => ?_)
        have hP : va_P D vwCl [kS h w q n, kA q cI L (upd f (((n * w) + k).toNatClampNeg) x.toInt32)] H := hP
        have hD : va_D A [kS h w q n, kA q cI L (upd f (((n * w) + k).toNatClampNeg) x.toInt32)] := hD
        have he : z2_put w n k f x = upd f (((n * w) + k).toNatClampNeg) x.toInt32 := by unfold z2_put; rw [if_neg c_1, if_neg c_2, if_neg c_3]
        exact rt_v (w1 := fun uu : Unit => [kS h w q n, kA q cI L (z2_put w n k f x)]) hx hb hr hlk hS dX2_put_39 (()) trivial (by rw [he]; exact hP) (by rw [he]; exact hD)
def z2_close (n : Int32) : Int32 × Int32 := if n < 60 then ((n + 1) - 1, n + 1) else ((-1000005), n)
set_option maxHeartbeats 4000000 in
set_option maxRecDepth 100000 in
/-- X2.close -/
theorem c_X2_close (l : Launch) (D : va_G) (cI cJ : ClassId) (h : Nat) (q : Nat) (w : Int32) (n : Int32) : mw_C l yX2_close wsX2_close ({ frames := 0, cells := 0, slots := 0, locals := 0 }) D cI cJ [.ref h] [kS h w q n] (qe_i (fun (r : Int32) (_ : Unit) => r = (z2_close n).1) (fun uu => [kS h w q ((z2_close n).2)])) := by
  refine mw_in (cc := cX2_close) (lv := [(0, .ref h)]) (by decide) rfl (Nat.le_of_ble_eq_true rfl) rfl ?_
  intro pG eG sG mG below meth cG ls A hx hb hr hml hown hts hlk hin hP hK hD hA hS hl
  have hown : sG.vm.findClass RX2 = some mG.cls := hown
  have k_1 := hts (.fieldLink RX2 19 "ConicRows$Shelf" "size" "I") (by decide +kernel)
  have k_2 : ∀ w ∈ wsX20, w ∈ wsX2_close := by decide +kernel
  have k_3 := hts (.constant RX2 82 (-1000005)) (by decide +kernel)
  refine lv_aload_n hx hb dX2_close_0 rfl (lv_at hl 0 rfl) ?_
  refine va_get (D := D) (ci := 2) (v := .int n) (C := RX2) (T := TX2) (N := 3) hx hb hts k_2 hown hK.1 hP 0 rfl rfl 2 (by decide) k_1 (fun _ h9 => h9) rfl dX2_close_1 ?_
  refine lv_bipush (v := 60) hx hb dX2_close_4 (by decide) ?_
  refine lv_icmp_lt (tgt := 12) hx hb dX2_close_6 (by decide) (fun c_1 => ?_) (fun c_1 => ?_)
  · skip
    refine lv_aload_n hx hb dX2_close_12 rfl (lv_at hl 0 rfl) ?_
    refine lv_dup hx hb dX2_close_13 rfl ?_
    refine va_get (D := D) (ci := 2) (v := .int n) (C := RX2) (T := TX2) (N := 3) hx hb hts k_2 hown hK.1 hP 0 rfl rfl 2 (by decide) k_1 (fun _ h9 => h9) rfl dX2_close_14 ?_
    refine lv_iconst (v := 1) hx hb dX2_close_17 (by decide) ?_
    refine lv_iadd hx hb dX2_close_18 ?_
    refine va_put (D := D) (ci := 2) (v := .int (n + 1)) (ty := .int) (C := RX2) (T := TX2) (N := 3) hx hb hts k_2 tyX2 tyX2_ok nmX2 hown hK.1 hP hD hS 0 rfl rfl 2 (by decide) k_1 (fun _ h9 => h9) rfl (by decide +kernel) rfl rfl (Nat.le_of_ble_eq_true rfl) dX2_close_19 (fun H locs hP hD hS => ?_)
    have hP : va_P D vwCl [kS h w q (n + 1)] H := hP
    have hD : va_D A [kS h w q (n + 1)] := hD
    refine lv_aload_n hx hb dX2_close_22 rfl (lv_at hl 0 rfl) ?_
    refine va_get (D := D) (ci := 2) (v := .int (n + 1)) (C := RX2) (T := TX2) (N := 3) hx hb hts k_2 hown hK.1 hP 0 rfl rfl 2 (by decide) k_1 (fun _ h9 => h9) rfl dX2_close_23 ?_
    refine lv_iconst (v := 1) hx hb dX2_close_26 (by decide) ?_
    refine lv_isub hx hb dX2_close_27 ?_
    have he : z2_close n = ((n + 1) - 1, n + 1) := by unfold z2_close; rw [if_pos c_1]
    have he_0 : (z2_close n).1 = (n + 1) - 1 := by rw [he]
    have he_1 : (z2_close n).2 = n + 1 := by rw [he]
    exact rt_i (w1 := fun uu : Unit => [kS h w q ((z2_close n).2)]) hx hb hr hlk hS dX2_close_28 (()) he_0.symm (by rw [he_1]; exact hP) (by rw [he_1]; exact hD)
  · skip
    refine lv_ldc hx hb hown k_3 dX2_close_9 ?_
    have he : z2_close n = ((-1000005), n) := by unfold z2_close; rw [if_neg c_1]
    have he_0 : (z2_close n).1 = (-1000005) := by rw [he]
    have he_1 : (z2_close n).2 = n := by rw [he]
    exact rt_i (w1 := fun uu : Unit => [kS h w q ((z2_close n).2)]) hx hb hr hlk hS dX2_close_11 (()) he_0.symm (by rw [he_1]; exact hP) (by rw [he_1]; exact hD)
def z3_read_x (w : Int32) (n : Int32) (i : Int32) (f : Nat → Int32) : Int64 := ((z2_get w n i 0 f).toInt64)
def z3_read_y (w : Int32) (n : Int32) (i : Int32) (f : Nat → Int32) : Int64 := ((z2_get w n i 1 f).toInt64)
def z3_read_z (w : Int32) (n : Int32) (i : Int32) (f : Nat → Int32) : Int64 := ((z2_get w n i 2 f).toInt64)
set_option maxHeartbeats 4000000 in
set_option maxRecDepth 100000 in
/-- X3.read -/
theorem c_X3_read (l : Launch) (D : va_G) (cI cJ : ClassId) (h : Nat) (g : Nat) (q : Nat) (L : Nat) (x : Int64) (y : Int64) (z : Int64) (w : Int32) (n : Int32) (i : Int32) (f : Nat → Int32) (hs : sh_ok w L n) : mw_C l yX3_read wsX3_read ({ frames := 2, cells := 0, slots := 0, locals := 43 }) D cI cJ [.ref h, .ref g, .int i] [kT h x y z, kS g w q n, kA q cI L f] (qe_v (fun _ : Unit => True) (fun uu => [kT h (z3_read_x w n i f) (z3_read_y w n i f) (z3_read_z w n i f), kS g w q n, kA q cI L f])) := by
  refine mw_in (cc := cX3_read) (lv := [(0, .ref h), (1, .ref g), (2, .int i)]) (by decide) rfl (Nat.le_of_ble_eq_true rfl) rfl ?_
  intro pG eG sG mG below meth cG ls A hx hb hr hml hown hts hlk hin hP hK hD hA hS hl
  have hown : sG.vm.findClass RX3 = some mG.cls := hown
  refine lv_aload_n hx hb dX3_read_0 rfl (lv_at hl 0 rfl) ?_
  refine lv_aload_n hx hb dX3_read_1 rfl (lv_at hl 1 rfl) ?_
  refine lv_iload_n hx hb dX3_read_2 rfl (lv_at hl 2 rfl) ?_
  refine lv_iconst (v := 0) hx hb dX3_read_3 (by decide) ?_
  have hPc := hP.sub (ws' := [kS g w q n, kA q cI L f]) [1, 2] rfl
  refine cr_i (va_runV (As := [.int i, .int 0]) (rest := [.ref h]) ⟨hx, hb, hml, hown, hts⟩ (c_X2_get l D cI cJ g q L w n i 0 f hs) (cwV 2 hts gX3_read_X2_get rfl rfl rfl (by decide +kernel) ⟨Nat.le_of_ble_eq_true rfl, Nat.le_of_ble_eq_true rfl⟩) ⟨gd_blR, va_recv hK.1 hPc (ci := 2) (q0 := 0) rfl rfl, gd_prR hPc hK⟩ rfl rfl hl.1 rfl (lv_room (Nat.le_of_ble_eq_true rfl)) dX3_read_4 ⟨Nat.zero_le _, Nat.zero_le _⟩) (fun r_4 hw => ?_)
  subst hw
  clear hPc
  refine lv_i2l hx hb dX3_read_7 rfl ?_
  refine lv_aload_n hx hb dX3_read_8 rfl (lv_at hl 1 rfl) ?_
  refine lv_iload_n hx hb dX3_read_9 rfl (lv_at hl 2 rfl) ?_
  refine lv_iconst (v := 1) hx hb dX3_read_10 (by decide) ?_
  have hPc := hP.sub (ws' := [kS g w q n, kA q cI L f]) [1, 2] rfl
  refine cr_i (va_runV (As := [.int i, .int 1]) (rest := [.long ((z2_get w n i 0 f).toInt64), .ref h]) ⟨hx, hb, hml, hown, hts⟩ (c_X2_get l D cI cJ g q L w n i 1 f hs) (cwV 2 hts gX3_read_X2_get rfl rfl rfl (by decide +kernel) ⟨Nat.le_of_ble_eq_true rfl, Nat.le_of_ble_eq_true rfl⟩) ⟨gd_blR, va_recv hK.1 hPc (ci := 2) (q0 := 0) rfl rfl, gd_prR hPc hK⟩ rfl rfl hl.1 rfl (lv_room (Nat.le_of_ble_eq_true rfl)) dX3_read_11 ⟨Nat.zero_le _, Nat.zero_le _⟩) (fun r_11 hw => ?_)
  subst hw
  clear hPc
  refine lv_i2l hx hb dX3_read_14 rfl ?_
  refine lv_aload_n hx hb dX3_read_15 rfl (lv_at hl 1 rfl) ?_
  refine lv_iload_n hx hb dX3_read_16 rfl (lv_at hl 2 rfl) ?_
  refine lv_iconst (v := 2) hx hb dX3_read_17 (by decide) ?_
  have hPc := hP.sub (ws' := [kS g w q n, kA q cI L f]) [1, 2] rfl
  refine cr_i (va_runV (As := [.int i, .int 2]) (rest := [.long ((z2_get w n i 1 f).toInt64), .long ((z2_get w n i 0 f).toInt64), .ref h]) ⟨hx, hb, hml, hown, hts⟩ (c_X2_get l D cI cJ g q L w n i 2 f hs) (cwV 2 hts gX3_read_X2_get rfl rfl rfl (by decide +kernel) ⟨Nat.le_of_ble_eq_true rfl, Nat.le_of_ble_eq_true rfl⟩) ⟨gd_blR, va_recv hK.1 hPc (ci := 2) (q0 := 0) rfl rfl, gd_prR hPc hK⟩ rfl rfl hl.1 rfl (lv_room (Nat.le_of_ble_eq_true rfl)) dX3_read_18 ⟨Nat.zero_le _, Nat.zero_le _⟩) (fun r_18 hw => ?_)
  subst hw
  clear hPc
  refine lv_i2l hx hb dX3_read_21 rfl ?_
  have hPc := hP.sub (ws' := [kT h x y z]) [0] rfl
  have hDc := hD.sub (ws' := [kT h x y z]) [0] (by decide) rfl
  refine cl_v (wc := [kT h x y z]) (wr := [kS g w q n, kA q cI L f]) (w1 := fun uu : Unit => [kT h ((z2_get w n i 0 f).toInt64) ((z2_get w n i 1 f).toInt64) ((z2_get w n i 2 f).toInt64)]) (wn := fun uu : Unit => [kT h ((z2_get w n i 0 f).toInt64) ((z2_get w n i 1 f).toInt64) ((z2_get w n i 2 f).toInt64), kS g w q n, kA q cI L f]) (va_runV (As := [.long ((z2_get w n i 0 f).toInt64), .long ((z2_get w n i 1 f).toInt64), .long ((z2_get w n i 2 f).toInt64)]) (rest := []) ⟨hx, hb, hml, hown, hts⟩ (c_X3_set l D cI cJ h x y z ((z2_get w n i 0 f).toInt64) ((z2_get w n i 1 f).toInt64) ((z2_get w n i 2 f).toInt64) _) (cwV 3 hts gX3_read_X3_set rfl rfl rfl (by decide +kernel) ⟨Nat.le_of_ble_eq_true rfl, Nat.le_of_ble_eq_true rfl⟩) ⟨gd_blP, va_recv hK.1 hPc (ci := 3) (q0 := 0) rfl rfl, gd_prP hPc hK hDc⟩ rfl rfl hl.1 rfl (lv_room (Nat.le_of_ble_eq_true rfl)) dX3_read_22 ⟨Nat.zero_le _, Nat.zero_le _⟩) hP hD hS hA [0] [1, 2] rfl rfl (by decide) (by decide) [2, 0, 1] (by decide) (fun _ => rfl) (fun uG H locs hw hP hD hS => ?_)
  have hP : va_P D vwCl [kT h ((z2_get w n i 0 f).toInt64) ((z2_get w n i 1 f).toInt64) ((z2_get w n i 2 f).toInt64), kS g w q n, kA q cI L f] H := hP
  have hD : va_D A [kT h ((z2_get w n i 0 f).toInt64) ((z2_get w n i 1 f).toInt64) ((z2_get w n i 2 f).toInt64), kS g w q n, kA q cI L f] := hD
  clear hPc hDc
  have he_0 : z3_read_x w n i f = ((z2_get w n i 0 f).toInt64) := by delta z3_read_x; rfl
  have he_1 : z3_read_y w n i f = ((z2_get w n i 1 f).toInt64) := by delta z3_read_y; rfl
  have he_2 : z3_read_z w n i f = ((z2_get w n i 2 f).toInt64) := by delta z3_read_z; rfl
  exact rt_v (w1 := fun uu : Unit => [kT h (z3_read_x w n i f) (z3_read_y w n i f) (z3_read_z w n i f), kS g w q n, kA q cI L f]) hx hb hr hlk hS dX3_read_25 (()) trivial (by rw [he_0, he_1, he_2]; exact hP) (by rw [he_0, he_1, he_2]; exact hD)
def z0_read_a (w : Int32) (n : Int32) (i : Int32) (f : Nat → Int32) : Int64 := ((z2_get w n i 0 f).toInt64)
def z0_read_b (w : Int32) (n : Int32) (i : Int32) (f : Nat → Int32) : Int64 := ((z2_get w n i 1 f).toInt64)
def z0_read_c (w : Int32) (n : Int32) (i : Int32) (f : Nat → Int32) : Int64 := ((z2_get w n i 2 f).toInt64)
def z0_read_d (w : Int32) (n : Int32) (i : Int32) (f : Nat → Int32) : Int64 := ((z2_get w n i 3 f).toInt64)
def z0_read_e (w : Int32) (n : Int32) (i : Int32) (f : Nat → Int32) : Int64 := ((z2_get w n i 4 f).toInt64)
def z0_read_f (w : Int32) (n : Int32) (i : Int32) (f : Nat → Int32) : Int64 := ((z2_get w n i 5 f).toInt64)
set_option maxHeartbeats 4000000 in
set_option maxRecDepth 100000 in
/-- X0.read -/
theorem c_X0_read (l : Launch) (D : va_G) (cI cJ : ClassId) (h : Nat) (g : Nat) (q : Nat) (L : Nat) (r : Int64) (s : Int64) (t : Int64) (u : Int64) (v : Int64) (x : Int64) (w : Int32) (n : Int32) (i : Int32) (f : Nat → Int32) (hs : sh_ok w L n) : mw_C l yX0_read wsX0_read ({ frames := 2, cells := 0, slots := 0, locals := 43 }) D cI cJ [.ref h, .ref g, .int i] [kF h r s t u v x, kS g w q n, kA q cI L f] (qe_v (fun _ : Unit => True) (fun uu => [kF h (z0_read_a w n i f) (z0_read_b w n i f) (z0_read_c w n i f) (z0_read_d w n i f) (z0_read_e w n i f) (z0_read_f w n i f), kS g w q n, kA q cI L f])) := by
  refine mw_in (cc := cX0_read) (lv := [(0, .ref h), (1, .ref g), (2, .int i)]) (by decide) rfl (Nat.le_of_ble_eq_true rfl) rfl ?_
  intro pG eG sG mG below meth cG ls A hx hb hr hml hown hts hlk hin hP hK hD hA hS hl
  have hown : sG.vm.findClass RX0 = some mG.cls := hown
  refine lv_aload_n hx hb dX0_read_0 rfl (lv_at hl 0 rfl) ?_
  refine lv_aload_n hx hb dX0_read_1 rfl (lv_at hl 1 rfl) ?_
  refine lv_iload_n hx hb dX0_read_2 rfl (lv_at hl 2 rfl) ?_
  refine lv_iconst (v := 0) hx hb dX0_read_3 (by decide) ?_
  have hPc := hP.sub (ws' := [kS g w q n, kA q cI L f]) [1, 2] rfl
  refine cr_i (va_runV (As := [.int i, .int 0]) (rest := [.ref h]) ⟨hx, hb, hml, hown, hts⟩ (c_X2_get l D cI cJ g q L w n i 0 f hs) (cwV 2 hts gX0_read_X2_get rfl rfl rfl (by decide +kernel) ⟨Nat.le_of_ble_eq_true rfl, Nat.le_of_ble_eq_true rfl⟩) ⟨gd_blR, va_recv hK.1 hPc (ci := 2) (q0 := 0) rfl rfl, gd_prR hPc hK⟩ rfl rfl hl.1 rfl (lv_room (Nat.le_of_ble_eq_true rfl)) dX0_read_4 ⟨Nat.zero_le _, Nat.zero_le _⟩) (fun r_4 hw => ?_)
  subst hw
  clear hPc
  refine lv_i2l hx hb dX0_read_7 rfl ?_
  refine lv_aload_n hx hb dX0_read_8 rfl (lv_at hl 1 rfl) ?_
  refine lv_iload_n hx hb dX0_read_9 rfl (lv_at hl 2 rfl) ?_
  refine lv_iconst (v := 1) hx hb dX0_read_10 (by decide) ?_
  have hPc := hP.sub (ws' := [kS g w q n, kA q cI L f]) [1, 2] rfl
  refine cr_i (va_runV (As := [.int i, .int 1]) (rest := [.long ((z2_get w n i 0 f).toInt64), .ref h]) ⟨hx, hb, hml, hown, hts⟩ (c_X2_get l D cI cJ g q L w n i 1 f hs) (cwV 2 hts gX0_read_X2_get rfl rfl rfl (by decide +kernel) ⟨Nat.le_of_ble_eq_true rfl, Nat.le_of_ble_eq_true rfl⟩) ⟨gd_blR, va_recv hK.1 hPc (ci := 2) (q0 := 0) rfl rfl, gd_prR hPc hK⟩ rfl rfl hl.1 rfl (lv_room (Nat.le_of_ble_eq_true rfl)) dX0_read_11 ⟨Nat.zero_le _, Nat.zero_le _⟩) (fun r_11 hw => ?_)
  subst hw
  clear hPc
  refine lv_i2l hx hb dX0_read_14 rfl ?_
  refine lv_aload_n hx hb dX0_read_15 rfl (lv_at hl 1 rfl) ?_
  refine lv_iload_n hx hb dX0_read_16 rfl (lv_at hl 2 rfl) ?_
  refine lv_iconst (v := 2) hx hb dX0_read_17 (by decide) ?_
  have hPc := hP.sub (ws' := [kS g w q n, kA q cI L f]) [1, 2] rfl
  refine cr_i (va_runV (As := [.int i, .int 2]) (rest := [.long ((z2_get w n i 1 f).toInt64), .long ((z2_get w n i 0 f).toInt64), .ref h]) ⟨hx, hb, hml, hown, hts⟩ (c_X2_get l D cI cJ g q L w n i 2 f hs) (cwV 2 hts gX0_read_X2_get rfl rfl rfl (by decide +kernel) ⟨Nat.le_of_ble_eq_true rfl, Nat.le_of_ble_eq_true rfl⟩) ⟨gd_blR, va_recv hK.1 hPc (ci := 2) (q0 := 0) rfl rfl, gd_prR hPc hK⟩ rfl rfl hl.1 rfl (lv_room (Nat.le_of_ble_eq_true rfl)) dX0_read_18 ⟨Nat.zero_le _, Nat.zero_le _⟩) (fun r_18 hw => ?_)
  subst hw
  clear hPc
  refine lv_i2l hx hb dX0_read_21 rfl ?_
  have hPc := hP.sub (ws' := [kF h r s t u v x]) [0] rfl
  have hDc := hD.sub (ws' := [kF h r s t u v x]) [0] (by decide) rfl
  refine cl_v (wc := [kF h r s t u v x]) (wr := [kS g w q n, kA q cI L f]) (w1 := fun uu : Unit => [kF h ((z2_get w n i 0 f).toInt64) ((z2_get w n i 1 f).toInt64) ((z2_get w n i 2 f).toInt64) u v x]) (wn := fun uu : Unit => [kF h ((z2_get w n i 0 f).toInt64) ((z2_get w n i 1 f).toInt64) ((z2_get w n i 2 f).toInt64) u v x, kS g w q n, kA q cI L f]) (va_runV (As := [.long ((z2_get w n i 0 f).toInt64), .long ((z2_get w n i 1 f).toInt64), .long ((z2_get w n i 2 f).toInt64)]) (rest := []) ⟨hx, hb, hml, hown, hts⟩ (c_X0_setQuadratic l D cI cJ h r s t u v x ((z2_get w n i 0 f).toInt64) ((z2_get w n i 1 f).toInt64) ((z2_get w n i 2 f).toInt64) _) (cwV 3 hts gX0_read_X0_setQuadratic rfl rfl rfl (by decide +kernel) ⟨Nat.le_of_ble_eq_true rfl, Nat.le_of_ble_eq_true rfl⟩) ⟨gd_blP, va_recv hK.1 hPc (ci := 0) (q0 := 0) rfl rfl, gd_prP hPc hK hDc⟩ rfl rfl hl.1 rfl (lv_room (Nat.le_of_ble_eq_true rfl)) dX0_read_22 ⟨Nat.zero_le _, Nat.zero_le _⟩) hP hD hS hA [0] [1, 2] rfl rfl (by decide) (by decide) [2, 0, 1] (by decide) (fun _ => rfl) (fun uG H locs hw hP hD hS => ?_)
  have hP : va_P D vwCl [kF h ((z2_get w n i 0 f).toInt64) ((z2_get w n i 1 f).toInt64) ((z2_get w n i 2 f).toInt64) u v x, kS g w q n, kA q cI L f] H := hP
  have hD : va_D A [kF h ((z2_get w n i 0 f).toInt64) ((z2_get w n i 1 f).toInt64) ((z2_get w n i 2 f).toInt64) u v x, kS g w q n, kA q cI L f] := hD
  clear hPc hDc
  refine lv_aload_n hx hb dX0_read_25 rfl (lv_at hl 0 rfl) ?_
  refine lv_aload_n hx hb dX0_read_26 rfl (lv_at hl 1 rfl) ?_
  refine lv_iload_n hx hb dX0_read_27 rfl (lv_at hl 2 rfl) ?_
  refine lv_iconst (v := 3) hx hb dX0_read_28 (by decide) ?_
  have hPc := hP.sub (ws' := [kS g w q n, kA q cI L f]) [1, 2] rfl
  refine cr_i (va_runV (As := [.int i, .int 3]) (rest := [.ref h]) ⟨hx, hb, hml, hown, hts⟩ (c_X2_get l D cI cJ g q L w n i 3 f hs) (cwV 2 hts gX0_read_X2_get rfl rfl rfl (by decide +kernel) ⟨Nat.le_of_ble_eq_true rfl, Nat.le_of_ble_eq_true rfl⟩) ⟨gd_blR, va_recv hK.1 hPc (ci := 2) (q0 := 0) rfl rfl, gd_prR hPc hK⟩ rfl rfl hl.1 rfl (lv_room (Nat.le_of_ble_eq_true rfl)) dX0_read_29 ⟨Nat.zero_le _, Nat.zero_le _⟩) (fun r_29 hw => ?_)
  subst hw
  clear hPc
  refine lv_i2l hx hb dX0_read_32 rfl ?_
  refine lv_aload_n hx hb dX0_read_33 rfl (lv_at hl 1 rfl) ?_
  refine lv_iload_n hx hb dX0_read_34 rfl (lv_at hl 2 rfl) ?_
  refine lv_iconst (v := 4) hx hb dX0_read_35 (by decide) ?_
  have hPc := hP.sub (ws' := [kS g w q n, kA q cI L f]) [1, 2] rfl
  refine cr_i (va_runV (As := [.int i, .int 4]) (rest := [.long ((z2_get w n i 3 f).toInt64), .ref h]) ⟨hx, hb, hml, hown, hts⟩ (c_X2_get l D cI cJ g q L w n i 4 f hs) (cwV 2 hts gX0_read_X2_get rfl rfl rfl (by decide +kernel) ⟨Nat.le_of_ble_eq_true rfl, Nat.le_of_ble_eq_true rfl⟩) ⟨gd_blR, va_recv hK.1 hPc (ci := 2) (q0 := 0) rfl rfl, gd_prR hPc hK⟩ rfl rfl hl.1 rfl (lv_room (Nat.le_of_ble_eq_true rfl)) dX0_read_36 ⟨Nat.zero_le _, Nat.zero_le _⟩) (fun r_36 hw => ?_)
  subst hw
  clear hPc
  refine lv_i2l hx hb dX0_read_39 rfl ?_
  refine lv_aload_n hx hb dX0_read_40 rfl (lv_at hl 1 rfl) ?_
  refine lv_iload_n hx hb dX0_read_41 rfl (lv_at hl 2 rfl) ?_
  refine lv_iconst (v := 5) hx hb dX0_read_42 (by decide) ?_
  have hPc := hP.sub (ws' := [kS g w q n, kA q cI L f]) [1, 2] rfl
  refine cr_i (va_runV (As := [.int i, .int 5]) (rest := [.long ((z2_get w n i 4 f).toInt64), .long ((z2_get w n i 3 f).toInt64), .ref h]) ⟨hx, hb, hml, hown, hts⟩ (c_X2_get l D cI cJ g q L w n i 5 f hs) (cwV 2 hts gX0_read_X2_get rfl rfl rfl (by decide +kernel) ⟨Nat.le_of_ble_eq_true rfl, Nat.le_of_ble_eq_true rfl⟩) ⟨gd_blR, va_recv hK.1 hPc (ci := 2) (q0 := 0) rfl rfl, gd_prR hPc hK⟩ rfl rfl hl.1 rfl (lv_room (Nat.le_of_ble_eq_true rfl)) dX0_read_43 ⟨Nat.zero_le _, Nat.zero_le _⟩) (fun r_43 hw => ?_)
  subst hw
  clear hPc
  refine lv_i2l hx hb dX0_read_46 rfl ?_
  have hPc := hP.sub (ws' := [kF h ((z2_get w n i 0 f).toInt64) ((z2_get w n i 1 f).toInt64) ((z2_get w n i 2 f).toInt64) u v x]) [0] rfl
  have hDc := hD.sub (ws' := [kF h ((z2_get w n i 0 f).toInt64) ((z2_get w n i 1 f).toInt64) ((z2_get w n i 2 f).toInt64) u v x]) [0] (by decide) rfl
  refine cl_v (wc := [kF h ((z2_get w n i 0 f).toInt64) ((z2_get w n i 1 f).toInt64) ((z2_get w n i 2 f).toInt64) u v x]) (wr := [kS g w q n, kA q cI L f]) (w1 := fun uu : Unit => [kF h ((z2_get w n i 0 f).toInt64) ((z2_get w n i 1 f).toInt64) ((z2_get w n i 2 f).toInt64) ((z2_get w n i 3 f).toInt64) ((z2_get w n i 4 f).toInt64) ((z2_get w n i 5 f).toInt64)]) (wn := fun uu : Unit => [kF h ((z2_get w n i 0 f).toInt64) ((z2_get w n i 1 f).toInt64) ((z2_get w n i 2 f).toInt64) ((z2_get w n i 3 f).toInt64) ((z2_get w n i 4 f).toInt64) ((z2_get w n i 5 f).toInt64), kS g w q n, kA q cI L f]) (va_runV (As := [.long ((z2_get w n i 3 f).toInt64), .long ((z2_get w n i 4 f).toInt64), .long ((z2_get w n i 5 f).toInt64)]) (rest := []) ⟨hx, hb, hml, hown, hts⟩ (c_X0_setRest l D cI cJ h ((z2_get w n i 0 f).toInt64) ((z2_get w n i 1 f).toInt64) ((z2_get w n i 2 f).toInt64) u v x ((z2_get w n i 3 f).toInt64) ((z2_get w n i 4 f).toInt64) ((z2_get w n i 5 f).toInt64) _) (cwV 3 hts gX0_read_X0_setRest rfl rfl rfl (by decide +kernel) ⟨Nat.le_of_ble_eq_true rfl, Nat.le_of_ble_eq_true rfl⟩) ⟨gd_blP, va_recv hK.1 hPc (ci := 0) (q0 := 0) rfl rfl, gd_prP hPc hK hDc⟩ rfl rfl hl.1 rfl (lv_room (Nat.le_of_ble_eq_true rfl)) dX0_read_47 ⟨Nat.zero_le _, Nat.zero_le _⟩) hP hD hS hA [0] [1, 2] rfl rfl (by decide) (by decide) [2, 0, 1] (by decide) (fun _ => rfl) (fun uG H locs hw hP hD hS => ?_)
  have hP : va_P D vwCl [kF h ((z2_get w n i 0 f).toInt64) ((z2_get w n i 1 f).toInt64) ((z2_get w n i 2 f).toInt64) ((z2_get w n i 3 f).toInt64) ((z2_get w n i 4 f).toInt64) ((z2_get w n i 5 f).toInt64), kS g w q n, kA q cI L f] H := hP
  have hD : va_D A [kF h ((z2_get w n i 0 f).toInt64) ((z2_get w n i 1 f).toInt64) ((z2_get w n i 2 f).toInt64) ((z2_get w n i 3 f).toInt64) ((z2_get w n i 4 f).toInt64) ((z2_get w n i 5 f).toInt64), kS g w q n, kA q cI L f] := hD
  clear hPc hDc
  have he_0 : z0_read_a w n i f = ((z2_get w n i 0 f).toInt64) := by delta z0_read_a; rfl
  have he_1 : z0_read_b w n i f = ((z2_get w n i 1 f).toInt64) := by delta z0_read_b; rfl
  have he_2 : z0_read_c w n i f = ((z2_get w n i 2 f).toInt64) := by delta z0_read_c; rfl
  have he_3 : z0_read_d w n i f = ((z2_get w n i 3 f).toInt64) := by delta z0_read_d; rfl
  have he_4 : z0_read_e w n i f = ((z2_get w n i 4 f).toInt64) := by delta z0_read_e; rfl
  have he_5 : z0_read_f w n i f = ((z2_get w n i 5 f).toInt64) := by delta z0_read_f; rfl
  exact rt_v (w1 := fun uu : Unit => [kF h (z0_read_a w n i f) (z0_read_b w n i f) (z0_read_c w n i f) (z0_read_d w n i f) (z0_read_e w n i f) (z0_read_f w n i f), kS g w q n, kA q cI L f]) hx hb hr hlk hS dX0_read_50 (()) trivial (by rw [he_0, he_1, he_2, he_3, he_4, he_5]; exact hP) (by rw [he_0, he_1, he_2, he_3, he_4, he_5]; exact hD)
