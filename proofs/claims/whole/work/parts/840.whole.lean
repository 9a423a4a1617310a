theorem nw_inF : ∀ q ∈ nw_F, Cond.fieldLinkNest q.1 q.2.1 q.2.2.1 q.2.2.2.1 q.2.2.2.2 "ConicRows" ∈ lw_tbl := by decide +kernel
theorem nw_inM : ∀ q ∈ nw_M, Cond.methodLinkNest q.1 q.2.1 q.2.2 "ConicRows" ∈ lw_tbl := by decide +kernel
theorem G3_0 : G3 (fun _ => 0) 0 := by
  refine ⟨⟨by decide, by decide⟩, fun j hj => ?_, fun i hi => ?_⟩
  · have z : (0 : Int32).toInt.toNat = 0 := by decide
    rw [z] at hj
    omega
  · have := pu_hasi hi
    have z : (0 : Int32).toInt = 0 := by decide
    omega
theorem G6_0 : G6 (fun _ => 0) 0 := by
  refine ⟨⟨by decide, by decide⟩, fun j hj => ?_, fun i hi => ?_⟩
  · have z : (0 : Int32).toInt.toNat = 0 := by decide
    rw [z] at hj
    omega
  · have := pu_hasi hi
    have z : (0 : Int32).toInt = 0 := by decide
    omega
set_option maxHeartbeats 4000000 in
set_option maxRecDepth 100000 in
/-- the law, from its entry -/
theorem whole_start {p : Program} {e : Env} {s : State} {m : MethodId} {below : List Frame} {meth : Method} {c : Code} (l : Launch) {b L : Nat} {xs : Nat → Int32} (hL : L ≤ 3584) (C0 : lw_At p s m meth c b L xs) : W p l e room_1 s m #[Value.ref b] below meth c s.heap [] 0 0 (lw_Z below #[Value.ref b] s) (entryFrame m ([Value.ref b] : List Value).toArray 4) := by
  obtain ⟨hx, hb, hr, hml, hown, htl, hX, hbl, hlk, hgv⟩ := id C0
  obtain ⟨pG, rfl⟩ : ∃ z, z = p := ⟨_, rfl⟩
  obtain ⟨eG, rfl⟩ : ∃ z, z = e := ⟨_, rfl⟩
  obtain ⟨sG, rfl⟩ : ∃ z, z = s := ⟨_, rfl⟩
  obtain ⟨mG, rfl⟩ : ∃ z, z = m := ⟨_, rfl⟩
  obtain ⟨cG, rfl⟩ : ∃ z, z = c := ⟨_, rfl⟩
  have hb : cG.code = cL_law := hb
  have hown : sG.vm.findClass RL = some mG.cls := hown
  have hts : ∀ x ∈ wsL_law, x.before #[Value.ref b] sG = true := fun w h => htl w (wsL_law_in w h)
  obtain ⟨A, hAd⟩ : ∃ A : Nat → Prop, A = fun q => sG.heap.size ≤ q := ⟨_, rfl⟩
  have hA : ∀ q : Nat, sG.heap.size ≤ q → A q := fun q h => by rw [hAd]; exact h
  have hAA : ∀ q : Nat, A q → sG.heap.size ≤ q := fun q h => by rw [hAd] at h; exact h
  have hbA : ¬ A b := fun h => absurd (hAA b h) (Nat.not_le.mpr hbl)
  obtain ⟨d0, iS0, hKn0⟩ := u_known (C := RX0) (T := TX0) (N := 6) (n := 6) hts inlX0 (hts (.instantiable RX0 6) (by decide +kernel))
  obtain ⟨d1, iS1, hKn1⟩ := u_known (C := RX1) (T := TX1) (N := 3) (n := 3) hts inlX1 (hts (.instantiable RX1 3) (by decide +kernel))
  obtain ⟨d2, iS2, hKn2⟩ := u_known (C := RX2) (T := TX2) (N := 3) (n := 3) hts inlX2 (hts (.instantiable RX2 3) (by decide +kernel))
  obtain ⟨d3, iS3, hKn3⟩ := u_known (C := RX3) (T := TX3) (N := 3) (n := 3) hts inlX3 (hts (.instantiable RX3 3) (by decide +kernel))
  obtain ⟨d4, iS4, hKn4⟩ := u_known (C := RX4) (T := TX4) (N := 14) (n := 14) hts inlX4 (hts (.instantiable RX4 14) (by decide +kernel))
  obtain ⟨d5, iS5, hKn5⟩ := u_known (C := RX5) (T := TX5) (N := 17) (n := 17) hts inlX5 (hts (.instantiable RX5 17) (by decide +kernel))
  obtain ⟨D, hKc⟩ : ∃ D : va_G, ∀ (k : Nat) (q : vw_C), vwCl[k]? = some q → u_Kn sG q.1 q.2.1 q.2.2 (D.1 k) (D.2 k) := by
    refine ⟨(fun k => if k = 0 then d0 else if k = 1 then d1 else if k = 2 then d2 else if k = 3 then d3 else if k = 4 then d4 else d5, fun k => if k = 0 then iS0 else if k = 1 then iS1 else if k = 2 then iS2 else if k = 3 then iS3 else if k = 4 then iS4 else iS5), ?_⟩
    intro k q hq
    match k, hq with
    | 0, hq => cases hq; exact hKn0
    | 1, hq => cases hq; exact hKn1
    | 2, hq => cases hq; exact hKn2
    | 3, hq => cases hq; exact hKn3
    | 4, hq => cases hq; exact hKn4
    | 5, hq => cases hq; exact hKn5
    | k + 6, hq => simp [vwCl] at hq
  obtain ⟨cI, kI, compI, i1, i2, i3⟩ := Cond.arrayClass_spec (hts (.arrayClass .int) (by decide +kernel))
  obtain ⟨cJ, kJ', compJ, j1, j2, j3⟩ := Cond.arrayClass_spec (hts (.arrayClass .long) (by decide +kernel))
  have hK : gd_K D cI cJ sG := by
    refine ⟨⟨hKc, fun k q hq => ?_⟩, fun q hq => va_Nw.of rfl (htl _ (nw_inF q hq)), fun q hq => va_Nw.of rfl (htl _ (nw_inM q hq))⟩
    match k, hq with
    | 0, hq => cases hq; exact ⟨fun n z => ⟨fun k h => (by cases h), kI, i2, compI, i3⟩, i1⟩
    | 1, hq => cases hq; exact ⟨fun n z => ⟨fun k h => (by cases h), kJ', j2, compJ, j3⟩, j1⟩
    | k + 2, hq => simp at hq
  have hS : va_S A sG.heap sG.heap [] := va_S.rf
  have hP : va_P D vwCl [] sG.heap := fun k q h => by simp at h
  have hD : va_D A [] := ⟨fun i j p q h => by simp at h, fun k q h => by simp at h⟩
  have hl := lv_entry ([.ref b]) (n := 4) (Nat.le_of_ble_eq_true rfl)
  rw [lg_entry_eq]
  generalize (lg_sl ([.ref b]) ++ List.replicate (4 - (lg_sl ([.ref b])).length) Slot.unset).toArray = ls at hl ⊢
  have hl : lv_has ls 4 [(0, .ref b)] := hl
  have k_1 := hts (.classLink RL 7 RX4) (by decide +kernel)
  have k_2 := hts (.instantiable RX4 14) (by decide +kernel)
  have k_3 := hts (.initialized RX4) (by decide +kernel)
  have k_4 := hts (.methodLink RL 9 yX4_init) (by decide +kernel)
  have k_5 := hts (.instanceMethod yX4_init) (by decide +kernel)
  have k_6 := hts (.classLink RL 10 RX5) (by decide +kernel)
  have k_7 := hts (.instantiable RX5 17) (by decide +kernel)
  have k_8 := hts (.initialized RX5) (by decide +kernel)
  have k_9 := hts (.methodLink RL 12 yX5_init) (by decide +kernel)
  have k_10 := hts (.instanceMethod yX5_init) (by decide +kernel)
  refine va_new (ci := 4) (fs := [.null, .null, .null, .null, .null, .null, .null, .null, .null, .null, .null, .null, .null, .null]) (C := RX4) (T := TX4) (N := 14) hx hb hts inlX4 tyX4 tyX4_ok hown k_1 k_2 k_3 hK.1 hP hD hS hA rfl (fun j hj => by rcases (show j = 0 ∨ j = 1 ∨ j = 2 ∨ j = 3 ∨ j = 4 ∨ j = 5 ∨ j = 6 ∨ j = 7 ∨ j = 8 ∨ j = 9 ∨ j = 10 ∨ j = 11 ∨ j = 12 ∨ j = 13 by omega) with rfl | rfl | rfl | rfl | rfl | rfl | rfl | rfl | rfl | rfl | rfl | rfl | rfl | rfl <;> rfl) (Nat.le_of_ble_eq_true rfl) (Nat.le_of_ble_eq_true rfl) dL_law_0 (fun q_0 H hP hD hS => ?_)
  have hP : va_P D vwCl [(q_0, .inr (4, [.null, .null, .null, .null, .null, .null, .null, .null, .null, .null, .null, .null, .null, .null]))] H := hP
  have hD : va_D A [(q_0, .inr (4, [.null, .null, .null, .null, .null, .null, .null, .null, .null, .null, .null, .null, .null, .null]))] := hD
  refine W.widen (k := 1) (n := 14) (by omega) (by omega) ?_
  refine lv_dup hx hb dL_law_3 rfl ?_
  have hPc := hP.sub (ws' := [(q_0, .inr (4, [.null, .null, .null, .null, .null, .null, .null, .null, .null, .null, .null, .null, .null, .null]))]) [0] rfl
  have hDc := hD.sub (ws' := [(q_0, .inr (4, [.null, .null, .null, .null, .null, .null, .null, .null, .null, .null, .null, .null, .null, .null]))]) [0] (by decide) rfl
  refine cl_n (wc := [(q_0, .inr (4, [.null, .null, .null, .null, .null, .null, .null, .null, .null, .null, .null, .null, .null, .null]))]) (wr := []) (w1 := fun uu : Nat × Nat × Nat × Nat × Nat × Nat × Nat × Nat × Nat × Nat × Nat × Nat × Nat × Nat × Nat × Nat × Nat × Nat × Nat × Nat × Nat => [kC q_0 uu.1 uu.2.2.1 uu.2.2.2.2.1 uu.2.2.2.2.2.2.1 uu.2.2.2.2.2.2.2.2.2.1 uu.2.2.2.2.2.2.2.2.2.2.2.2.1 uu.2.2.2.2.2.2.2.2.2.2.2.2.2.1 uu.2.2.2.2.2.2.2.2.2.2.2.2.2.2.1 uu.2.2.2.2.2.2.2.2.2.2.2.2.2.2.2.1 uu.2.2.2.2.2.2.2.2.2.2.2.2.2.2.2.2.1 uu.2.2.2.2.2.2.2.2.2.2.2.2.2.2.2.2.2.1 uu.2.2.2.2.2.2.2.2.2.2.2.2.2.2.2.2.2.2.1 uu.2.2.2.2.2.2.2.2.2.2.2.2.2.2.2.2.2.2.2.1 uu.2.2.2.2.2.2.2.2.2.2.2.2.2.2.2.2.2.2.2.2, kS uu.1 3 uu.2.1 0, kA uu.2.1 cI 180 (fun _ => 0), kS uu.2.2.1 3 uu.2.2.2.1 0, kA uu.2.2.2.1 cI 180 (fun _ => 0), kS uu.2.2.2.2.1 6 uu.2.2.2.2.2.1 0, kA uu.2.2.2.2.2.1 cI 360 (fun _ => 0), kP uu.2.2.2.2.2.2.1 uu.2.2.2.2.2.2.2.1 uu.2.2.2.2.2.2.2.2.1 0, kT uu.2.2.2.2.2.2.2.1 0 0 0, kT uu.2.2.2.2.2.2.2.2.1 0 0 0, kP uu.2.2.2.2.2.2.2.2.2.1 uu.2.2.2.2.2.2.2.2.2.2.1 uu.2.2.2.2.2.2.2.2.2.2.2.1 0, kT uu.2.2.2.2.2.2.2.2.2.2.1 0 0 0, kT uu.2.2.2.2.2.2.2.2.2.2.2.1 0 0 0, kT uu.2.2.2.2.2.2.2.2.2.2.2.2.1 0 0 0, kT uu.2.2.2.2.2.2.2.2.2.2.2.2.2.1 0 0 0, kT uu.2.2.2.2.2.2.2.2.2.2.2.2.2.2.1 0 0 0, kT uu.2.2.2.2.2.2.2.2.2.2.2.2.2.2.2.1 0 0 0, kF uu.2.2.2.2.2.2.2.2.2.2.2.2.2.2.2.2.1 0 0 0 0 0 0, kF uu.2.2.2.2.2.2.2.2.2.2.2.2.2.2.2.2.2.1 0 0 0 0 0 0, kF uu.2.2.2.2.2.2.2.2.2.2.2.2.2.2.2.2.2.2.1 0 0 0 0 0 0, kF uu.2.2.2.2.2.2.2.2.2.2.2.2.2.2.2.2.2.2.2.1 0 0 0 0 0 0, kA uu.2.2.2.2.2.2.2.2.2.2.2.2.2.2.2.2.2.2.2.2 cI 5 (fun _ => 0)]) (wn := fun uu : Nat × Nat × Nat × Nat × Nat × Nat × Nat × Nat × Nat × Nat × Nat × Nat × Nat × Nat × Nat × Nat × Nat × Nat × Nat × Nat × Nat => [kC q_0 uu.1 uu.2.2.1 uu.2.2.2.2.1 uu.2.2.2.2.2.2.1 uu.2.2.2.2.2.2.2.2.2.1 uu.2.2.2.2.2.2.2.2.2.2.2.2.1 uu.2.2.2.2.2.2.2.2.2.2.2.2.2.1 uu.2.2.2.2.2.2.2.2.2.2.2.2.2.2.1 uu.2.2.2.2.2.2.2.2.2.2.2.2.2.2.2.1 uu.2.2.2.2.2.2.2.2.2.2.2.2.2.2.2.2.1 uu.2.2.2.2.2.2.2.2.2.2.2.2.2.2.2.2.2.1 uu.2.2.2.2.2.2.2.2.2.2.2.2.2.2.2.2.2.2.1 uu.2.2.2.2.2.2.2.2.2.2.2.2.2.2.2.2.2.2.2.1 uu.2.2.2.2.2.2.2.2.2.2.2.2.2.2.2.2.2.2.2.2, kS uu.1 3 uu.2.1 0, kA uu.2.1 cI 180 (fun _ => 0), kS uu.2.2.1 3 uu.2.2.2.1 0, kA uu.2.2.2.1 cI 180 (fun _ => 0), kS uu.2.2.2.2.1 6 uu.2.2.2.2.2.1 0, kA uu.2.2.2.2.2.1 cI 360 (fun _ => 0), kP uu.2.2.2.2.2.2.1 uu.2.2.2.2.2.2.2.1 uu.2.2.2.2.2.2.2.2.1 0, kT uu.2.2.2.2.2.2.2.1 0 0 0, kT uu.2.2.2.2.2.2.2.2.1 0 0 0, kP uu.2.2.2.2.2.2.2.2.2.1 uu.2.2.2.2.2.2.2.2.2.2.1 uu.2.2.2.2.2.2.2.2.2.2.2.1 0, kT uu.2.2.2.2.2.2.2.2.2.2.1 0 0 0, kT uu.2.2.2.2.2.2.2.2.2.2.2.1 0 0 0, kT uu.2.2.2.2.2.2.2.2.2.2.2.2.1 0 0 0, kT uu.2.2.2.2.2.2.2.2.2.2.2.2.2.1 0 0 0, kT uu.2.2.2.2.2.2.2.2.2.2.2.2.2.2.1 0 0 0, kT uu.2.2.2.2.2.2.2.2.2.2.2.2.2.2.2.1 0 0 0, kF uu.2.2.2.2.2.2.2.2.2.2.2.2.2.2.2.2.1 0 0 0 0 0 0, kF uu.2.2.2.2.2.2.2.2.2.2.2.2.2.2.2.2.2.1 0 0 0 0 0 0, kF uu.2.2.2.2.2.2.2.2.2.2.2.2.2.2.2.2.2.2.1 0 0 0 0 0 0, kF uu.2.2.2.2.2.2.2.2.2.2.2.2.2.2.2.2.2.2.2.1 0 0 0 0 0 0, kA uu.2.2.2.2.2.2.2.2.2.2.2.2.2.2.2.2.2.2.2.2 cI 5 (fun _ => 0)]) (va_runI (As := []) (rest := [.ref q_0]) ⟨hx, hb, hml, hown, hts⟩ (c_X4_init l D cI cJ q_0 _) (cwI 0 hts gL_law_X4_init rfl rfl rfl k_3 k_4 k_5 rfl (by decide +kernel) ⟨Nat.le_of_ble_eq_true rfl, Nat.le_of_ble_eq_true rfl⟩) ⟨gd_blP, gd_prP hPc hK hDc⟩ rfl rfl hl.1 rfl (lv_room (Nat.le_of_ble_eq_true rfl)) dL_law_4 ⟨by decide, by decide⟩) hP hD hS hA [0] [] rfl rfl (by decide) (by decide) [0, 1, 2, 3, 4, 5, 6, 7, 8, 9, 10, 11, 12, 13, 14, 15, 16, 17, 18, 19, 20, 21] (by decide) (fun _ => rfl) (fun uG H locs hw hP hD hS => ?_)
  obtain ⟨q_4_0, q_4_1, q_4_2, q_4_3, q_4_4, q_4_5, q_4_6, q_4_7, q_4_8, q_4_9, q_4_10, q_4_11, q_4_12, q_4_13, q_4_14, q_4_15, q_4_16, q_4_17, q_4_18, q_4_19, q_4_20⟩ := uG
  have hP : va_P D vwCl [kC q_0 q_4_0 q_4_2 q_4_4 q_4_6 q_4_9 q_4_12 q_4_13 q_4_14 q_4_15 q_4_16 q_4_17 q_4_18 q_4_19 q_4_20, kS q_4_0 3 q_4_1 0, kA q_4_1 cI 180 (fun _ => 0), kS q_4_2 3 q_4_3 0, kA q_4_3 cI 180 (fun _ => 0), kS q_4_4 6 q_4_5 0, kA q_4_5 cI 360 (fun _ => 0), kP q_4_6 q_4_7 q_4_8 0, kT q_4_7 0 0 0, kT q_4_8 0 0 0, kP q_4_9 q_4_10 q_4_11 0, kT q_4_10 0 0 0, kT q_4_11 0 0 0, kT q_4_12 0 0 0, kT q_4_13 0 0 0, kT q_4_14 0 0 0, kT q_4_15 0 0 0, kF q_4_16 0 0 0 0 0 0, kF q_4_17 0 0 0 0 0 0, kF q_4_18 0 0 0 0 0 0, kF q_4_19 0 0 0 0 0 0, kA q_4_20 cI 5 (fun _ => 0)] H := hP
  have hD : va_D A [kC q_0 q_4_0 q_4_2 q_4_4 q_4_6 q_4_9 q_4_12 q_4_13 q_4_14 q_4_15 q_4_16 q_4_17 q_4_18 q_4_19 q_4_20, kS q_4_0 3 q_4_1 0, kA q_4_1 cI 180 (fun _ => 0), kS q_4_2 3 q_4_3 0, kA q_4_3 cI 180 (fun _ => 0), kS q_4_4 6 q_4_5 0, kA q_4_5 cI 360 (fun _ => 0), kP q_4_6 q_4_7 q_4_8 0, kT q_4_7 0 0 0, kT q_4_8 0 0 0, kP q_4_9 q_4_10 q_4_11 0, kT q_4_10 0 0 0, kT q_4_11 0 0 0, kT q_4_12 0 0 0, kT q_4_13 0 0 0, kT q_4_14 0 0 0, kT q_4_15 0 0 0, kF q_4_16 0 0 0 0 0 0, kF q_4_17 0 0 0 0 0 0, kF q_4_18 0 0 0 0 0 0, kF q_4_19 0 0 0 0 0 0, kA q_4_20 cI 5 (fun _ => 0)] := hD
  refine W.widen (k := 22) (n := 802) (by omega) (by omega) ?_
  clear hPc hDc
  refine lv_astore_n (lv' := [(1, .ref q_0), (0, .ref b)]) hx hb dL_law_7 rfl hl (by decide) rfl (fun ls hl => ?_)
  refine va_new (ci := 5) (fs := [.null, .null, .null, .null, .null, .null, .null, .null, .null, .null, .null, .int 0, .null, .int 0, .null, .null, .null]) (C := RX5) (T := TX5) (N := 17) hx hb hts inlX5 tyX5 tyX5_ok hown k_6 k_7 k_8 hK.1 hP hD hS hA rfl (fun j hj => by rcases (show j = 0 ∨ j = 1 ∨ j = 2 ∨ j = 3 ∨ j = 4 ∨ j = 5 ∨ j = 6 ∨ j = 7 ∨ j = 8 ∨ j = 9 ∨ j = 10 ∨ j = 11 ∨ j = 12 ∨ j = 13 ∨ j = 14 ∨ j = 15 ∨ j = 16 by omega) with rfl | rfl | rfl | rfl | rfl | rfl | rfl | rfl | rfl | rfl | rfl | rfl | rfl | rfl | rfl | rfl | rfl <;> rfl) (Nat.le_of_ble_eq_true rfl) (Nat.le_of_ble_eq_true rfl) dL_law_8 (fun q_8 H hP hD hS => ?_)
  have hP : va_P D vwCl [kC q_0 q_4_0 q_4_2 q_4_4 q_4_6 q_4_9 q_4_12 q_4_13 q_4_14 q_4_15 q_4_16 q_4_17 q_4_18 q_4_19 q_4_20, kS q_4_0 3 q_4_1 0, kA q_4_1 cI 180 (fun _ => 0), kS q_4_2 3 q_4_3 0, kA q_4_3 cI 180 (fun _ => 0), kS q_4_4 6 q_4_5 0, kA q_4_5 cI 360 (fun _ => 0), kP q_4_6 q_4_7 q_4_8 0, kT q_4_7 0 0 0, kT q_4_8 0 0 0, kP q_4_9 q_4_10 q_4_11 0, kT q_4_10 0 0 0, kT q_4_11 0 0 0, kT q_4_12 0 0 0, kT q_4_13 0 0 0, kT q_4_14 0 0 0, kT q_4_15 0 0 0, kF q_4_16 0 0 0 0 0 0, kF q_4_17 0 0 0 0 0 0, kF q_4_18 0 0 0 0 0 0, kF q_4_19 0 0 0 0 0 0, kA q_4_20 cI 5 (fun _ => 0), (q_8, .inr (5, [.null, .null, .null, .null, .null, .null, .null, .null, .null, .null, .null, .int 0, .null, .int 0, .null, .null, .null]))] H := hP
  have hD : va_D A [kC q_0 q_4_0 q_4_2 q_4_4 q_4_6 q_4_9 q_4_12 q_4_13 q_4_14 q_4_15 q_4_16 q_4_17 q_4_18 q_4_19 q_4_20, kS q_4_0 3 q_4_1 0, kA q_4_1 cI 180 (fun _ => 0), kS q_4_2 3 q_4_3 0, kA q_4_3 cI 180 (fun _ => 0), kS q_4_4 6 q_4_5 0, kA q_4_5 cI 360 (fun _ => 0), kP q_4_6 q_4_7 q_4_8 0, kT q_4_7 0 0 0, kT q_4_8 0 0 0, kP q_4_9 q_4_10 q_4_11 0, kT q_4_10 0 0 0, kT q_4_11 0 0 0, kT q_4_12 0 0 0, kT q_4_13 0 0 0, kT q_4_14 0 0 0, kT q_4_15 0 0 0, kF q_4_16 0 0 0 0 0 0, kF q_4_17 0 0 0 0 0 0, kF q_4_18 0 0 0 0 0 0, kF q_4_19 0 0 0 0 0 0, kA q_4_20 cI 5 (fun _ => 0), (q_8, .inr (5, [.null, .null, .null, .null, .null, .null, .null, .null, .null, .null, .null, .int 0, .null, .int 0, .null, .null, .null]))] := hD
  refine W.widen (k := 23) (n := 819) (by omega) (by omega) ?_
  refine lv_dup hx hb dL_law_11 rfl ?_
  have hPc := hP.sub (ws' := [(q_8, .inr (5, [.null, .null, .null, .null, .null, .null, .null, .null, .null, .null, .null, .int 0, .null, .int 0, .null, .null, .null]))]) [22] rfl
  have hDc := hD.sub (ws' := [(q_8, .inr (5, [.null, .null, .null, .null, .null, .null, .null, .null, .null, .null, .null, .int 0, .null, .int 0, .null, .null, .null]))]) [22] (by decide) rfl
  refine cl_n (wc := [(q_8, .inr (5, [.null, .null, .null, .null, .null, .null, .null, .null, .null, .null, .null, .int 0, .null, .int 0, .null, .null, .null]))]) (wr := [kC q_0 q_4_0 q_4_2 q_4_4 q_4_6 q_4_9 q_4_12 q_4_13 q_4_14 q_4_15 q_4_16 q_4_17 q_4_18 q_4_19 q_4_20, kS q_4_0 3 q_4_1 0, kA q_4_1 cI 180 (fun _ => 0), kS q_4_2 3 q_4_3 0, kA q_4_3 cI 180 (fun _ => 0), kS q_4_4 6 q_4_5 0, kA q_4_5 cI 360 (fun _ => 0), kP q_4_6 q_4_7 q_4_8 0, kT q_4_7 0 0 0, kT q_4_8 0 0 0, kP q_4_9 q_4_10 q_4_11 0, kT q_4_10 0 0 0, kT q_4_11 0 0 0, kT q_4_12 0 0 0, kT q_4_13 0 0 0, kT q_4_14 0 0 0, kT q_4_15 0 0 0, kF q_4_16 0 0 0 0 0 0, kF q_4_17 0 0 0 0 0 0, kF q_4_18 0 0 0 0 0 0, kF q_4_19 0 0 0 0 0 0, kA q_4_20 cI 5 (fun _ => 0)]) (w1 := fun uu : Nat × Nat × Nat × Nat × Nat × Nat × Nat × Nat × Nat × Nat × Nat × Nat × Nat × Nat × Nat => [kM q_8 uu.1 uu.2.1 uu.2.2.1 uu.2.2.2.1 uu.2.2.2.2.1 uu.2.2.2.2.2.1 uu.2.2.2.2.2.2.1 uu.2.2.2.2.2.2.2.1 uu.2.2.2.2.2.2.2.2.1 uu.2.2.2.2.2.2.2.2.2.1 uu.2.2.2.2.2.2.2.2.2.2.1 0 uu.2.2.2.2.2.2.2.2.2.2.2.1 0 uu.2.2.2.2.2.2.2.2.2.2.2.2.1 uu.2.2.2.2.2.2.2.2.2.2.2.2.2.1 uu.2.2.2.2.2.2.2.2.2.2.2.2.2.2, kA uu.1 cI 180 (fun _ => 0), kA uu.2.1 cI 180 (fun _ => 0), kA uu.2.2.1 cI 360 (fun _ => 0), kA uu.2.2.2.1 cI 3 (upd (fun _ => 0) 0 0), kJ uu.2.2.2.2.1 cJ 6 (fun _ => 0), kJ uu.2.2.2.2.2.1 cJ 30 (fun _ => 0), kJ uu.2.2.2.2.2.2.1 cJ 64 (fun _ => 0), kA uu.2.2.2.2.2.2.2.1 cI 5 (fun _ => 0), kJ uu.2.2.2.2.2.2.2.2.1 cJ 9 (fun _ => 0), kJ uu.2.2.2.2.2.2.2.2.2.1 cJ 9 (fun _ => 0), kJ uu.2.2.2.2.2.2.2.2.2.2.1 cJ 6 (fun _ => 0), kJ uu.2.2.2.2.2.2.2.2.2.2.2.1 cJ 6 (fun _ => 0), kJ uu.2.2.2.2.2.2.2.2.2.2.2.2.1 cJ 3 (fun _ => 0), kJ uu.2.2.2.2.2.2.2.2.2.2.2.2.2.1 cJ 3 (fun _ => 0), kJ uu.2.2.2.2.2.2.2.2.2.2.2.2.2.2 cJ 3 (fun _ => 0)]) (wn := fun uu : Nat × Nat × Nat × Nat × Nat × Nat × Nat × Nat × Nat × Nat × Nat × Nat × Nat × Nat × Nat => [kC q_0 q_4_0 q_4_2 q_4_4 q_4_6 q_4_9 q_4_12 q_4_13 q_4_14 q_4_15 q_4_16 q_4_17 q_4_18 q_4_19 q_4_20, kS q_4_0 3 q_4_1 0, kA q_4_1 cI 180 (fun _ => 0), kS q_4_2 3 q_4_3 0, kA q_4_3 cI 180 (fun _ => 0), kS q_4_4 6 q_4_5 0, kA q_4_5 cI 360 (fun _ => 0), kP q_4_6 q_4_7 q_4_8 0, kT q_4_7 0 0 0, kT q_4_8 0 0 0, kP q_4_9 q_4_10 q_4_11 0, kT q_4_10 0 0 0, kT q_4_11 0 0 0, kT q_4_12 0 0 0, kT q_4_13 0 0 0, kT q_4_14 0 0 0, kT q_4_15 0 0 0, kF q_4_16 0 0 0 0 0 0, kF q_4_17 0 0 0 0 0 0, kF q_4_18 0 0 0 0 0 0, kF q_4_19 0 0 0 0 0 0, kA q_4_20 cI 5 (fun _ => 0), kM q_8 uu.1 uu.2.1 uu.2.2.1 uu.2.2.2.1 uu.2.2.2.2.1 uu.2.2.2.2.2.1 uu.2.2.2.2.2.2.1 uu.2.2.2.2.2.2.2.1 uu.2.2.2.2.2.2.2.2.1 uu.2.2.2.2.2.2.2.2.2.1 uu.2.2.2.2.2.2.2.2.2.2.1 0 uu.2.2.2.2.2.2.2.2.2.2.2.1 0 uu.2.2.2.2.2.2.2.2.2.2.2.2.1 uu.2.2.2.2.2.2.2.2.2.2.2.2.2.1 uu.2.2.2.2.2.2.2.2.2.2.2.2.2.2, kA uu.1 cI 180 (fun _ => 0), kA uu.2.1 cI 180 (fun _ => 0), kA uu.2.2.1 cI 360 (fun _ => 0), kA uu.2.2.2.1 cI 3 (upd (fun _ => 0) 0 0), kJ uu.2.2.2.2.1 cJ 6 (fun _ => 0), kJ uu.2.2.2.2.2.1 cJ 30 (fun _ => 0), kJ uu.2.2.2.2.2.2.1 cJ 64 (fun _ => 0), kA uu.2.2.2.2.2.2.2.1 cI 5 (fun _ => 0), kJ uu.2.2.2.2.2.2.2.2.1 cJ 9 (fun _ => 0), kJ uu.2.2.2.2.2.2.2.2.2.1 cJ 9 (fun _ => 0), kJ uu.2.2.2.2.2.2.2.2.2.2.1 cJ 6 (fun _ => 0), kJ uu.2.2.2.2.2.2.2.2.2.2.2.1 cJ 6 (fun _ => 0), kJ uu.2.2.2.2.2.2.2.2.2.2.2.2.1 cJ 3 (fun _ => 0), kJ uu.2.2.2.2.2.2.2.2.2.2.2.2.2.1 cJ 3 (fun _ => 0), kJ uu.2.2.2.2.2.2.2.2.2.2.2.2.2.2 cJ 3 (fun _ => 0)]) (va_runI (As := []) (rest := [.ref q_8]) ⟨hx, hb, hml, hown, hts⟩ (c_X5_init l D cI cJ q_8 _) (cwI 0 hts gL_law_X5_init rfl rfl rfl k_8 k_9 k_10 rfl (by decide +kernel) ⟨Nat.le_of_ble_eq_true rfl, Nat.le_of_ble_eq_true rfl⟩) ⟨gd_blP, gd_prP hPc hK hDc⟩ rfl rfl hl.1 rfl (lv_room (Nat.le_of_ble_eq_true rfl)) dL_law_12 ⟨by decide, by decide⟩) hP hD hS hA [22] [0, 1, 2, 3, 4, 5, 6, 7, 8, 9, 10, 11, 12, 13, 14, 15, 16, 17, 18, 19, 20, 21] rfl rfl (by decide) (by decide) [0, 1, 2, 3, 4, 5, 6, 7, 8, 9, 10, 11, 12, 13, 14, 15, 16, 17, 18, 19, 20, 21, 22, 23, 24, 25, 26, 27, 28, 29, 30, 31, 32, 33, 34, 35, 36, 37] (by decide) (fun _ => rfl) (fun uG H locs hw hP hD hS => ?_)
  obtain ⟨q_12_0, q_12_1, q_12_2, q_12_3, q_12_4, q_12_5, q_12_6, q_12_7, q_12_8, q_12_9, q_12_10, q_12_11, q_12_12, q_12_13, q_12_14⟩ := uG
  have hP : va_P D vwCl [kC q_0 q_4_0 q_4_2 q_4_4 q_4_6 q_4_9 q_4_12 q_4_13 q_4_14 q_4_15 q_4_16 q_4_17 q_4_18 q_4_19 q_4_20, kS q_4_0 3 q_4_1 0, kA q_4_1 cI 180 (fun _ => 0), kS q_4_2 3 q_4_3 0, kA q_4_3 cI 180 (fun _ => 0), kS q_4_4 6 q_4_5 0, kA q_4_5 cI 360 (fun _ => 0), kP q_4_6 q_4_7 q_4_8 0, kT q_4_7 0 0 0, kT q_4_8 0 0 0, kP q_4_9 q_4_10 q_4_11 0, kT q_4_10 0 0 0, kT q_4_11 0 0 0, kT q_4_12 0 0 0, kT q_4_13 0 0 0, kT q_4_14 0 0 0, kT q_4_15 0 0 0, kF q_4_16 0 0 0 0 0 0, kF q_4_17 0 0 0 0 0 0, kF q_4_18 0 0 0 0 0 0, kF q_4_19 0 0 0 0 0 0, kA q_4_20 cI 5 (fun _ => 0), kM q_8 q_12_0 q_12_1 q_12_2 q_12_3 q_12_4 q_12_5 q_12_6 q_12_7 q_12_8 q_12_9 q_12_10 0 q_12_11 0 q_12_12 q_12_13 q_12_14, kA q_12_0 cI 180 (fun _ => 0), kA q_12_1 cI 180 (fun _ => 0), kA q_12_2 cI 360 (fun _ => 0), kA q_12_3 cI 3 (upd (fun _ => 0) 0 0), kJ q_12_4 cJ 6 (fun _ => 0), kJ q_12_5 cJ 30 (fun _ => 0), kJ q_12_6 cJ 64 (fun _ => 0), kA q_12_7 cI 5 (fun _ => 0), kJ q_12_8 cJ 9 (fun _ => 0), kJ q_12_9 cJ 9 (fun _ => 0), kJ q_12_10 cJ 6 (fun _ => 0), kJ q_12_11 cJ 6 (fun _ => 0), kJ q_12_12 cJ 3 (fun _ => 0), kJ q_12_13 cJ 3 (fun _ => 0), kJ q_12_14 cJ 3 (fun _ => 0)] H := hP
  have hD : va_D A [kC q_0 q_4_0 q_4_2 q_4_4 q_4_6 q_4_9 q_4_12 q_4_13 q_4_14 q_4_15 q_4_16 q_4_17 q_4_18 q_4_19 q_4_20, kS q_4_0 3 q_4_1 0, kA q_4_1 cI 180 (fun _ => 0), kS q_4_2 3 q_4_3 0, kA q_4_3 cI 180 (fun _ => 0), kS q_4_4 6 q_4_5 0, kA q_4_5 cI 360 (fun _ => 0), kP q_4_6 q_4_7 q_4_8 0, kT q_4_7 0 0 0, kT q_4_8 0 0 0, kP q_4_9 q_4_10 q_4_11 0, kT q_4_10 0 0 0, kT q_4_11 0 0 0, kT q_4_12 0 0 0, kT q_4_13 0 0 0, kT q_4_14 0 0 0, kT q_4_15 0 0 0, kF q_4_16 0 0 0 0 0 0, kF q_4_17 0 0 0 0 0 0, kF q_4_18 0 0 0 0 0 0, kF q_4_19 0 0 0 0 0 0, kA q_4_20 cI 5 (fun _ => 0), kM q_8 q_12_0 q_12_1 q_12_2 q_12_3 q_12_4 q_12_5 q_12_6 q_12_7 q_12_8 q_12_9 q_12_10 0 q_12_11 0 q_12_12 q_12_13 q_12_14, kA q_12_0 cI 180 (fun _ => 0), kA q_12_1 cI 180 (fun _ => 0), kA q_12_2 cI 360 (fun _ => 0), kA q_12_3 cI 3 (upd (fun _ => 0) 0 0), kJ q_12_4 cJ 6 (fun _ => 0), kJ q_12_5 cJ 30 (fun _ => 0), kJ q_12_6 cJ 64 (fun _ => 0), kA q_12_7 cI 5 (fun _ => 0), kJ q_12_8 cJ 9 (fun _ => 0), kJ q_12_9 cJ 9 (fun _ => 0), kJ q_12_10 cJ 6 (fun _ => 0), kJ q_12_11 cJ 6 (fun _ => 0), kJ q_12_12 cJ 3 (fun _ => 0), kJ q_12_13 cJ 3 (fun _ => 0), kJ q_12_14 cJ 3 (fun _ => 0)] := hD
  refine W.widen (k := 38) (n := 1686) (by omega) (by omega) ?_
  clear hPc hDc
  refine lv_astore_n (lv' := [(2, .ref q_8), (1, .ref q_0), (0, .ref b)]) hx hb dL_law_15 rfl hl (by decide) rfl (fun ls hl => ?_)
  refine lv_iconst (v := 0) hx hb dL_law_16 (by decide) ?_
  refine lv_istore_n (lv' := [(3, .int 0), (2, .ref q_8), (1, .ref q_0), (0, .ref b)]) hx hb dL_law_17 rfl hl (by decide) rfl (fun ls hl => ?_)
  have hW : lwAt D cI cJ A q_0 q_4_0 q_4_2 q_4_4 q_4_6 q_4_9 q_4_12 q_4_13 q_4_14 q_4_15 q_4_16 q_4_17 q_4_18 q_4_19 q_4_20 q_4_1 q_4_3 q_4_5 q_8 q_12_0 q_12_1 q_12_2 q_12_3 q_12_4 q_12_5 q_12_6 q_12_7 q_12_8 q_12_9 q_12_10 q_12_11 q_12_12 q_12_13 q_12_14 H (upd (fun _ => 0) 0 0) (fun _ => 0) (fun _ => 0) (fun _ => 0) 0 0 0 0 0 0 0 0 (fun _ => 0) 0 0 0 0 0 0 0 0 (fun _ => 0) := ⟨q_4_7, q_4_8, q_4_10, q_4_11, 0, 0, 0, 0, 0, 0, 0, 0, 0, 0, 0, 0, 0, 0, 0, 0, 0, 0, 0, 0, 0, 0, 0, 0, 0, 0, 0, 0, 0, 0, 0, 0, 0, 0, 0, 0, (fun _ => 0), (fun _ => 0), (fun _ => 0), (fun _ => 0), (fun _ => 0), (fun _ => 0), (fun _ => 0), (fun _ => 0), (fun _ => 0), (fun _ => 0), hP, hD⟩
  have hI : lwI (upd (fun _ => 0) 0 0) (fun _ => 0) (fun _ => 0) (fun _ => 0) 0 0 0 0 0 0 0 0 (fun _ => 0) 0 0 0 0 0 0 0 0 (fun _ => 0) := ⟨G3_0, G3_0, G6_0, pr0 _ _ _ _ _ _ _, pr0 _ _ _ _ _ _ _⟩
  exact lw_loop hx hb hml hown hts hK hA hX hbl hbA hr hlk hAA hL (L + 1) 0 0 (by omega) (Nat.zero_le L) rfl (upd (fun _ => 0) 0 0) (fun _ => 0) (fun _ => 0) (fun _ => 0) 0 0 0 0 0 0 0 0 (fun _ => 0) 0 0 0 0 0 0 0 0 (fun _ => 0) H locs ls hI hW hS (lv_sub hl [3, 2, 1, 0] rfl)
-- ===== YOUR PART ENDS =====
set_option maxHeartbeats 4000000 in
theorem lw_walk (l : Launch) (b : Addr) (xs : List Int32) : MetFree l x (headSpec (Jvm.Cond.code x code maxLocals ret :: tables_1) room_1) (lw_P b xs) (fun _ _ _ _ _ => True) lw_Q := by
  refine MetFree.of_bodyS (code := code) (maxLocals := maxLocals) (ret := ret) (by decide) ?_ ?_
  · intro args s m h hn
    obtain ⟨meth, c, h1, h2, h3, h4, h5, h6, -, -⟩ := Cond.code_spec hn (atoms_spec (ws := Jvm.Cond.code x code maxLocals ret :: tables_1) h _ List.mem_cons_self)
    exact ⟨meth, c, h1, h2, h3, h4, h5, h6⟩
  · intro p e s m args below meth c s₁ B hml0 hP _
    obtain ⟨rfl, hx, hbd, hgv⟩ := hP
    obtain ⟨scr, harrAt, hlist, hof, hsmall⟩ := hx
    obtain ⟨hcb, hkn, -, -⟩ := State.arrayAt?_spec harrAt
    have hown : s.vm.findClass R_law = some m.cls := findClass_of_methodNamed B.named
    have hts0 : ∀ c ∈ (Jvm.Cond.code x code maxLocals ret :: tables_1), c.before #[Value.ref b] s = true := atoms_spec (ws := Jvm.Cond.code x code maxLocals ret :: tables_1) B.pre
    have hts : ∀ w ∈ lw_tbl, w.before #[Value.ref b] s = true := k2_hts_sels lw_privs (fun w hw => hts0 w (List.mem_cons_of_mem _ hw)) lw_privs_ok
    have hml : c.maxLocals = 4 := B.maxLocals_eq (hts0 _ List.mem_cons_self)
    have X₀ : Stand p l e room_1 s m #[Value.ref b] below meth c s₁ [] 0 0 := Stand.of_body B
    have hh0 : s₁.heap = s.heap := by rw [B.state]; rfl
    have hsz : scr.slots.size = xs.length := by rw [← Array.length_toList, hlist, List.length_map]
    have hval : ∀ j : Nat, j < xs.length → scr.slots[j]? = some (.int (xs.getD j 0)) := fun j hj => by
      rw [← Array.getElem?_toList, hlist]
      simp [hj]
    have hbl : b < s.heap.size := (Array.getElem?_eq_some_iff.mp hcb).1
    have hX : va_X b xs.length (fun j => xs.getD j 0) s s.heap := ⟨scr, hcb, hof, hkn, hsz, hval⟩
    have K : W p l e room_1 s m #[Value.ref b] below meth c s₁.heap [] 0 0 (lw_Z below #[Value.ref b] s) (entryFrame m ([Value.ref b] : List Value).toArray 4) := by
      rw [hh0]
      exact whole_start l hbd ⟨B.exec, B.bytes, B.returns, hml, hown, hts, hX, hbl, B.notSynchronized, hgv⟩
    obtain ⟨t, a1, o, b1, b2, b3⟩ := K s₁ rfl X₀
    exact ⟨t, o, a1, b1, b2, b3⟩
theorem lw_pre_spec {args : Array Value} {s : State} (h : (Jvm.Cond.and given_1 narrow_1).before args s = true) (hr : rest_1_c.before args s = true) : ∃ (b : Addr) (xs : List Int32), lw_P b xs args s := by
  have hs := flat_of_before _ h
  have hq := flat_of_before _ hr
  have hc : (Cond.count 1).before args s = true := hs _ (by decide +kernel)
  have harr : (Cond.arrayOf (.arg 0) .int).before args s = true := hs _ (by decide +kernel)
  have hle : (Cond.le (.length (.arg 0)) (.int 3584)).before args s = true := hs _ (by decide +kernel)
  have hlen : (Cond.isInt (.length (.arg 0))).before args s = true := hq _ (by decide +kernel)
  have hall : (Cond.all (.arg 0) (.isInt (.elem (.arg 0) (.index 0)))).before args s = true := hq _ (by decide +kernel)
  obtain ⟨b, xs, hb, hx⟩ := State.ints_of_pre rfl harr hlen hall
  have hsm : xs.length < 2 ^ 31 := hx.choose_spec.2.2.2
  have hev : (Term.length (.arg 0)).eval args s none [] s = some (.int xs.length.toInt32) := hx.length_eval hb
  have hv := Cond.le_ints hev (show (Term.int 3584).eval args s none [] s = some (.int 3584) from rfl)
  have hd : xs.length.toInt32 ≤ 3584 := by
    simpa [Cond.before, Cond.holds, hv] using hle
  have hN : xs.length ≤ 3584 := (Int32.ofNat_le_ofNat hsm (by decide)).mp (show Int32.ofNat xs.length ≤ Int32.ofNat 3584 from hd)
  exact ⟨b, xs, Cond.one_arg hc (show args[0]? = some (.ref b) from hb), hx, hN, h⟩
theorem lw_comes (l : Launch) : Comes l x (Jvm.Cond.code x code maxLocals ret :: tables_1) room_1 (fun tb e args s => Calls_1 tb e args s ∧ rest_1 tb e args s ∧ Pre_1 tb e args s)
    (fun _ _ args s o t => lw_Q args s o t) := by
  intro p e ha hc hk s m args below hf hfit hheap happ hpre
  obtain ⟨b, xs, hP⟩ := lw_pre_spec hpre.2.2 hpre.2.1
  obtain ⟨k, o, h1, h2, h3, hQ⟩ := lw_walk l b xs p e ha hc hk s m args below hf ((Spec.applies_iff_loose hf).mp happ).1 hP trivial
  exact ⟨k, o, h1, h2, h3, hQ⟩
theorem lw_frame {s t : State} {o : Outcome} {args : Array Value} (h : Framed s o t [] 600000 7302250) :
    Framed s o t (fieldLocs frame_1_writes args s ++ arrayLocs frame_1_arrays args s ++ staticLocs frame_1_statics s) 600000 7302250 := h
theorem lw_limb (L : Cond) (hL : ∀ (args : Array Value) (s t : State), L.after args s (.returned (some (.int 1))) t = true) :
    ArmFor flags0 classFile x code maxLocals ret World_1 tables_1 room_1 Calls_1 rest_1 Pre_1
      (fun tb e a s o t => postC L tb e a s o t ∧ Framed s o t (fieldLocs frame_1_writes a s ++ arrayLocs frame_1_arrays a s ++ staticLocs frame_1_statics s) 600000 7302250) := by
  intro l _ _ _ p e ha hc hk s m args below hf hfit hheap happ hpre
  obtain ⟨k, o, h1, h2, h3, rfl, hF⟩ := lw_comes l p e ha hc hk s m args below hf hfit hheap happ hpre
  exact ⟨k, _, h1, h2, h3, hL args s _, lw_frame hF⟩
theorem i_vc : Claimed_1_1 ∧ Claimed_1_2 := ⟨lw_limb limb_1_1 (fun args s t => by simp [limb_1_1, Cond.after, Cond.holds, Cond.value]), lw_limb limb_1_2 (fun args s t => Cond.after_iff.mpr (by
  first | (rw [show limb_1_2 = Cond.eq .result (.int 1) from rfl, Cond.eq_ints (x := 1) (y := 1) rfl rfl]; simp; done) | (simp [limb_1_2, Cond.value, Term.eval]; done)))⟩
