-- laid by wip/whole/gen
theorem nz_3 {f : Nat → Int64} (h0 : f 0 = 0) (h1 : f 1 = 0) (h2 : f 2 = 0) : z5_common (z5_common (z5_common 0 (f 0)) (f 1)) (f 2) = 0 := by
  rw [h0, h1, h2, z5_common_00, z5_common_00, z5_common_00]
theorem nz_6 {f : Nat → Int64} (h0 : f 0 = 0) (h1 : f 1 = 0) (h2 : f 2 = 0) (h3 : f 3 = 0) (h4 : f 4 = 0) (h5 : f 5 = 0) : z5_common (z5_common (z5_common (z5_common (z5_common (z5_common 0 (f 0)) (f 1)) (f 2)) (f 3)) (f 4)) (f 5) = 0 := by
  rw [h0, h1, h2, h3, h4, h5, z5_common_00, z5_common_00, z5_common_00, z5_common_00, z5_common_00, z5_common_00]
def z5_norm_3_3 (f : Nat → Int64) : Int32 × (Nat → Int64) := if (z5_common (z5_common (z5_common 0 (f 0)) (f 1)) (f 2)) = 0 then (0, f) else if (f 0) = 0 then if (f 1) = 0 then if (f 2) = 0 then (0, f) else if 0 ≤ (f 2) then (1, vp_updL (vp_updL (vp_updL f 0 ((f 0) / (z5_common (z5_common (z5_common 0 (f 0)) (f 1)) (f 2)))) 1 ((f 1) / (z5_common (z5_common (z5_common 0 (f 0)) (f 1)) (f 2)))) 2 ((f 2) / (z5_common (z5_common (z5_common 0 (f 0)) (f 1)) (f 2)))) else (1, vp_updL (vp_updL (vp_updL f 0 ((f 0) / (-(z5_common (z5_common (z5_common 0 (f 0)) (f 1)) (f 2))))) 1 ((f 1) / (-(z5_common (z5_common (z5_common 0 (f 0)) (f 1)) (f 2))))) 2 ((f 2) / (-(z5_common (z5_common (z5_common 0 (f 0)) (f 1)) (f 2))))) else if 0 ≤ (f 1) then (1, vp_updL (vp_updL (vp_updL f 0 ((f 0) / (z5_common (z5_common (z5_common 0 (f 0)) (f 1)) (f 2)))) 1 ((f 1) / (z5_common (z5_common (z5_common 0 (f 0)) (f 1)) (f 2)))) 2 ((f 2) / (z5_common (z5_common (z5_common 0 (f 0)) (f 1)) (f 2)))) else (1, vp_updL (vp_updL (vp_updL f 0 ((f 0) / (-(z5_common (z5_common (z5_common 0 (f 0)) (f 1)) (f 2))))) 1 ((f 1) / (-(z5_common (z5_common (z5_common 0 (f 0)) (f 1)) (f 2))))) 2 ((f 2) / (-(z5_common (z5_common (z5_common 0 (f 0)) (f 1)) (f 2))))) else if 0 ≤ (f 0) then (1, vp_updL (vp_updL (vp_updL f 0 ((f 0) / (z5_common (z5_common (z5_common 0 (f 0)) (f 1)) (f 2)))) 1 ((f 1) / (z5_common (z5_common (z5_common 0 (f 0)) (f 1)) (f 2)))) 2 ((f 2) / (z5_common (z5_common (z5_common 0 (f 0)) (f 1)) (f 2)))) else (1, vp_updL (vp_updL (vp_updL f 0 ((f 0) / (-(z5_common (z5_common (z5_common 0 (f 0)) (f 1)) (f 2))))) 1 ((f 1) / (-(z5_common (z5_common (z5_common 0 (f 0)) (f 1)) (f 2))))) 2 ((f 2) / (-(z5_common (z5_common (z5_common 0 (f 0)) (f 1)) (f 2)))))
set_option maxHeartbeats 4000000 in
set_option maxRecDepth 100000 in
/-- X5.norm -/
theorem c_X5_norm_3_3 (l : Launch) (D : va_G) (cI cJ : ClassId) (h : Nat) (f : Nat → Int64) : mw_C l yX5_norm wsX5_norm ({ frames := 1, cells := 0, slots := 0, locals := 29 }) D cI cJ [.ref h, .int 3] [kJ h cJ 3 f] (qe_i (fun (r : Int32) (_ : Unit) => r = (z5_norm_3_3 f).1) (fun uu => [kJ h cJ 3 ((z5_norm_3_3 f).2)])) := by
  refine mw_in (cc := cX5_norm) (lv := [(0, .ref h), (1, .int 3)]) (by decide) rfl (Nat.le_of_ble_eq_true rfl) rfl ?_
  intro pG eG sG mG below meth cG ls A hx hb hr hml hown hts hlk hin hP hK hD hA hS hl
  have hown : sG.vm.findClass RX5 = some mG.cls := hown
  refine lv_lconst (v := 0) hx hb dX5_norm_0 (by decide) ?_
  refine lv_lstore_n (lv' := [(2, .long 0), (0, .ref h), (1, .int 3)]) hx hb dX5_norm_1 rfl hl (by decide) rfl (fun ls hl => ?_)
  refine lv_iconst (v := 0) hx hb dX5_norm_2 (by decide) ?_
  refine lv_istore (lv' := [(4, .int 0), (2, .long 0), (0, .ref h), (1, .int 3)]) hx hb dX5_norm_3 hl (by decide) rfl (fun ls hl => ?_)
  refine lv_iload hx hb dX5_norm_5 (lv_at hl 0 rfl) ?_
  refine lv_iload_n hx hb dX5_norm_7 rfl (lv_at hl 3 rfl) ?_
  refine lv_icmp_ge (tgt := 26) hx hb dX5_norm_8 (by decide) (fun h => absurd h (by decide)) (fun _ => ?_)
  refine lv_lload_n hx hb dX5_norm_11 rfl (lv_at hl 1 rfl) ?_
  refine lv_aload_n hx hb dX5_norm_12 rfl (lv_at hl 2 rfl) ?_
  refine lv_iload hx hb dX5_norm_13 (lv_at hl 0 rfl) ?_
  refine ld_l hx hb hK.1 hP 0 1 rfl rfl (ix_lit (by decide)) 0 (by decide) (v := f 0) rfl dX5_norm_15 ?_
  have hPc := hP.sub (ws' := []) [] rfl
  refine cr_l (va_runS (As := [.long 0, .long (f 0)]) (rest := []) ⟨hx, hb, hml, hown, hts⟩ (c_X5_common l D cI cJ 0 (f 0)) (va_cwS 2 hts gX5_norm_X5_common rfl rfl rfl (by decide +kernel) ⟨Nat.le_of_ble_eq_true rfl, Nat.le_of_ble_eq_true rfl⟩) ⟨gd_blR, gd_prR hPc hK⟩ rfl rfl hl.1 rfl (lv_room (Nat.le_of_ble_eq_true rfl)) dX5_norm_16 ⟨Nat.zero_le _, Nat.zero_le _⟩) (fun r_16 hw => ?_)
  subst hw
  clear hPc
  refine lv_lstore_n (lv' := [(2, .long (z5_common 0 (f 0))), (4, .int 0), (0, .ref h), (1, .int 3)]) hx hb dX5_norm_19 rfl hl (by decide) rfl (fun ls hl => ?_)
  refine lv_iinc (v := 1) (lv' := [(4, .int 1), (2, .long (z5_common 0 (f 0))), (0, .ref h), (1, .int 3)]) hx hb dX5_norm_20 hl (k := 1) rfl (by decide) (by decide) rfl (fun ls hl => ?_)
  refine lv_goto (tgt := 5) hx hb dX5_norm_23 (by decide) ?_
  refine lv_iload hx hb dX5_norm_5 (lv_at hl 0 rfl) ?_
  refine lv_iload_n hx hb dX5_norm_7 rfl (lv_at hl 3 rfl) ?_
  refine lv_icmp_ge (tgt := 26) hx hb dX5_norm_8 (by decide) (fun h => absurd h (by decide)) (fun _ => ?_)
  refine lv_lload_n hx hb dX5_norm_11 rfl (lv_at hl 1 rfl) ?_
  refine lv_aload_n hx hb dX5_norm_12 rfl (lv_at hl 2 rfl) ?_
  refine lv_iload hx hb dX5_norm_13 (lv_at hl 0 rfl) ?_
  refine ld_l hx hb hK.1 hP 0 1 rfl rfl (ix_lit (by decide)) 1 (by decide) (v := f 1) rfl dX5_norm_15 ?_
  have hPc := hP.sub (ws' := []) [] rfl
  refine cr_l (va_runS (As := [.long (z5_common 0 (f 0)), .long (f 1)]) (rest := []) ⟨hx, hb, hml, hown, hts⟩ (c_X5_common l D cI cJ (z5_common 0 (f 0)) (f 1)) (va_cwS 2 hts gX5_norm_X5_common rfl rfl rfl (by decide +kernel) ⟨Nat.le_of_ble_eq_true rfl, Nat.le_of_ble_eq_true rfl⟩) ⟨gd_blR, gd_prR hPc hK⟩ rfl rfl hl.1 rfl (lv_room (Nat.le_of_ble_eq_true rfl)) dX5_norm_16 ⟨Nat.zero_le _, Nat.zero_le _⟩) (fun r_16 hw => ?_)
  subst hw
  clear hPc
  refine lv_lstore_n (lv' := [(2, .long (z5_common (z5_common 0 (f 0)) (f 1))), (4, .int 1), (0, .ref h), (1, .int 3)]) hx hb dX5_norm_19 rfl hl (by decide) rfl (fun ls hl => ?_)
  refine lv_iinc (v := 2) (lv' := [(4, .int 2), (2, .long (z5_common (z5_common 0 (f 0)) (f 1))), (0, .ref h), (1, .int 3)]) hx hb dX5_norm_20 hl (k := 1) rfl (by decide) (by decide) rfl (fun ls hl => ?_)
  refine lv_goto (tgt := 5) hx hb dX5_norm_23 (by decide) ?_
  refine lv_iload hx hb dX5_norm_5 (lv_at hl 0 rfl) ?_
  refine lv_iload_n hx hb dX5_norm_7 rfl (lv_at hl 3 rfl) ?_
  refine lv_icmp_ge (tgt := 26) hx hb dX5_norm_8 (by decide) (fun h => absurd h (by decide)) (fun _ => ?_)
  refine lv_lload_n hx hb dX5_norm_11 rfl (lv_at hl 1 rfl) ?_
  refine lv_aload_n hx hb dX5_norm_12 rfl (lv_at hl 2 rfl) ?_
  refine lv_iload hx hb dX5_norm_13 (lv_at hl 0 rfl) ?_
  refine ld_l hx hb hK.1 hP 0 1 rfl rfl (ix_lit (by decide)) 2 (by decide) (v := f 2) rfl dX5_norm_15 ?_
  have hPc := hP.sub (ws' := []) [] rfl
  refine cr_l (va_runS (As := [.long (z5_common (z5_common 0 (f 0)) (f 1)), .long (f 2)]) (rest := []) ⟨hx, hb, hml, hown, hts⟩ (c_X5_common l D cI cJ (z5_common (z5_common 0 (f 0)) (f 1)) (f 2)) (va_cwS 2 hts gX5_norm_X5_common rfl rfl rfl (by decide +kernel) ⟨Nat.le_of_ble_eq_true rfl, Nat.le_of_ble_eq_true rfl⟩) ⟨gd_blR, gd_prR hPc hK⟩ rfl rfl hl.1 rfl (lv_room (Nat.le_of_ble_eq_true rfl)) dX5_norm_16 ⟨Nat.zero_le _, Nat.zero_le _⟩) (fun r_16 hw => ?_)
  subst hw
  clear hPc
  refine lv_lstore_n (lv' := [(2, .long (z5_common (z5_common (z5_common 0 (f 0)) (f 1)) (f 2))), (4, .int 2), (0, .ref h), (1, .int 3)]) hx hb dX5_norm_19 rfl hl (by decide) rfl (fun ls hl => ?_)
  refine lv_iinc (v := 3) (lv' := [(4, .int 3), (2, .long (z5_common (z5_common (z5_common 0 (f 0)) (f 1)) (f 2))), (0, .ref h), (1, .int 3)]) hx hb dX5_norm_20 hl (k := 1) rfl (by decide) (by decide) rfl (fun ls hl => ?_)
  refine lv_goto (tgt := 5) hx hb dX5_norm_23 (by decide) ?_
  refine lv_iload hx hb dX5_norm_5 (lv_at hl 0 rfl) ?_
  refine lv_iload_n hx hb dX5_norm_7 rfl (lv_at hl 3 rfl) ?_
  refine lv_icmp_ge (tgt := 26) hx hb dX5_norm_8 (by decide) (fun _ => ?_) (fun h => absurd (by decide) h)
  refine lv_lload_n hx hb dX5_norm_26 rfl (lv_at hl 1 rfl) ?_
  refine lv_lconst (v := 0) hx hb dX5_norm_27 (by decide) ?_
  refine lb_ne (tgt := 34) hx hb dX5_norm_28 rfl dX5_norm_29 (by decide) (fun c_1 => ?_) (fun c_1 => ?_)
  · skip
    refine lv_iconst (v := 0) hx hb dX5_norm_34 (by decide) ?_
    refine lv_istore (lv' := [(4, .int 0), (2, .long (z5_common (z5_common (z5_common 0 (f 0)) (f 1)) (f 2))), (0, .ref h), (1, .int 3)]) hx hb dX5_norm_35 hl (by decide) rfl (fun ls hl => ?_)
    refine lv_aload_n hx hb dX5_norm_37 rfl (lv_at hl 2 rfl) ?_
    refine lv_iload hx hb dX5_norm_38 (lv_at hl 0 rfl) ?_
    refine ld_l hx hb hK.1 hP 0 1 rfl rfl (ix_lit (by decide)) 0 (by decide) (v := f 0) rfl dX5_norm_40 ?_
    refine lv_lconst (v := 0) hx hb dX5_norm_41 (by decide) ?_
    refine lb_ne (tgt := 52) hx hb dX5_norm_42 rfl dX5_norm_43 (by decide) (fun c_2 => ?_) (fun c_2 => ?_)
    · skip
      refine lv_aload_n hx hb dX5_norm_52 rfl (lv_at hl 2 rfl) ?_
      refine lv_iload hx hb dX5_norm_53 (lv_at hl 0 rfl) ?_
      refine ld_l hx hb hK.1 hP 0 1 rfl rfl (ix_lit (by decide)) 0 (by decide) (v := f 0) rfl dX5_norm_55 ?_
      refine lv_lconst (v := 0) hx hb dX5_norm_56 (by decide) ?_
      refine lb_ge (tgt := 66) hx hb dX5_norm_57 rfl dX5_norm_58 (by decide) (fun c_3 => ?_) (fun c_3 => ?_)
      · skip
        refine lv_lload_n hx hb dX5_norm_66 rfl (lv_at hl 1 rfl) ?_
        refine lv_lstore_n (lv' := [(2, .long (z5_common (z5_common (z5_common 0 (f 0)) (f 1)) (f 2))), (4, .int 0), (0, .ref h), (1, .int 3)]) hx hb dX5_norm_67 rfl hl (by decide) rfl (fun ls hl => ?_)
        refine lv_iconst (v := 0) hx hb dX5_norm_68 (by decide) ?_
        refine lv_istore (lv' := [(5, .int 0), (2, .long (z5_common (z5_common (z5_common 0 (f 0)) (f 1)) (f 2))), (4, .int 0), (0, .ref h), (1, .int 3)]) hx hb dX5_norm_69 hl (by decide) rfl (fun ls hl => ?_)
        refine lv_iload hx hb dX5_norm_71 (lv_at hl 0 rfl) ?_
        refine lv_iload_n hx hb dX5_norm_73 rfl (lv_at hl 4 rfl) ?_
        refine lv_icmp_ge (tgt := 93) hx hb dX5_norm_74 (by decide) (fun h => absurd h (by decide)) (fun _ => ?_)
        refine lv_aload_n hx hb dX5_norm_77 rfl (lv_at hl 3 rfl) ?_
        refine lv_iload hx hb dX5_norm_78 (lv_at hl 0 rfl) ?_
        refine lv_aload_n hx hb dX5_norm_80 rfl (lv_at hl 3 rfl) ?_
        refine lv_iload hx hb dX5_norm_81 (lv_at hl 0 rfl) ?_
        refine ld_l hx hb hK.1 hP 0 1 rfl rfl (ix_lit (by decide)) 0 (by decide) (v := f 0) rfl dX5_norm_83 ?_
        refine lv_lload_n hx hb dX5_norm_84 rfl (lv_at hl 1 rfl) ?_
        refine lv_ldiv hx hb dX5_norm_85 c_1 ?_
        refine st_l hx hb hK.1 hP hD hS 0 1 rfl rfl (ix_lit (by decide)) 0 (by decide) dX5_norm_86 (fun H locs hP hD hS => ?_)
        have hP : va_P D vwCl [kJ h cJ 3 (vp_updL f 0 ((f 0) / (z5_common (z5_common (z5_common 0 (f 0)) (f 1)) (f 2))))] H := hP
        have hD : va_D A [kJ h cJ 3 (vp_updL f 0 ((f 0) / (z5_common (z5_common (z5_common 0 (f 0)) (f 1)) (f 2))))] := hD
        refine lv_iinc (v := 1) (lv' := [(5, .int 1), (2, .long (z5_common (z5_common (z5_common 0 (f 0)) (f 1)) (f 2))), (4, .int 0), (0, .ref h), (1, .int 3)]) hx hb dX5_norm_87 hl (k := 0) rfl (by decide) (by decide) rfl (fun ls hl => ?_)
        refine lv_goto (tgt := 71) hx hb dX5_norm_90 (by decide) ?_
        refine lv_iload hx hb dX5_norm_71 (lv_at hl 0 rfl) ?_
        refine lv_iload_n hx hb dX5_norm_73 rfl (lv_at hl 4 rfl) ?_
        refine lv_icmp_ge (tgt := 93) hx hb dX5_norm_74 (by decide) (fun h => absurd h (by decide)) (fun _ => ?_)
        refine lv_aload_n hx hb dX5_norm_77 rfl (lv_at hl 3 rfl) ?_
        refine lv_iload hx hb dX5_norm_78 (lv_at hl 0 rfl) ?_
        refine lv_aload_n hx hb dX5_norm_80 rfl (lv_at hl 3 rfl) ?_
        refine lv_iload hx hb dX5_norm_81 (lv_at hl 0 rfl) ?_
        refine ld_l hx hb hK.1 hP 0 1 rfl rfl (ix_lit (by decide)) 1 (by decide) (v := f 1) rfl dX5_norm_83 ?_
        refine lv_lload_n hx hb dX5_norm_84 rfl (lv_at hl 1 rfl) ?_
        refine lv_ldiv hx hb dX5_norm_85 c_1 ?_
        refine st_l hx hb hK.1 hP hD hS 0 1 rfl rfl (ix_lit (by decide)) 1 (by decide) dX5_norm_86 (fun H locs hP hD hS => ?_)
        have hP : va_P D vwCl [kJ h cJ 3 (vp_updL (vp_updL f 0 ((f 0) / (z5_common (z5_common (z5_common 0 (f 0)) (f 1)) (f 2)))) 1 ((f 1) / (z5_common (z5_common (z5_common 0 (f 0)) (f 1)) (f 2))))] H := hP
        have hD : va_D A [kJ h cJ 3 (vp_updL (vp_updL f 0 ((f 0) / (z5_common (z5_common (z5_common 0 (f 0)) (f 1)) (f 2)))) 1 ((f 1) / (z5_common (z5_common (z5_common 0 (f 0)) (f 1)) (f 2))))] := hD
        refine lv_iinc (v := 2) (lv' := [(5, .int 2), (2, .long (z5_common (z5_common (z5_common 0 (f 0)) (f 1)) (f 2))), (4, .int 0), (0, .ref h), (1, .int 3)]) hx hb dX5_norm_87 hl (k := 0) rfl (by decide) (by decide) rfl (fun ls hl => ?_)
        refine lv_goto (tgt := 71) hx hb dX5_norm_90 (by decide) ?_
        refine lv_iload hx hb dX5_norm_71 (lv_at hl 0 rfl) ?_
        refine lv_iload_n hx hb dX5_norm_73 rfl (lv_at hl 4 rfl) ?_
        refine lv_icmp_ge (tgt := 93) hx hb dX5_norm_74 (by decide) (fun h => absurd h (by decide)) (fun _ => ?_)
        refine lv_aload_n hx hb dX5_norm_77 rfl (lv_at hl 3 rfl) ?_
        refine lv_iload hx hb dX5_norm_78 (lv_at hl 0 rfl) ?_
        refine lv_aload_n hx hb dX5_norm_80 rfl (lv_at hl 3 rfl) ?_
        refine lv_iload hx hb dX5_norm_81 (lv_at hl 0 rfl) ?_
        refine ld_l hx hb hK.1 hP 0 1 rfl rfl (ix_lit (by decide)) 2 (by decide) (v := f 2) rfl dX5_norm_83 ?_
        refine lv_lload_n hx hb dX5_norm_84 rfl (lv_at hl 1 rfl) ?_
        refine lv_ldiv hx hb dX5_norm_85 c_1 ?_
        refine st_l hx hb hK.1 hP hD hS 0 1 rfl rfl (ix_lit (by decide)) 2 (by decide) dX5_norm_86 (fun H locs hP hD hS => ?_)
        have hP : va_P D vwCl [kJ h cJ 3 (vp_updL (vp_updL (vp_updL f 0 ((f 0) / (z5_common (z5_common (z5_common 0 (f 0)) (f 1)) (f 2)))) 1 ((f 1) / (z5_common (z5_common (z5_common 0 (f 0)) (f 1)) (f 2)))) 2 ((f 2) / (z5_common (z5_common (z5_common 0 (f 0)) (f 1)) (f 2))))] H := hP
        have hD : va_D A [kJ h cJ 3 (vp_updL (vp_updL (vp_updL f 0 ((f 0) / (z5_common (z5_common (z5_common 0 (f 0)) (f 1)) (f 2)))) 1 ((f 1) / (z5_common (z5_common (z5_common 0 (f 0)) (f 1)) (f 2)))) 2 ((f 2) / (z5_common (z5_common (z5_common 0 (f 0)) (f 1)) (f 2))))] := hD
        refine lv_iinc (v := 3) (lv' := [(5, .int 3), (2, .long (z5_common (z5_common (z5_common 0 (f 0)) (f 1)) (f 2))), (4, .int 0), (0, .ref h), (1, .int 3)]) hx hb dX5_norm_87 hl (k := 0) rfl (by decide) (by decide) rfl (fun ls hl => ?_)
        refine lv_goto (tgt := 71) hx hb dX5_norm_90 (by decide) ?_
        refine lv_iload hx hb dX5_norm_71 (lv_at hl 0 rfl) ?_
        refine lv_iload_n hx hb dX5_norm_73 rfl (lv_at hl 4 rfl) ?_
        refine lv_icmp_ge (tgt := 93) hx hb dX5_norm_74 (by decide) (fun _ => ?_) (fun h => absurd (by decide) h)
        refine lv_iconst (v := 1) hx hb dX5_norm_93 (by decide) ?_
        have he : z5_norm_3_3 f = (1, vp_updL (vp_updL (vp_updL f 0 ((f 0) / (z5_common (z5_common (z5_common 0 (f 0)) (f 1)) (f 2)))) 1 ((f 1) / (z5_common (z5_common (z5_common 0 (f 0)) (f 1)) (f 2)))) 2 ((f 2) / (z5_common (z5_common (z5_common 0 (f 0)) (f 1)) (f 2)))) := by unfold z5_norm_3_3; rw [if_neg c_1, if_neg c_2, if_pos c_3]
        have he_0 : (z5_norm_3_3 f).1 = 1 := by rw [he]
        have he_1 : (z5_norm_3_3 f).2 = vp_updL (vp_updL (vp_updL f 0 ((f 0) / (z5_common (z5_common (z5_common 0 (f 0)) (f 1)) (f 2)))) 1 ((f 1) / (z5_common (z5_common (z5_common 0 (f 0)) (f 1)) (f 2)))) 2 ((f 2) / (z5_common (z5_common (z5_common 0 (f 0)) (f 1)) (f 2))) := by rw [he]
        exact rt_z (w1 := fun uu : Unit => [kJ h cJ 3 ((z5_norm_3_3 f).2)]) hx hb hr rfl hlk hS dX5_norm_94 (()) he_0.symm (by rw [he_1]; exact hP) (by rw [he_1]; exact hD)
      · skip
        refine lv_lload_n hx hb dX5_norm_61 rfl (lv_at hl 1 rfl) ?_
        refine lv_lneg hx hb dX5_norm_62 ?_
        refine lv_goto (tgt := 67) hx hb dX5_norm_63 (by decide) ?_
        refine lv_lstore_n (lv' := [(2, .long (-(z5_common (z5_common (z5_common 0 (f 0)) (f 1)) (f 2)))), (4, .int 0), (0, .ref h), (1, .int 3)]) hx hb dX5_norm_67 rfl hl (by decide) rfl (fun ls hl => ?_)
        refine lv_iconst (v := 0) hx hb dX5_norm_68 (by decide) ?_
        refine lv_istore (lv' := [(5, .int 0), (2, .long (-(z5_common (z5_common (z5_common 0 (f 0)) (f 1)) (f 2)))), (4, .int 0), (0, .ref h), (1, .int 3)]) hx hb dX5_norm_69 hl (by decide) rfl (fun ls hl => ?_)
        refine lv_iload hx hb dX5_norm_71 (lv_at hl 0 rfl) ?_
        refine lv_iload_n hx hb dX5_norm_73 rfl (lv_at hl 4 rfl) ?_
        refine lv_icmp_ge (tgt := 93) hx hb dX5_norm_74 (by decide) (fun h => absurd h (by decide)) (fun _ => ?_)
        refine lv_aload_n hx hb dX5_norm_77 rfl (lv_at hl 3 rfl) ?_
        refine lv_iload hx hb dX5_norm_78 (lv_at hl 0 rfl) ?_
        refine lv_aload_n hx hb dX5_norm_80 rfl (lv_at hl 3 rfl) ?_
        refine lv_iload hx hb dX5_norm_81 (lv_at hl 0 rfl) ?_
        refine ld_l hx hb hK.1 hP 0 1 rfl rfl (ix_lit (by decide)) 0 (by decide) (v := f 0) rfl dX5_norm_83 ?_
        refine lv_lload_n hx hb dX5_norm_84 rfl (lv_at hl 1 rfl) ?_
        refine lv_ldiv hx hb dX5_norm_85 (ng_ne c_1) ?_
        refine st_l hx hb hK.1 hP hD hS 0 1 rfl rfl (ix_lit (by decide)) 0 (by decide) dX5_norm_86 (fun H locs hP hD hS => ?_)
        have hP : va_P D vwCl [kJ h cJ 3 (vp_updL f 0 ((f 0) / (-(z5_common (z5_common (z5_common 0 (f 0)) (f 1)) (f 2)))))] H := hP
        have hD : va_D A [kJ h cJ 3 (vp_updL f 0 ((f 0) / (-(z5_common (z5_common (z5_common 0 (f 0)) (f 1)) (f 2)))))] := hD
        refine lv_iinc (v := 1) (lv' := [(5, .int 1), (2, .long (-(z5_common (z5_common (z5_common 0 (f 0)) (f 1)) (f 2)))), (4, .int 0), (0, .ref h), (1, .int 3)]) hx hb dX5_norm_87 hl (k := 0) rfl (by decide) (by decide) rfl (fun ls hl => ?_)
        refine lv_goto (tgt := 71) hx hb dX5_norm_90 (by decide) ?_
        refine lv_iload hx hb dX5_norm_71 (lv_at hl 0 rfl) ?_
        refine lv_iload_n hx hb dX5_norm_73 rfl (lv_at hl 4 rfl) ?_
        refine lv_icmp_ge (tgt := 93) hx hb dX5_norm_74 (by decide) (fun h => absurd h (by decide)) (fun _ => ?_)
        refine lv_aload_n hx hb dX5_norm_77 rfl (lv_at hl 3 rfl) ?_
        refine lv_iload hx hb dX5_norm_78 (lv_at hl 0 rfl) ?_
        refine lv_aload_n hx hb dX5_norm_80 rfl (lv_at hl 3 rfl) ?_
        refine lv_iload hx hb dX5_norm_81 (lv_at hl 0 rfl) ?_
        refine ld_l hx hb hK.1 hP 0 1 rfl rfl (ix_lit (by decide)) 1 (by decide) (v := f 1) rfl dX5_norm_83 ?_
        refine lv_lload_n hx hb dX5_norm_84 rfl (lv_at hl 1 rfl) ?_
        refine lv_ldiv hx hb dX5_norm_85 (ng_ne c_1) ?_
        refine st_l hx hb hK.1 hP hD hS 0 1 rfl rfl (ix_lit (by decide)) 1 (by decide) dX5_norm_86 (fun H locs hP hD hS => ?_)
        have hP : va_P D vwCl [kJ h cJ 3 (vp_updL (vp_updL f 0 ((f 0) / (-(z5_common (z5_common (z5_common 0 (f 0)) (f 1)) (f 2))))) 1 ((f 1) / (-(z5_common (z5_common (z5_common 0 (f 0)) (f 1)) (f 2)))))] H := hP
        have hD : va_D A [kJ h cJ 3 (vp_updL (vp_updL f 0 ((f 0) / (-(z5_common (z5_common (z5_common 0 (f 0)) (f 1)) (f 2))))) 1 ((f 1) / (-(z5_common (z5_common (z5_common 0 (f 0)) (f 1)) (f 2)))))] := hD
        refine lv_iinc (v := 2) (lv' := [(5, .int 2), (2, .long (-(z5_common (z5_common (z5_common 0 (f 0)) (f 1)) (f 2)))), (4, .int 0), (0, .ref h), (1, .int 3)]) hx hb dX5_norm_87 hl (k := 0) rfl (by decide) (by decide) rfl (fun ls hl => ?_)
        refine lv_goto (tgt := 71) hx hb dX5_norm_90 (by decide) ?_
        refine lv_iload hx hb dX5_norm_71 (lv_at hl 0 rfl) ?_
        refine lv_iload_n hx hb dX5_norm_73 rfl (lv_at hl 4 rfl) ?_
        refine lv_icmp_ge (tgt := 93) hx hb dX5_norm_74 (by decide) (fun h => absurd h (by decide)) (fun _ => ?_)
        refine lv_aload_n hx hb dX5_norm_77 rfl (lv_at hl 3 rfl) ?_
        refine lv_iload hx hb dX5_norm_78 (lv_at hl 0 rfl) ?_
        refine lv_aload_n hx hb dX5_norm_80 rfl (lv_at hl 3 rfl) ?_
        refine lv_iload hx hb dX5_norm_81 (lv_at hl 0 rfl) ?_
        refine ld_l hx hb hK.1 hP 0 1 rfl rfl (ix_lit (by decide)) 2 (by decide) (v := f 2) rfl dX5_norm_83 ?_
        refine lv_lload_n hx hb dX5_norm_84 rfl (lv_at hl 1 rfl) ?_
        refine lv_ldiv hx hb dX5_norm_85 (ng_ne c_1) ?_
        refine st_l hx hb hK.1 hP hD hS 0 1 rfl rfl (ix_lit (by decide)) 2 (by decide) dX5_norm_86 (fun H locs hP hD hS => ?_)
        have hP : va_P D vwCl [kJ h cJ 3 (vp_updL (vp_updL (vp_updL f 0 ((f 0) / (-(z5_common (z5_common (z5_common 0 (f 0)) (f 1)) (f 2))))) 1 ((f 1) / (-(z5_common (z5_common (z5_common 0 (f 0)) (f 1)) (f 2))))) 2 ((f 2) / (-(z5_common (z5_common (z5_common 0 (f 0)) (f 1)) (f 2)))))] H := hP
        have hD : va_D A [kJ h cJ 3 (vp_updL (vp_updL (vp_updL f 0 ((f 0) / (-(z5_common (z5_common (z5_common 0 (f 0)) (f 1)) (f 2))))) 1 ((f 1) / (-(z5_common (z5_common (z5_common 0 (f 0)) (f 1)) (f 2))))) 2 ((f 2) / (-(z5_common (z5_common (z5_common 0 (f 0)) (f 1)) (f 2)))))] := hD
        refine lv_iinc (v := 3) (lv' := [(5, .int 3), (2, .long (-(z5_common (z5_common (z5_common 0 (f 0)) (f 1)) (f 2)))), (4, .int 0), (0, .ref h), (1, .int 3)]) hx hb dX5_norm_87 hl (k := 0) rfl (by decide) (by decide) rfl (fun ls hl => ?_)
        refine lv_goto (tgt := 71) hx hb dX5_norm_90 (by decide) ?_
        refine lv_iload hx hb dX5_norm_71 (lv_at hl 0 rfl) ?_
        refine lv_iload_n hx hb dX5_norm_73 rfl (lv_at hl 4 rfl) ?_
        refine lv_icmp_ge (tgt := 93) hx hb dX5_norm_74 (by decide) (fun _ => ?_) (fun h => absurd (by decide) h)
        refine lv_iconst (v := 1) hx hb dX5_norm_93 (by decide) ?_
        have he : z5_norm_3_3 f = (1, vp_updL (vp_updL (vp_updL f 0 ((f 0) / (-(z5_common (z5_common (z5_common 0 (f 0)) (f 1)) (f 2))))) 1 ((f 1) / (-(z5_common (z5_common (z5_common 0 (f 0)) (f 1)) (f 2))))) 2 ((f 2) / (-(z5_common (z5_common (z5_common 0 (f 0)) (f 1)) (f 2))))) := by unfold z5_norm_3_3; rw [if_neg c_1, if_neg c_2, if_neg c_3]
        have he_0 : (z5_norm_3_3 f).1 = 1 := by rw [he]
        have he_1 : (z5_norm_3_3 f).2 = vp_updL (vp_updL (vp_updL f 0 ((f 0) / (-(z5_common (z5_common (z5_common 0 (f 0)) (f 1)) (f 2))))) 1 ((f 1) / (-(z5_common (z5_common (z5_common 0 (f 0)) (f 1)) (f 2))))) 2 ((f 2) / (-(z5_common (z5_common (z5_common 0 (f 0)) (f 1)) (f 2)))) := by rw [he]
        exact rt_z (w1 := fun uu : Unit => [kJ h cJ 3 ((z5_norm_3_3 f).2)]) hx hb hr rfl hlk hS dX5_norm_94 (()) he_0.symm (by rw [he_1]; exact hP) (by rw [he_1]; exact hD)
    · skip
      refine lv_iinc (v := 1) (lv' := [(4, .int 1), (2, .long (z5_common (z5_common (z5_common 0 (f 0)) (f 1)) (f 2))), (0, .ref h), (1, .int 3)]) hx hb dX5_norm_46 hl (k := 0) rfl (by decide) (by decide) rfl (fun ls hl => ?_)
      refine lv_goto (tgt := 37) hx hb dX5_norm_49 (by decide) ?_
      refine lv_aload_n hx hb dX5_norm_37 rfl (lv_at hl 2 rfl) ?_
      refine lv_iload hx hb dX5_norm_38 (lv_at hl 0 rfl) ?_
      refine ld_l hx hb hK.1 hP 0 1 rfl rfl (ix_lit (by decide)) 1 (by decide) (v := f 1) rfl dX5_norm_40 ?_
      refine lv_lconst (v := 0) hx hb dX5_norm_41 (by decide) ?_
      refine lb_ne (tgt := 52) hx hb dX5_norm_42 rfl dX5_norm_43 (by decide) (fun c_4 => ?_) (fun c_4 => ?_)
      · skip
        refine lv_aload_n hx hb dX5_norm_52 rfl (lv_at hl 2 rfl) ?_
        refine lv_iload hx hb dX5_norm_53 (lv_at hl 0 rfl) ?_
        refine ld_l hx hb hK.1 hP 0 1 rfl rfl (ix_lit (by decide)) 1 (by decide) (v := f 1) rfl dX5_norm_55 ?_
        refine lv_lconst (v := 0) hx hb dX5_norm_56 (by decide) ?_
        refine lb_ge (tgt := 66) hx hb dX5_norm_57 rfl dX5_norm_58 (by decide) (fun c_5 => ?_) (fun c_5 => ?_)
        · skip
          refine lv_lload_n hx hb dX5_norm_66 rfl (lv_at hl 1 rfl) ?_
          refine lv_lstore_n (lv' := [(2, .long (z5_common (z5_common (z5_common 0 (f 0)) (f 1)) (f 2))), (4, .int 1), (0, .ref h), (1, .int 3)]) hx hb dX5_norm_67 rfl hl (by decide) rfl (fun ls hl => ?_)
          refine lv_iconst (v := 0) hx hb dX5_norm_68 (by decide) ?_
          refine lv_istore (lv' := [(5, .int 0), (2, .long (z5_common (z5_common (z5_common 0 (f 0)) (f 1)) (f 2))), (4, .int 1), (0, .ref h), (1, .int 3)]) hx hb dX5_norm_69 hl (by decide) rfl (fun ls hl => ?_)
          refine lv_iload hx hb dX5_norm_71 (lv_at hl 0 rfl) ?_
          refine lv_iload_n hx hb dX5_norm_73 rfl (lv_at hl 4 rfl) ?_
          refine lv_icmp_ge (tgt := 93) hx hb dX5_norm_74 (by decide) (fun h => absurd h (by decide)) (fun _ => ?_)
          refine lv_aload_n hx hb dX5_norm_77 rfl (lv_at hl 3 rfl) ?_
          refine lv_iload hx hb dX5_norm_78 (lv_at hl 0 rfl) ?_
          refine lv_aload_n hx hb dX5_norm_80 rfl (lv_at hl 3 rfl) ?_
          refine lv_iload hx hb dX5_norm_81 (lv_at hl 0 rfl) ?_
          refine ld_l hx hb hK.1 hP 0 1 rfl rfl (ix_lit (by decide)) 0 (by decide) (v := f 0) rfl dX5_norm_83 ?_
          refine lv_lload_n hx hb dX5_norm_84 rfl (lv_at hl 1 rfl) ?_
          refine lv_ldiv hx hb dX5_norm_85 c_1 ?_
          refine st_l hx hb hK.1 hP hD hS 0 1 rfl rfl (ix_lit (by decide)) 0 (by decide) dX5_norm_86 (fun H locs hP hD hS => ?_)
          have hP : va_P D vwCl [kJ h cJ 3 (vp_updL f 0 ((f 0) / (z5_common (z5_common (z5_common 0 (f 0)) (f 1)) (f 2))))] H := hP
          have hD : va_D A [kJ h cJ 3 (vp_updL f 0 ((f 0) / (z5_common (z5_common (z5_common 0 (f 0)) (f 1)) (f 2))))] := hD
          refine lv_iinc (v := 1) (lv' := [(5, .int 1), (2, .long (z5_common (z5_common (z5_common 0 (f 0)) (f 1)) (f 2))), (4, .int 1), (0, .ref h), (1, .int 3)]) hx hb dX5_norm_87 hl (k := 0) rfl (by decide) (by decide) rfl (fun ls hl => ?_)
          refine lv_goto (tgt := 71) hx hb dX5_norm_90 (by decide) ?_
          refine lv_iload hx hb dX5_norm_71 (lv_at hl 0 rfl) ?_
          refine lv_iload_n hx hb dX5_norm_73 rfl (lv_at hl 4 rfl) ?_
          refine lv_icmp_ge (tgt := 93) hx hb dX5_norm_74 (by decide) (fun h => absurd h (by decide)) (fun _ => ?_)
          refine lv_aload_n hx hb dX5_norm_77 rfl (lv_at hl 3 rfl) ?_
          refine lv_iload hx hb dX5_norm_78 (lv_at hl 0 rfl) ?_
          refine lv_aload_n hx hb dX5_norm_80 rfl (lv_at hl 3 rfl) ?_
          refine lv_iload hx hb dX5_norm_81 (lv_at hl 0 rfl) ?_
          refine ld_l hx hb hK.1 hP 0 1 rfl rfl (ix_lit (by decide)) 1 (by decide) (v := f 1) rfl dX5_norm_83 ?_
          refine lv_lload_n hx hb dX5_norm_84 rfl (lv_at hl 1 rfl) ?_
          refine lv_ldiv hx hb dX5_norm_85 c_1 ?_
          refine st_l hx hb hK.1 hP hD hS 0 1 rfl rfl (ix_lit (by decide)) 1 (by decide) dX5_norm_86 (fun H locs hP hD hS => ?_)
          have hP : va_P D vwCl [kJ h cJ 3 (vp_updL (vp_updL f 0 ((f 0) / (z5_common (z5_common (z5_common 0 (f 0)) (f 1)) (f 2)))) 1 ((f 1) / (z5_common (z5_common (z5_common 0 (f 0)) (f 1)) (f 2))))] H := hP
          have hD : va_D A [kJ h cJ 3 (vp_updL (vp_updL f 0 ((f 0) / (z5_common (z5_common (z5_common 0 (f 0)) (f 1)) (f 2)))) 1 ((f 1) / (z5_common (z5_common (z5_common 0 (f 0)) (f 1)) (f 2))))] := hD
          refine lv_iinc (v := 2) (lv' := [(5, .int 2), (2, .long (z5_common (z5_common (z5_common 0 (f 0)) (f 1)) (f 2))), (4, .int 1), (0, .ref h), (1, .int 3)]) hx hb dX5_norm_87 hl (k := 0) rfl (by decide) (by decide) rfl (fun ls hl => ?_)
          refine lv_goto (tgt := 71) hx hb dX5_norm_90 (by decide) ?_
          refine lv_iload hx hb dX5_norm_71 (lv_at hl 0 rfl) ?_
          refine lv_iload_n hx hb dX5_norm_73 rfl (lv_at hl 4 rfl) ?_
          refine lv_icmp_ge (tgt := 93) hx hb dX5_norm_74 (by decide) (fun h => absurd h (by decide)) (fun _ => ?_)
          refine lv_aload_n hx hb dX5_norm_77 rfl (lv_at hl 3 rfl) ?_
          refine lv_iload hx hb dX5_norm_78 (lv_at hl 0 rfl) ?_
          refine lv_aload_n hx hb dX5_norm_80 rfl (lv_at hl 3 rfl) ?_
          refine lv_iload hx hb dX5_norm_81 (lv_at hl 0 rfl) ?_
          refine ld_l hx hb hK.1 hP 0 1 rfl rfl (ix_lit (by decide)) 2 (by decide) (v := f 2) rfl dX5_norm_83 ?_
          refine lv_lload_n hx hb dX5_norm_84 rfl (lv_at hl 1 rfl) ?_
          refine lv_ldiv hx hb dX5_norm_85 c_1 ?_
          refine st_l hx hb hK.1 hP hD hS 0 1 rfl rfl (ix_lit (by decide)) 2 (by decide) dX5_norm_86 (fun H locs hP hD hS => ?_)
          have hP : va_P D vwCl [kJ h cJ 3 (vp_updL (vp_updL (vp_updL f 0 ((f 0) / (z5_common (z5_common (z5_common 0 (f 0)) (f 1)) (f 2)))) 1 ((f 1) / (z5_common (z5_common (z5_common 0 (f 0)) (f 1)) (f 2)))) 2 ((f 2) / (z5_common (z5_common (z5_common 0 (f 0)) (f 1)) (f 2))))] H := hP
          have hD : va_D A [kJ h cJ 3 (vp_updL (vp_updL (vp_updL f 0 ((f 0) / (z5_common (z5_common (z5_common 0 (f 0)) (f 1)) (f 2)))) 1 ((f 1) / (z5_common (z5_common (z5_common 0 (f 0)) (f 1)) (f 2)))) 2 ((f 2) / (z5_common (z5_common (z5_common 0 (f 0)) (f 1)) (f 2))))] := hD
          refine lv_iinc (v := 3) (lv' := [(5, .int 3), (2, .long (z5_common (z5_common (z5_common 0 (f 0)) (f 1)) (f 2))), (4, .int 1), (0, .ref h), (1, .int 3)]) hx hb dX5_norm_87 hl (k := 0) rfl (by decide) (by decide) rfl (fun ls hl => ?_)
          refine lv_goto (tgt := 71) hx hb dX5_norm_90 (by decide) ?_
          refine lv_iload hx hb dX5_norm_71 (lv_at hl 0 rfl) ?_
          refine lv_iload_n hx hb dX5_norm_73 rfl (lv_at hl 4 rfl) ?_
          refine lv_icmp_ge (tgt := 93) hx hb dX5_norm_74 (by decide) (fun _ => ?_) (fun h => absurd (by decide) h)
          refine lv_iconst (v := 1) hx hb dX5_norm_93 (by decide) ?_
          have he : z5_norm_3_3 f = (1, vp_updL (vp_updL (vp_updL f 0 ((f 0) / (z5_common (z5_common (z5_common 0 (f 0)) (f 1)) (f 2)))) 1 ((f 1) / (z5_common (z5_common (z5_common 0 (f 0)) (f 1)) (f 2)))) 2 ((f 2) / (z5_common (z5_common (z5_common 0 (f 0)) (f 1)) (f 2)))) := by unfold z5_norm_3_3; rw [if_neg c_1, if_pos c_2, if_neg c_4, if_pos c_5]
          have he_0 : (z5_norm_3_3 f).1 = 1 := by rw [he]
          have he_1 : (z5_norm_3_3 f).2 = vp_updL (vp_updL (vp_updL f 0 ((f 0) / (z5_common (z5_common (z5_common 0 (f 0)) (f 1)) (f 2)))) 1 ((f 1) / (z5_common (z5_common (z5_common 0 (f 0)) (f 1)) (f 2)))) 2 ((f 2) / (z5_common (z5_common (z5_common 0 (f 0)) (f 1)) (f 2))) := by rw [he]
          exact rt_z (w1 := fun uu : Unit => [kJ h cJ 3 ((z5_norm_3_3 f).2)]) hx hb hr rfl hlk hS dX5_norm_94 (()) he_0.symm (by rw [he_1]; exact hP) (by rw [he_1]; exact hD)
        · skip
          refine lv_lload_n hx hb dX5_norm_61 rfl (lv_at hl 1 rfl) ?_
          refine lv_lneg hx hb dX5_norm_62 ?_
          refine lv_goto (tgt := 67) hx hb dX5_norm_63 (by decide) ?_
          refine lv_lstore_n (lv' := [(2, .long (-(z5_common (z5_common (z5_common 0 (f 0)) (f 1)) (f 2)))), (4, .int 1), (0, .ref h), (1, .int 3)]) hx hb dX5_norm_67 rfl hl (by decide) rfl (fun ls hl => ?_)
          refine lv_iconst (v := 0) hx hb dX5_norm_68 (by decide) ?_
          refine lv_istore (lv' := [(5, .int 0), (2, .long (-(z5_common (z5_common (z5_common 0 (f 0)) (f 1)) (f 2)))), (4, .int 1), (0, .ref h), (1, .int 3)]) hx hb dX5_norm_69 hl (by decide) rfl (fun ls hl => ?_)
          refine lv_iload hx hb dX5_norm_71 (lv_at hl 0 rfl) ?_
          refine lv_iload_n hx hb dX5_norm_73 rfl (lv_at hl 4 rfl) ?_
          refine lv_icmp_ge (tgt := 93) hx hb dX5_norm_74 (by decide) (fun h => absurd h (by decide)) (fun _ => ?_)
          refine lv_aload_n hx hb dX5_norm_77 rfl (lv_at hl 3 rfl) ?_
          refine lv_iload hx hb dX5_norm_78 (lv_at hl 0 rfl) ?_
          refine lv_aload_n hx hb dX5_norm_80 rfl (lv_at hl 3 rfl) ?_
          refine lv_iload hx hb dX5_norm_81 (lv_at hl 0 rfl) ?_
          refine ld_l hx hb hK.1 hP 0 1 rfl rfl (ix_lit (by decide)) 0 (by decide) (v := f 0) rfl dX5_norm_83 ?_
          refine lv_lload_n hx hb dX5_norm_84 rfl (lv_at hl 1 rfl) ?_
          refine lv_ldiv hx hb dX5_norm_85 (ng_ne c_1) ?_
          refine st_l hx hb hK.1 hP hD hS 0 1 rfl rfl (ix_lit (by decide)) 0 (by decide) dX5_norm_86 (fun H locs hP hD hS => ?_)
          have hP : va_P D vwCl [kJ h cJ 3 (vp_updL f 0 ((f 0) / (-(z5_common (z5_common (z5_common 0 (f 0)) (f 1)) (f 2)))))] H := hP
          have hD : va_D A [kJ h cJ 3 (vp_updL f 0 ((f 0) / (-(z5_common (z5_common (z5_common 0 (f 0)) (f 1)) (f 2)))))] := hD
          refine lv_iinc (v := 1) (lv' := [(5, .int 1), (2, .long (-(z5_common (z5_common (z5_common 0 (f 0)) (f 1)) (f 2)))), (4, .int 1), (0, .ref h), (1, .int 3)]) hx hb dX5_norm_87 hl (k := 0) rfl (by decide) (by decide) rfl (fun ls hl => ?_)
          refine lv_goto (tgt := 71) hx hb dX5_norm_90 (by decide) ?_
          refine lv_iload hx hb dX5_norm_71 (lv_at hl 0 rfl) ?_
          refine lv_iload_n hx hb dX5_norm_73 rfl (lv_at hl 4 rfl) ?_
          refine lv_icmp_ge (tgt := 93) hx hb dX5_norm_74 (by decide) (fun h => absurd h (by decide)) (fun _ => ?_)
          refine lv_aload_n hx hb dX5_norm_77 rfl (lv_at hl 3 rfl) ?_
          refine lv_iload hx hb dX5_norm_78 (lv_at hl 0 rfl) ?_
          refine lv_aload_n hx hb dX5_norm_80 rfl (lv_at hl 3 rfl) ?_
          refine lv_iload hx hb dX5_norm_81 (lv_at hl 0 rfl) ?_
          refine ld_l hx hb hK.1 hP 0 1 rfl rfl (ix_lit (by decide)) 1 (by decide) (v := f 1) rfl dX5_norm_83 ?_
          refine lv_lload_n hx hb dX5_norm_84 rfl (lv_at hl 1 rfl) ?_
          refine lv_ldiv hx hb dX5_norm_85 (ng_ne c_1) ?_
          refine st_l hx hb hK.1 hP hD hS 0 1 rfl rfl (ix_lit (by decide)) 1 (by decide) dX5_norm_86 (fun H locs hP hD hS => ?_)
          have hP : va_P D vwCl [kJ h cJ 3 (vp_updL (vp_updL f 0 ((f 0) / (-(z5_common (z5_common (z5_common 0 (f 0)) (f 1)) (f 2))))) 1 ((f 1) / (-(z5_common (z5_common (z5_common 0 (f 0)) (f 1)) (f 2)))))] H := hP
          have hD : va_D A [kJ h cJ 3 (vp_updL (vp_updL f 0 ((f 0) / (-(z5_common (z5_common (z5_common 0 (f 0)) (f 1)) (f 2))))) 1 ((f 1) / (-(z5_common (z5_common (z5_common 0 (f 0)) (f 1)) (f 2)))))] := hD
          refine lv_iinc (v := 2) (lv' := [(5, .int 2), (2, .long (-(z5_common (z5_common (z5_common 0 (f 0)) (f 1)) (f 2)))), (4, .int 1), (0, .ref h), (1, .int 3)]) hx hb dX5_norm_87 hl (k := 0) rfl (by decide) (by decide) rfl (fun ls hl => ?_)
          refine lv_goto (tgt := 71) hx hb dX5_norm_90 (by decide) ?_
          refine lv_iload hx hb dX5_norm_71 (lv_at hl 0 rfl) ?_
          refine lv_iload_n hx hb dX5_norm_73 rfl (lv_at hl 4 rfl) ?_
          refine lv_icmp_ge (tgt := 93) hx hb dX5_norm_74 (by decide) (fun h => absurd h (by decide)) (fun _ => ?_)
          refine lv_aload_n hx hb dX5_norm_77 rfl (lv_at hl 3 rfl) ?_
          refine lv_iload hx hb dX5_norm_78 (lv_at hl 0 rfl) ?_
          refine lv_aload_n hx hb dX5_norm_80 rfl (lv_at hl 3 rfl) ?_
          refine lv_iload hx hb dX5_norm_81 (lv_at hl 0 rfl) ?_
          refine ld_l hx hb hK.1 hP 0 1 rfl rfl (ix_lit (by decide)) 2 (by decide) (v := f 2) rfl dX5_norm_83 ?_
          refine lv_lload_n hx hb dX5_norm_84 rfl (lv_at hl 1 rfl) ?_
          refine lv_ldiv hx hb dX5_norm_85 (ng_ne c_1) ?_
          refine st_l hx hb hK.1 hP hD hS 0 1 rfl rfl (ix_lit (by decide)) 2 (by decide) dX5_norm_86 (fun H locs hP hD hS => ?_)
          have hP : va_P D vwCl [kJ h cJ 3 (vp_updL (vp_updL (vp_updL f 0 ((f 0) / (-(z5_common (z5_common (z5_common 0 (f 0)) (f 1)) (f 2))))) 1 ((f 1) / (-(z5_common (z5_common (z5_common 0 (f 0)) (f 1)) (f 2))))) 2 ((f 2) / (-(z5_common (z5_common (z5_common 0 (f 0)) (f 1)) (f 2)))))] H := hP
          have hD : va_D A [kJ h cJ 3 (vp_updL (vp_updL (vp_updL f 0 ((f 0) / (-(z5_common (z5_common (z5_common 0 (f 0)) (f 1)) (f 2))))) 1 ((f 1) / (-(z5_common (z5_common (z5_common 0 (f 0)) (f 1)) (f 2))))) 2 ((f 2) / (-(z5_common (z5_common (z5_common 0 (f 0)) (f 1)) (f 2)))))] := hD
          refine lv_iinc (v := 3) (lv' := [(5, .int 3), (2, .long (-(z5_common (z5_common (z5_common 0 (f 0)) (f 1)) (f 2)))), (4, .int 1), (0, .ref h), (1, .int 3)]) hx hb dX5_norm_87 hl (k := 0) rfl (by decide) (by decide) rfl (fun ls hl => ?_)
          refine lv_goto (tgt := 71) hx hb dX5_norm_90 (by decide) ?_
          refine lv_iload hx hb dX5_norm_71 (lv_at hl 0 rfl) ?_
          refine lv_iload_n hx hb dX5_norm_73 rfl (lv_at hl 4 rfl) ?_
          refine lv_icmp_ge (tgt := 93) hx hb dX5_norm_74 (by decide) (fun _ => ?_) (fun h => absurd (by decide) h)
          refine lv_iconst (v := 1) hx hb dX5_norm_93 (by decide) ?_
          have he : z5_norm_3_3 f = (1, vp_updL (vp_updL (vp_updL f 0 ((f 0) / (-(z5_common (z5_common (z5_common 0 (f 0)) (f 1)) (f 2))))) 1 ((f 1) / (-(z5_common (z5_common (z5_common 0 (f 0)) (f 1)) (f 2))))) 2 ((f 2) / (-(z5_common (z5_common (z5_common 0 (f 0)) (f 1)) (f 2))))) := by unfold z5_norm_3_3; rw [if_neg c_1, if_pos c_2, if_neg c_4, if_neg c_5]
          have he_0 : (z5_norm_3_3 f).1 = 1 := by rw [he]
          have he_1 : (z5_norm_3_3 f).2 = vp_updL (vp_updL (vp_updL f 0 ((f 0) / (-(z5_common (z5_common (z5_common 0 (f 0)) (f 1)) (f 2))))) 1 ((f 1) / (-(z5_common (z5_common (z5_common 0 (f 0)) (f 1)) (f 2))))) 2 ((f 2) / (-(z5_common (z5_common (z5_common 0 (f 0)) (f 1)) (f 2)))) := by rw [he]
          exact rt_z (w1 := fun uu : Unit => [kJ h cJ 3 ((z5_norm_3_3 f).2)]) hx hb hr rfl hlk hS dX5_norm_94 (()) he_0.symm (by rw [he_1]; exact hP) (by rw [he_1]; exact hD)
      · skip
        refine lv_iinc (v := 2) (lv' := [(4, .int 2), (2, .long (z5_common (z5_common (z5_common 0 (f 0)) (f 1)) (f 2))), (0, .ref h), (1, .int 3)]) hx hb dX5_norm_46 hl (k := 0) rfl (by decide) (by decide) rfl (fun ls hl => ?_)
        refine lv_goto (tgt := 37) hx hb dX5_norm_49 (by decide) ?_
        refine lv_aload_n hx hb dX5_norm_37 rfl (lv_at hl 2 rfl) ?_
        refine lv_iload hx hb dX5_norm_38 (lv_at hl 0 rfl) ?_
        refine ld_l hx hb hK.1 hP 0 1 rfl rfl (ix_lit (by decide)) 2 (by decide) (v := f 2) rfl dX5_norm_40 ?_
        refine lv_lconst (v := 0) hx hb dX5_norm_41 (by decide) ?_
        refine lb_ne (tgt := 52) hx hb dX5_norm_42 rfl dX5_norm_43 (by decide) (fun c_6 => ?_) (fun c_6 => ?_)
        · skip
          refine lv_aload_n hx hb dX5_norm_52 rfl (lv_at hl 2 rfl) ?_
          refine lv_iload hx hb dX5_norm_53 (lv_at hl 0 rfl) ?_
          refine ld_l hx hb hK.1 hP 0 1 rfl rfl (ix_lit (by decide)) 2 (by decide) (v := f 2) rfl dX5_norm_55 ?_
          refine lv_lconst (v := 0) hx hb dX5_norm_56 (by decide) ?_
          refine lb_ge (tgt := 66) hx hb dX5_norm_57 rfl dX5_norm_58 (by decide) (fun c_7 => ?_) (fun c_7 => ?_)
          · skip
            refine lv_lload_n hx hb dX5_norm_66 rfl (lv_at hl 1 rfl) ?_
            refine lv_lstore_n (lv' := [(2, .long (z5_common (z5_common (z5_common 0 (f 0)) (f 1)) (f 2))), (4, .int 2), (0, .ref h), (1, .int 3)]) hx hb dX5_norm_67 rfl hl (by decide) rfl (fun ls hl => ?_)
            refine lv_iconst (v := 0) hx hb dX5_norm_68 (by decide) ?_
            refine lv_istore (lv' := [(5, .int 0), (2, .long (z5_common (z5_common (z5_common 0 (f 0)) (f 1)) (f 2))), (4, .int 2), (0, .ref h), (1, .int 3)]) hx hb dX5_norm_69 hl (by decide) rfl (fun ls hl => ?_)
            refine lv_iload hx hb dX5_norm_71 (lv_at hl 0 rfl) ?_
            refine lv_iload_n hx hb dX5_norm_73 rfl (lv_at hl 4 rfl) ?_
            refine lv_icmp_ge (tgt := 93) hx hb dX5_norm_74 (by decide) (fun h => absurd h (by decide)) (fun _ => ?_)
            refine lv_aload_n hx hb dX5_norm_77 rfl (lv_at hl 3 rfl) ?_
            refine lv_iload hx hb dX5_norm_78 (lv_at hl 0 rfl) ?_
            refine lv_aload_n hx hb dX5_norm_80 rfl (lv_at hl 3 rfl) ?_
            refine lv_iload hx hb dX5_norm_81 (lv_at hl 0 rfl) ?_
            refine ld_l hx hb hK.1 hP 0 1 rfl rfl (ix_lit (by decide)) 0 (by decide) (v := f 0) rfl dX5_norm_83 ?_
            refine lv_lload_n hx hb dX5_norm_84 rfl (lv_at hl 1 rfl) ?_
            refine lv_ldiv hx hb dX5_norm_85 c_1 ?_
            refine st_l hx hb hK.1 hP hD hS 0 1 rfl rfl (ix_lit (by decide)) 0 (by decide) dX5_norm_86 (fun H locs hP hD hS => ?_)
            have hP : va_P D vwCl [kJ h cJ 3 (vp_updL f 0 ((f 0) / (z5_common (z5_common (z5_common 0 (f 0)) (f 1)) (f 2))))] H := hP
            have hD : va_D A [kJ h cJ 3 (vp_updL f 0 ((f 0) / (z5_common (z5_common (z5_common 0 (f 0)) (f 1)) (f 2))))] := hD
            refine lv_iinc (v := 1) (lv' := [(5, .int 1), (2, .long (z5_common (z5_common (z5_common 0 (f 0)) (f 1)) (f 2))), (4, .int 2), (0, .ref h), (1, .int 3)]) hx hb dX5_norm_87 hl (k := 0) rfl (by decide) (by decide) rfl (fun ls hl => ?_)
            refine lv_goto (tgt := 71) hx hb dX5_norm_90 (by decide) ?_
            refine lv_iload hx hb dX5_norm_71 (lv_at hl 0 rfl) ?_
            refine lv_iload_n hx hb dX5_norm_73 rfl (lv_at hl 4 rfl) ?_
            refine lv_icmp_ge (tgt := 93) hx hb dX5_norm_74 (by decide) (fun h => absurd h (by decide)) (fun _ => ?_)
            refine lv_aload_n hx hb dX5_norm_77 rfl (lv_at hl 3 rfl) ?_
            refine lv_iload hx hb dX5_norm_78 (lv_at hl 0 rfl) ?_
            refine lv_aload_n hx hb dX5_norm_80 rfl (lv_at hl 3 rfl) ?_
            refine lv_iload hx hb dX5_norm_81 (lv_at hl 0 rfl) ?_
            refine ld_l hx hb hK.1 hP 0 1 rfl rfl (ix_lit (by decide)) 1 (by decide) (v := f 1) rfl dX5_norm_83 ?_
            refine lv_lload_n hx hb dX5_norm_84 rfl (lv_at hl 1 rfl) ?_
            refine lv_ldiv hx hb dX5_norm_85 c_1 ?_
            refine st_l hx hb hK.1 hP hD hS 0 1 rfl rfl (ix_lit (by decide)) 1 (by decide) dX5_norm_86 (fun H locs hP hD hS => ?_)
            have hP : va_P D vwCl [kJ h cJ 3 (vp_updL (vp_updL f 0 ((f 0) / (z5_common (z5_common (z5_common 0 (f 0)) (f 1)) (f 2)))) 1 ((f 1) / (z5_common (z5_common (z5_common 0 (f 0)) (f 1)) (f 2))))] H := hP
            have hD : va_D A [kJ h cJ 3 (vp_updL (vp_updL f 0 ((f 0) / (z5_common (z5_common (z5_common 0 (f 0)) (f 1)) (f 2)))) 1 ((f 1) / (z5_common (z5_common (z5_common 0 (f 0)) (f 1)) (f 2))))] := hD
            refine lv_iinc (v := 2) (lv' := [(5, .int 2), (2, .long (z5_common (z5_common (z5_common 0 (f 0)) (f 1)) (f 2))), (4, .int 2), (0, .ref h), (1, .int 3)]) hx hb dX5_norm_87 hl (k := 0) rfl (by decide) (by decide) rfl (fun ls hl => ?_)
            refine lv_goto (tgt := 71) hx hb dX5_norm_90 (by decide) ?_
            refine lv_iload hx hb dX5_norm_71 (lv_at hl 0 rfl) ?_
            refine lv_iload_n hx hb dX5_norm_73 rfl (lv_at hl 4 rfl) ?_
            refine lv_icmp_ge (tgt := 93) hx hb dX5_norm_74 (by decide) (fun h => absurd h (by decide)) (fun _ => ?_)
            refine lv_aload_n hx hb dX5_norm_77 rfl (lv_at hl 3 rfl) ?_
            refine lv_iload hx hb dX5_norm_78 (lv_at hl 0 rfl) ?_
            refine lv_aload_n hx hb dX5_norm_80 rfl (lv_at hl 3 rfl) ?_
            refine lv_iload hx hb dX5_norm_81 (lv_at hl 0 rfl) ?_
            refine ld_l hx hb hK.1 hP 0 1 rfl rfl (ix_lit (by decide)) 2 (by decide) (v := f 2) rfl dX5_norm_83 ?_
            refine lv_lload_n hx hb dX5_norm_84 rfl (lv_at hl 1 rfl) ?_
            refine lv_ldiv hx hb dX5_norm_85 c_1 ?_
            refine st_l hx hb hK.1 hP hD hS 0 1 rfl rfl (ix_lit (by decide)) 2 (by decide) dX5_norm_86 (fun H locs hP hD hS => ?_)
            have hP : va_P D vwCl [kJ h cJ 3 (vp_updL (vp_updL (vp_updL f 0 ((f 0) / (z5_common (z5_common (z5_common 0 (f 0)) (f 1)) (f 2)))) 1 ((f 1) / (z5_common (z5_common (z5_common 0 (f 0)) (f 1)) (f 2)))) 2 ((f 2) / (z5_common (z5_common (z5_common 0 (f 0)) (f 1)) (f 2))))] H := hP
            have hD : va_D A [kJ h cJ 3 (vp_updL (vp_updL (vp_updL f 0 ((f 0) / (z5_common (z5_common (z5_common 0 (f 0)) (f 1)) (f 2)))) 1 ((f 1) / (z5_common (z5_common (z5_common 0 (f 0)) (f 1)) (f 2)))) 2 ((f 2) / (z5_common (z5_common (z5_common 0 (f 0)) (f 1)) (f 2))))] := hD
            refine lv_iinc (v := 3) (lv' := [(5, .int 3), (2, .long (z5_common (z5_common (z5_common 0 (f 0)) (f 1)) (f 2))), (4, .int 2), (0, .ref h), (1, .int 3)]) hx hb dX5_norm_87 hl (k := 0) rfl (by decide) (by decide) rfl (fun ls hl => ?_)
            refine lv_goto (tgt := 71) hx hb dX5_norm_90 (by decide) ?_
            refine lv_iload hx hb dX5_norm_71 (lv_at hl 0 rfl) ?_
            refine lv_iload_n hx hb dX5_norm_73 rfl (lv_at hl 4 rfl) ?_
            refine lv_icmp_ge (tgt := 93) hx hb dX5_norm_74 (by decide) (fun _ => ?_) (fun h => absurd (by decide) h)
            refine lv_iconst (v := 1) hx hb dX5_norm_93 (by decide) ?_
            have he : z5_norm_3_3 f = (1, vp_updL (vp_updL (vp_updL f 0 ((f 0) / (z5_common (z5_common (z5_common 0 (f 0)) (f 1)) (f 2)))) 1 ((f 1) / (z5_common (z5_common (z5_common 0 (f 0)) (f 1)) (f 2)))) 2 ((f 2) / (z5_common (z5_common (z5_common 0 (f 0)) (f 1)) (f 2)))) := by unfold z5_norm_3_3; rw [if_neg c_1, if_pos c_2, if_pos c_4, if_neg c_6, if_pos c_7]
            have he_0 : (z5_norm_3_3 f).1 = 1 := by rw [he]
            have he_1 : (z5_norm_3_3 f).2 = vp_updL (vp_updL (vp_updL f 0 ((f 0) / (z5_common (z5_common (z5_common 0 (f 0)) (f 1)) (f 2)))) 1 ((f 1) / (z5_common (z5_common (z5_common 0 (f 0)) (f 1)) (f 2)))) 2 ((f 2) / (z5_common (z5_common (z5_common 0 (f 0)) (f 1)) (f 2))) := by rw [he]
            exact rt_z (w1 := fun uu : Unit => [kJ h cJ 3 ((z5_norm_3_3 f).2)]) hx hb hr rfl hlk hS dX5_norm_94 (()) he_0.symm (by rw [he_1]; exact hP) (by rw [he_1]; exact hD)
          · skip
            refine lv_lload_n hx hb dX5_norm_61 rfl (lv_at hl 1 rfl) ?_
            refine lv_lneg hx hb dX5_norm_62 ?_
            refine lv_goto (tgt := 67) hx hb dX5_norm_63 (by decide) ?_
            refine lv_lstore_n (lv' := [(2, .long (-(z5_common (z5_common (z5_common 0 (f 0)) (f 1)) (f 2)))), (4, .int 2), (0, .ref h), (1, .int 3)]) hx hb dX5_norm_67 rfl hl (by decide) rfl (fun ls hl => ?_)
            refine lv_iconst (v := 0) hx hb dX5_norm_68 (by decide) ?_
            refine lv_istore (lv' := [(5, .int 0), (2, .long (-(z5_common (z5_common (z5_common 0 (f 0)) (f 1)) (f 2)))), (4, .int 2), (0, .ref h), (1, .int 3)]) hx hb dX5_norm_69 hl (by decide) rfl (fun ls hl => ?_)
            refine lv_iload hx hb dX5_norm_71 (lv_at hl 0 rfl) ?_
            refine lv_iload_n hx hb dX5_norm_73 rfl (lv_at hl 4 rfl) ?_
            refine lv_icmp_ge (tgt := 93) hx hb dX5_norm_74 (by decide) (fun h => absurd h (by decide)) (fun _ => ?_)
            refine lv_aload_n hx hb dX5_norm_77 rfl (lv_at hl 3 rfl) ?_
            refine lv_iload hx hb dX5_norm_78 (lv_at hl 0 rfl) ?_
            refine lv_aload_n hx hb dX5_norm_80 rfl (lv_at hl 3 rfl) ?_
            refine lv_iload hx hb dX5_norm_81 (lv_at hl 0 rfl) ?_
            refine ld_l hx hb hK.1 hP 0 1 rfl rfl (ix_lit (by decide)) 0 (by decide) (v := f 0) rfl dX5_norm_83 ?_
            refine lv_lload_n hx hb dX5_norm_84 rfl (lv_at hl 1 rfl) ?_
            refine lv_ldiv hx hb dX5_norm_85 (ng_ne c_1) ?_
            refine st_l hx hb hK.1 hP hD hS 0 1 rfl rfl (ix_lit (by decide)) 0 (by decide) dX5_norm_86 (fun H locs hP hD hS => ?_)
            have hP : va_P D vwCl [kJ h cJ 3 (vp_updL f 0 ((f 0) / (-(z5_common (z5_common (z5_common 0 (f 0)) (f 1)) (f 2)))))] H := hP
            have hD : va_D A [kJ h cJ 3 (vp_updL f 0 ((f 0) / (-(z5_common (z5_common (z5_common 0 (f 0)) (f 1)) (f 2)))))] := hD
            refine lv_iinc (v := 1) (lv' := [(5, .int 1), (2, .long (-(z5_common (z5_common (z5_common 0 (f 0)) (f 1)) (f 2)))), (4, .int 2), (0, .ref h), (1, .int 3)]) hx hb dX5_norm_87 hl (k := 0) rfl (by decide) (by decide) rfl (fun ls hl => ?_)
            refine lv_goto (tgt := 71) hx hb dX5_norm_90 (by decide) ?_
            refine lv_iload hx hb dX5_norm_71 (lv_at hl 0 rfl) ?_
            refine lv_iload_n hx hb dX5_norm_73 rfl (lv_at hl 4 rfl) ?_
            refine lv_icmp_ge (tgt := 93) hx hb dX5_norm_74 (by decide) (fun h => absurd h (by decide)) (fun _ => ?_)
            refine lv_aload_n hx hb dX5_norm_77 rfl (lv_at hl 3 rfl) ?_
            refine lv_iload hx hb dX5_norm_78 (lv_at hl 0 rfl) ?_
            refine lv_aload_n hx hb dX5_norm_80 rfl (lv_at hl 3 rfl) ?_
            refine lv_iload hx hb dX5_norm_81 (lv_at hl 0 rfl) ?_
            refine ld_l hx hb hK.1 hP 0 1 rfl rfl (ix_lit (by decide)) 1 (by decide) (v := f 1) rfl dX5_norm_83 ?_
            refine lv_lload_n hx hb dX5_norm_84 rfl (lv_at hl 1 rfl) ?_
            refine lv_ldiv hx hb dX5_norm_85 (ng_ne c_1) ?_
            refine st_l hx hb hK.1 hP hD hS 0 1 rfl rfl (ix_lit (by decide)) 1 (by decide) dX5_norm_86 (fun H locs hP hD hS => ?_)
            have hP : va_P D vwCl [kJ h cJ 3 (vp_updL (vp_updL f 0 ((f 0) / (-(z5_common (z5_common (z5_common 0 (f 0)) (f 1)) (f 2))))) 1 ((f 1) / (-(z5_common (z5_common (z5_common 0 (f 0)) (f 1)) (f 2)))))] H := hP
            have hD : va_D A [kJ h cJ 3 (vp_updL (vp_updL f 0 ((f 0) / (-(z5_common (z5_common (z5_common 0 (f 0)) (f 1)) (f 2))))) 1 ((f 1) / (-(z5_common (z5_common (z5_common 0 (f 0)) (f 1)) (f 2)))))] := hD
            refine lv_iinc (v := 2) (lv' := [(5, .int 2), (2, .long (-(z5_common (z5_common (z5_common 0 (f 0)) (f 1)) (f 2)))), (4, .int 2), (0, .ref h), (1, .int 3)]) hx hb dX5_norm_87 hl (k := 0) rfl (by decide) (by decide) rfl (fun ls hl => ?_)
            refine lv_goto (tgt := 71) hx hb dX5_norm_90 (by decide) ?_
            refine lv_iload hx hb dX5_norm_71 (lv_at hl 0 rfl) ?_
            refine lv_iload_n hx hb dX5_norm_73 rfl (lv_at hl 4 rfl) ?_
            refine lv_icmp_ge (tgt := 93) hx hb dX5_norm_74 (by decide) (fun h => absurd h (by decide)) (fun _ => ?_)
            refine lv_aload_n hx hb dX5_norm_77 rfl (lv_at hl 3 rfl) ?_
            refine lv_iload hx hb dX5_norm_78 (lv_at hl 0 rfl) ?_
            refine lv_aload_n hx hb dX5_norm_80 rfl (lv_at hl 3 rfl) ?_
            refine lv_iload hx hb dX5_norm_81 (lv_at hl 0 rfl) ?_
            refine ld_l hx hb hK.1 hP 0 1 rfl rfl (ix_lit (by decide)) 2 (by decide) (v := f 2) rfl dX5_norm_83 ?_
            refine lv_lload_n hx hb dX5_norm_84 rfl (lv_at hl 1 rfl) ?_
            refine lv_ldiv hx hb dX5_norm_85 (ng_ne c_1) ?_
            refine st_l hx hb hK.1 hP hD hS 0 1 rfl rfl (ix_lit (by decide)) 2 (by decide) dX5_norm_86 (fun H locs hP hD hS => ?_)
            have hP : va_P D vwCl [kJ h cJ 3 (vp_updL (vp_updL (vp_updL f 0 ((f 0) / (-(z5_common (z5_common (z5_common 0 (f 0)) (f 1)) (f 2))))) 1 ((f 1) / (-(z5_common (z5_common (z5_common 0 (f 0)) (f 1)) (f 2))))) 2 ((f 2) / (-(z5_common (z5_common (z5_common 0 (f 0)) (f 1)) (f 2)))))] H := hP
            have hD : va_D A [kJ h cJ 3 (vp_updL (vp_updL (vp_updL f 0 ((f 0) / (-(z5_common (z5_common (z5_common 0 (f 0)) (f 1)) (f 2))))) 1 ((f 1) / (-(z5_common (z5_common (z5_common 0 (f 0)) (f 1)) (f 2))))) 2 ((f 2) / (-(z5_common (z5_common (z5_common 0 (f 0)) (f 1)) (f 2)))))] := hD
            refine lv_iinc (v := 3) (lv' := [(5, .int 3), (2, .long (-(z5_common (z5_common (z5_common 0 (f 0)) (f 1)) (f 2)))), (4, .int 2), (0, .ref h), (1, .int 3)]) hx hb dX5_norm_87 hl (k := 0) rfl (by decide) (by decide) rfl (fun ls hl => ?_)
            refine lv_goto (tgt := 71) hx hb dX5_norm_90 (by decide) ?_
            refine lv_iload hx hb dX5_norm_71 (lv_at hl 0 rfl) ?_
            refine lv_iload_n hx hb dX5_norm_73 rfl (lv_at hl 4 rfl) ?_
            refine lv_icmp_ge (tgt := 93) hx hb dX5_norm_74 (by decide) (fun _ => ?_) (fun h => absurd (by decide) h)
            refine lv_iconst (v := 1) hx hb dX5_norm_93 (by decide) ?_
            have he : z5_norm_3_3 f = (1, vp_updL (vp_updL (vp_updL f 0 ((f 0) / (-(z5_common (z5_common (z5_common 0 (f 0)) (f 1)) (f 2))))) 1 ((f 1) / (-(z5_common (z5_common (z5_common 0 (f 0)) (f 1)) (f 2))))) 2 ((f 2) / (-(z5_common (z5_common (z5_common 0 (f 0)) (f 1)) (f 2))))) := by unfold z5_norm_3_3; rw [if_neg c_1, if_pos c_2, if_pos c_4, if_neg c_6, if_neg c_7]
            have he_0 : (z5_norm_3_3 f).1 = 1 := by rw [he]
            have he_1 : (z5_norm_3_3 f).2 = vp_updL (vp_updL (vp_updL f 0 ((f 0) / (-(z5_common (z5_common (z5_common 0 (f 0)) (f 1)) (f 2))))) 1 ((f 1) / (-(z5_common (z5_common (z5_common 0 (f 0)) (f 1)) (f 2))))) 2 ((f 2) / (-(z5_common (z5_common (z5_common 0 (f 0)) (f 1)) (f 2)))) := by rw [he]
            exact rt_z (w1 := fun uu : Unit => [kJ h cJ 3 ((z5_norm_3_3 f).2)]) hx hb hr rfl hlk hS dX5_norm_94 (()) he_0.symm (by rw [he_1]; exact hP) (by rw [he_1]; exact hD)
        · skip
          refine lv_iinc (v := 3) (lv' := [(4, .int 3), (2, .long (z5_common (z5_common (z5_common 0 (f 0)) (f 1)) (f 2))), (0, .ref h), (1, .int 3)]) hx hb dX5_norm_46 hl (k := 0) rfl (by decide) (by decide) rfl (fun ls hl => ?_)
          refine lv_goto (tgt := 37) hx hb dX5_norm_49 (by decide) ?_
          exact absurd (nz_3 c_2 c_4 c_6) c_1
  · skip
    refine lv_iconst (v := 0) hx hb dX5_norm_32 (by decide) ?_
    have he : z5_norm_3_3 f = (0, f) := by unfold z5_norm_3_3; rw [if_pos c_1]
    have he_0 : (z5_norm_3_3 f).1 = 0 := by rw [he]
    have he_1 : (z5_norm_3_3 f).2 = f := by rw [he]
    exact rt_z (w1 := fun uu : Unit => [kJ h cJ 3 ((z5_norm_3_3 f).2)]) hx hb hr rfl hlk hS dX5_norm_33 (()) he_0.symm (by rw [he_1]; exact hP) (by rw [he_1]; exact hD)
def z5_norm_3_6 (f : Nat → Int64) : Int32 × (Nat → Int64) := if (z5_common (z5_common (z5_common 0 (f 0)) (f 1)) (f 2)) = 0 then (0, f) else if (f 0) = 0 then if (f 1) = 0 then if (f 2) = 0 then (0, f) else if 0 ≤ (f 2) then (1, vp_updL (vp_updL (vp_updL f 0 ((f 0) / (z5_common (z5_common (z5_common 0 (f 0)) (f 1)) (f 2)))) 1 ((f 1) / (z5_common (z5_common (z5_common 0 (f 0)) (f 1)) (f 2)))) 2 ((f 2) / (z5_common (z5_common (z5_common 0 (f 0)) (f 1)) (f 2)))) else (1, vp_updL (vp_updL (vp_updL f 0 ((f 0) / (-(z5_common (z5_common (z5_common 0 (f 0)) (f 1)) (f 2))))) 1 ((f 1) / (-(z5_common (z5_common (z5_common 0 (f 0)) (f 1)) (f 2))))) 2 ((f 2) / (-(z5_common (z5_common (z5_common 0 (f 0)) (f 1)) (f 2))))) else if 0 ≤ (f 1) then (1, vp_updL (vp_updL (vp_updL f 0 ((f 0) / (z5_common (z5_common (z5_common 0 (f 0)) (f 1)) (f 2)))) 1 ((f 1) / (z5_common (z5_common (z5_common 0 (f 0)) (f 1)) (f 2)))) 2 ((f 2) / (z5_common (z5_common (z5_common 0 (f 0)) (f 1)) (f 2)))) else (1, vp_updL (vp_updL (vp_updL f 0 ((f 0) / (-(z5_common (z5_common (z5_common 0 (f 0)) (f 1)) (f 2))))) 1 ((f 1) / (-(z5_common (z5_common (z5_common 0 (f 0)) (f 1)) (f 2))))) 2 ((f 2) / (-(z5_common (z5_common (z5_common 0 (f 0)) (f 1)) (f 2))))) else if 0 ≤ (f 0) then (1, vp_updL (vp_updL (vp_updL f 0 ((f 0) / (z5_common (z5_common (z5_common 0 (f 0)) (f 1)) (f 2)))) 1 ((f 1) / (z5_common (z5_common (z5_common 0 (f 0)) (f 1)) (f 2)))) 2 ((f 2) / (z5_common (z5_common (z5_common 0 (f 0)) (f 1)) (f 2)))) else (1, vp_updL (vp_updL (vp_updL f 0 ((f 0) / (-(z5_common (z5_common (z5_common 0 (f 0)) (f 1)) (f 2))))) 1 ((f 1) / (-(z5_common (z5_common (z5_common 0 (f 0)) (f 1)) (f 2))))) 2 ((f 2) / (-(z5_common (z5_common (z5_common 0 (f 0)) (f 1)) (f 2)))))
set_option maxHeartbeats 4000000 in
set_option maxRecDepth 100000 in
/-- X5.norm -/
theorem c_X5_norm_3_6 (l : Launch) (D : va_G) (cI cJ : ClassId) (h : Nat) (f : Nat → Int64) : mw_C l yX5_norm wsX5_norm ({ frames := 1, cells := 0, slots := 0, locals := 29 }) D cI cJ [.ref h, .int 3] [kJ h cJ 6 f] (qe_i (fun (r : Int32) (_ : Unit) => r = (z5_norm_3_6 f).1) (fun uu => [kJ h cJ 6 ((z5_norm_3_6 f).2)])) := by
  refine mw_in (cc := cX5_norm) (lv := [(0, .ref h), (1, .int 3)]) (by decide) rfl (Nat.le_of_ble_eq_true rfl) rfl ?_
  intro pG eG sG mG below meth cG ls A hx hb hr hml hown hts hlk hin hP hK hD hA hS hl
  have hown : sG.vm.findClass RX5 = some mG.cls := hown
  refine lv_lconst (v := 0) hx hb dX5_norm_0 (by decide) ?_
  refine lv_lstore_n (lv' := [(2, .long 0), (0, .ref h), (1, .int 3)]) hx hb dX5_norm_1 rfl hl (by decide) rfl (fun ls hl => ?_)
  refine lv_iconst (v := 0) hx hb dX5_norm_2 (by decide) ?_
  refine lv_istore (lv' := [(4, .int 0), (2, .long 0), (0, .ref h), (1, .int 3)]) hx hb dX5_norm_3 hl (by decide) rfl (fun ls hl => ?_)
  refine lv_iload hx hb dX5_norm_5 (lv_at hl 0 rfl) ?_
  refine lv_iload_n hx hb dX5_norm_7 rfl (lv_at hl 3 rfl) ?_
  refine lv_icmp_ge (tgt := 26) hx hb dX5_norm_8 (by decide) (fun h => absurd h (by decide)) (fun _ => ?_)
  refine lv_lload_n hx hb dX5_norm_11 rfl (lv_at hl 1 rfl) ?_
  refine lv_aload_n hx hb dX5_norm_12 rfl (lv_at hl 2 rfl) ?_
  refine lv_iload hx hb dX5_norm_13 (lv_at hl 0 rfl) ?_
  refine ld_l hx hb hK.1 hP 0 1 rfl rfl (ix_lit (by decide)) 0 (by decide) (v := f 0) rfl dX5_norm_15 ?_
  have hPc := hP.sub (ws' := []) [] rfl
  refine cr_l (va_runS (As := [.long 0, .long (f 0)]) (rest := []) ⟨hx, hb, hml, hown, hts⟩ (c_X5_common l D cI cJ 0 (f 0)) (va_cwS 2 hts gX5_norm_X5_common rfl rfl rfl (by decide +kernel) ⟨Nat.le_of_ble_eq_true rfl, Nat.le_of_ble_eq_true rfl⟩) ⟨gd_blR, gd_prR hPc hK⟩ rfl rfl hl.1 rfl (lv_room (Nat.le_of_ble_eq_true rfl)) dX5_norm_16 ⟨Nat.zero_le _, Nat.zero_le _⟩) (fun r_16 hw => ?_)
  subst hw
  clear hPc
  refine lv_lstore_n (lv' := [(2, .long (z5_common 0 (f 0))), (4, .int 0), (0, .ref h), (1, .int 3)]) hx hb dX5_norm_19 rfl hl (by decide) rfl (fun ls hl => ?_)
  refine lv_iinc (v := 1) (lv' := [(4, .int 1), (2, .long (z5_common 0 (f 0))), (0, .ref h), (1, .int 3)]) hx hb dX5_norm_20 hl (k := 1) rfl (by decide) (by decide) rfl (fun ls hl => ?_)
  refine lv_goto (tgt := 5) hx hb dX5_norm_23 (by decide) ?_
  refine lv_iload hx hb dX5_norm_5 (lv_at hl 0 rfl) ?_
  refine lv_iload_n hx hb dX5_norm_7 rfl (lv_at hl 3 rfl) ?_
  refine lv_icmp_ge (tgt := 26) hx hb dX5_norm_8 (by decide) (fun h => absurd h (by decide)) (fun _ => ?_)
  refine lv_lload_n hx hb dX5_norm_11 rfl (lv_at hl 1 rfl) ?_
  refine lv_aload_n hx hb dX5_norm_12 rfl (lv_at hl 2 rfl) ?_
  refine lv_iload hx hb dX5_norm_13 (lv_at hl 0 rfl) ?_
  refine ld_l hx hb hK.1 hP 0 1 rfl rfl (ix_lit (by decide)) 1 (by decide) (v := f 1) rfl dX5_norm_15 ?_
  have hPc := hP.sub (ws' := []) [] rfl
  refine cr_l (va_runS (As := [.long (z5_common 0 (f 0)), .long (f 1)]) (rest := []) ⟨hx, hb, hml, hown, hts⟩ (c_X5_common l D cI cJ (z5_common 0 (f 0)) (f 1)) (va_cwS 2 hts gX5_norm_X5_common rfl rfl rfl (by decide +kernel) ⟨Nat.le_of_ble_eq_true rfl, Nat.le_of_ble_eq_true rfl⟩) ⟨gd_blR, gd_prR hPc hK⟩ rfl rfl hl.1 rfl (lv_room (Nat.le_of_ble_eq_true rfl)) dX5_norm_16 ⟨Nat.zero_le _, Nat.zero_le _⟩) (fun r_16 hw => ?_)
  subst hw
  clear hPc
  refine lv_lstore_n (lv' := [(2, .long (z5_common (z5_common 0 (f 0)) (f 1))), (4, .int 1), (0, .ref h), (1, .int 3)]) hx hb dX5_norm_19 rfl hl (by decide) rfl (fun ls hl => ?_)
  refine lv_iinc (v := 2) (lv' := [(4, .int 2), (2, .long (z5_common (z5_common 0 (f 0)) (f 1))), (0, .ref h), (1, .int 3)]) hx hb dX5_norm_20 hl (k := 1) rfl (by decide) (by decide) rfl (fun ls hl => ?_)
  refine lv_goto (tgt := 5) hx hb dX5_norm_23 (by decide) ?_
  refine lv_iload hx hb dX5_norm_5 (lv_at hl 0 rfl) ?_
  refine lv_iload_n hx hb dX5_norm_7 rfl (lv_at hl 3 rfl) ?_
  refine lv_icmp_ge (tgt := 26) hx hb dX5_norm_8 (by decide) (fun h => absurd h (by decide)) (fun _ => ?_)
  refine lv_lload_n hx hb dX5_norm_11 rfl (lv_at hl 1 rfl) ?_
  refine lv_aload_n hx hb dX5_norm_12 rfl (lv_at hl 2 rfl) ?_
  refine lv_iload hx hb dX5_norm_13 (lv_at hl 0 rfl) ?_
  refine ld_l hx hb hK.1 hP 0 1 rfl rfl (ix_lit (by decide)) 2 (by decide) (v := f 2) rfl dX5_norm_15 ?_
  have hPc := hP.sub (ws' := []) [] rfl
  refine cr_l (va_runS (As := [.long (z5_common (z5_common 0 (f 0)) (f 1)), .long (f 2)]) (rest := []) ⟨hx, hb, hml, hown, hts⟩ (c_X5_common l D cI cJ (z5_common (z5_common 0 (f 0)) (f 1)) (f 2)) (va_cwS 2 hts gX5_norm_X5_common rfl rfl rfl (by decide +kernel) ⟨Nat.le_of_ble_eq_true rfl, Nat.le_of_ble_eq_true rfl⟩) ⟨gd_blR, gd_prR hPc hK⟩ rfl rfl hl.1 rfl (lv_room (Nat.le_of_ble_eq_true rfl)) dX5_norm_16 ⟨Nat.zero_le _, Nat.zero_le _⟩) (fun r_16 hw => ?_)
  subst hw
  clear hPc
  refine lv_lstore_n (lv' := [(2, .long (z5_common (z5_common (z5_common 0 (f 0)) (f 1)) (f 2))), (4, .int 2), (0, .ref h), (1, .int 3)]) hx hb dX5_norm_19 rfl hl (by decide) rfl (fun ls hl => ?_)
  refine lv_iinc (v := 3) (lv' := [(4, .int 3), (2, .long (z5_common (z5_common (z5_common 0 (f 0)) (f 1)) (f 2))), (0, .ref h), (1, .int 3)]) hx hb dX5_norm_20 hl (k := 1) rfl (by decide) (by decide) rfl (fun ls hl => ?_)
  refine lv_goto (tgt := 5) hx hb dX5_norm_23 (by decide) ?_
  refine lv_iload hx hb dX5_norm_5 (lv_at hl 0 rfl) ?_
  refine lv_iload_n hx hb dX5_norm_7 rfl (lv_at hl 3 rfl) ?_
  refine lv_icmp_ge (tgt := 26) hx hb dX5_norm_8 (by decide) (fun _ => ?_) (fun h => absurd (by decide) h)
  refine lv_lload_n hx hb dX5_norm_26 rfl (lv_at hl 1 rfl) ?_
  refine lv_lconst (v := 0) hx hb dX5_norm_27 (by decide) ?_
  refine lb_ne (tgt := 34) hx hb dX5_norm_28 rfl dX5_norm_29 (by decide) (fun c_1 => ?_) (fun c_1 => ?_)
  · skip
    refine lv_iconst (v := 0) hx hb dX5_norm_34 (by decide) ?_
    refine lv_istore (lv' := [(4, .int 0), (2, .long (z5_common (z5_common (z5_common 0 (f 0)) (f 1)) (f 2))), (0, .ref h), (1, .int 3)]) hx hb dX5_norm_35 hl (by decide) rfl (fun ls hl => ?_)
    refine lv_aload_n hx hb dX5_norm_37 rfl (lv_at hl 2 rfl) ?_
    refine lv_iload hx hb dX5_norm_38 (lv_at hl 0 rfl) ?_
    refine ld_l hx hb hK.1 hP 0 1 rfl rfl (ix_lit (by decide)) 0 (by decide) (v := f 0) rfl dX5_norm_40 ?_
    refine lv_lconst (v := 0) hx hb dX5_norm_41 (by decide) ?_
    refine lb_ne (tgt := 52) hx hb dX5_norm_42 rfl dX5_norm_43 (by decide) (fun c_2 => ?_) (fun c_2 => ?_)
    · skip
      refine lv_aload_n hx hb dX5_norm_52 rfl (lv_at hl 2 rfl) ?_
      refine lv_iload hx hb dX5_norm_53 (lv_at hl 0 rfl) ?_
      refine ld_l hx hb hK.1 hP 0 1 rfl rfl (ix_lit (by decide)) 0 (by decide) (v := f 0) rfl dX5_norm_55 ?_
      refine lv_lconst (v := 0) hx hb dX5_norm_56 (by decide) ?_
      refine lb_ge (tgt := 66) hx hb dX5_norm_57 rfl dX5_norm_58 (by decide) (fun c_3 => ?_) (fun c_3 => ?_)
      · skip
        refine lv_lload_n hx hb dX5_norm_66 rfl (lv_at hl 1 rfl) ?_
        refine lv_lstore_n (lv' := [(2, .long (z5_common (z5_common (z5_common 0 (f 0)) (f 1)) (f 2))), (4, .int 0), (0, .ref h), (1, .int 3)]) hx hb dX5_norm_67 rfl hl (by decide) rfl (fun ls hl => ?_)
        refine lv_iconst (v := 0) hx hb dX5_norm_68 (by decide) ?_
        refine lv_istore (lv' := [(5, .int 0), (2, .long (z5_common (z5_common (z5_common 0 (f 0)) (f 1)) (f 2))), (4, .int 0), (0, .ref h), (1, .int 3)]) hx hb dX5_norm_69 hl (by decide) rfl (fun ls hl => ?_)
        refine lv_iload hx hb dX5_norm_71 (lv_at hl 0 rfl) ?_
        refine lv_iload_n hx hb dX5_norm_73 rfl (lv_at hl 4 rfl) ?_
        refine lv_icmp_ge (tgt := 93) hx hb dX5_norm_74 (by decide) (fun h => absurd h (by decide)) (fun _ => ?_)
        refine lv_aload_n hx hb dX5_norm_77 rfl (lv_at hl 3 rfl) ?_
        refine lv_iload hx hb dX5_norm_78 (lv_at hl 0 rfl) ?_
        refine lv_aload_n hx hb dX5_norm_80 rfl (lv_at hl 3 rfl) ?_
        refine lv_iload hx hb dX5_norm_81 (lv_at hl 0 rfl) ?_
        refine ld_l hx hb hK.1 hP 0 1 rfl rfl (ix_lit (by decide)) 0 (by decide) (v := f 0) rfl dX5_norm_83 ?_
        refine lv_lload_n hx hb dX5_norm_84 rfl (lv_at hl 1 rfl) ?_
        refine lv_ldiv hx hb dX5_norm_85 c_1 ?_
        refine st_l hx hb hK.1 hP hD hS 0 1 rfl rfl (ix_lit (by decide)) 0 (by decide) dX5_norm_86 (fun H locs hP hD hS => ?_)
        have hP : va_P D vwCl [kJ h cJ 6 (vp_updL f 0 ((f 0) / (z5_common (z5_common (z5_common 0 (f 0)) (f 1)) (f 2))))] H := hP
        have hD : va_D A [kJ h cJ 6 (vp_updL f 0 ((f 0) / (z5_common (z5_common (z5_common 0 (f 0)) (f 1)) (f 2))))] := hD
        refine lv_iinc (v := 1) (lv' := [(5, .int 1), (2, .long (z5_common (z5_common (z5_common 0 (f 0)) (f 1)) (f 2))), (4, .int 0), (0, .ref h), (1, .int 3)]) hx hb dX5_norm_87 hl (k := 0) rfl (by decide) (by decide) rfl (fun ls hl => ?_)
        refine lv_goto (tgt := 71) hx hb dX5_norm_90 (by decide) ?_
        refine lv_iload hx hb dX5_norm_71 (lv_at hl 0 rfl) ?_
        refine lv_iload_n hx hb dX5_norm_73 rfl (lv_at hl 4 rfl) ?_
        refine lv_icmp_ge (tgt := 93) hx hb dX5_norm_74 (by decide) (fun h => absurd h (by decide)) (fun _ => ?_)
        refine lv_aload_n hx hb dX5_norm_77 rfl (lv_at hl 3 rfl) ?_
        refine lv_iload hx hb dX5_norm_78 (lv_at hl 0 rfl) ?_
        refine lv_aload_n hx hb dX5_norm_80 rfl (lv_at hl 3 rfl) ?_
        refine lv_iload hx hb dX5_norm_81 (lv_at hl 0 rfl) ?_
        refine ld_l hx hb hK.1 hP 0 1 rfl rfl (ix_lit (by decide)) 1 (by decide) (v := f 1) rfl dX5_norm_83 ?_
        refine lv_lload_n hx hb dX5_norm_84 rfl (lv_at hl 1 rfl) ?_
        refine lv_ldiv hx hb dX5_norm_85 c_1 ?_
        refine st_l hx hb hK.1 hP hD hS 0 1 rfl rfl (ix_lit (by decide)) 1 (by decide) dX5_norm_86 (fun H locs hP hD hS => ?_)
        have hP : va_P D vwCl [kJ h cJ 6 (vp_updL (vp_updL f 0 ((f 0) / (z5_common (z5_common (z5_common 0 (f 0)) (f 1)) (f 2)))) 1 ((f 1) / (z5_common (z5_common (z5_common 0 (f 0)) (f 1)) (f 2))))] H := hP
        have hD : va_D A [kJ h cJ 6 (vp_updL (vp_updL f 0 ((f 0) / (z5_common (z5_common (z5_common 0 (f 0)) (f 1)) (f 2)))) 1 ((f 1) / (z5_common (z5_common (z5_common 0 (f 0)) (f 1)) (f 2))))] := hD
        refine lv_iinc (v := 2) (lv' := [(5, .int 2), (2, .long (z5_common (z5_common (z5_common 0 (f 0)) (f 1)) (f 2))), (4, .int 0), (0, .ref h), (1, .int 3)]) hx hb dX5_norm_87 hl (k := 0) rfl (by decide) (by decide) rfl (fun ls hl => ?_)
        refine lv_goto (tgt := 71) hx hb dX5_norm_90 (by decide) ?_
        refine lv_iload hx hb dX5_norm_71 (lv_at hl 0 rfl) ?_
        refine lv_iload_n hx hb dX5_norm_73 rfl (lv_at hl 4 rfl) ?_
        refine lv_icmp_ge (tgt := 93) hx hb dX5_norm_74 (by decide) (fun h => absurd h (by decide)) (fun _ => ?_)
        refine lv_aload_n hx hb dX5_norm_77 rfl (lv_at hl 3 rfl) ?_
        refine lv_iload hx hb dX5_norm_78 (lv_at hl 0 rfl) ?_
        refine lv_aload_n hx hb dX5_norm_80 rfl (lv_at hl 3 rfl) ?_
        refine lv_iload hx hb dX5_norm_81 (lv_at hl 0 rfl) ?_
        refine ld_l hx hb hK.1 hP 0 1 rfl rfl (ix_lit (by decide)) 2 (by decide) (v := f 2) rfl dX5_norm_83 ?_
        refine lv_lload_n hx hb dX5_norm_84 rfl (lv_at hl 1 rfl) ?_
        refine lv_ldiv hx hb dX5_norm_85 c_1 ?_
        refine st_l hx hb hK.1 hP hD hS 0 1 rfl rfl (ix_lit (by decide)) 2 (by decide) dX5_norm_86 (fun H locs hP hD hS => ?_)
        have hP : va_P D vwCl [kJ h cJ 6 (vp_updL (vp_updL (vp_updL f 0 ((f 0) / (z5_common (z5_common (z5_common 0 (f 0)) (f 1)) (f 2)))) 1 ((f 1) / (z5_common (z5_common (z5_common 0 (f 0)) (f 1)) (f 2)))) 2 ((f 2) / (z5_common (z5_common (z5_common 0 (f 0)) (f 1)) (f 2))))] H := hP
        have hD : va_D A [kJ h cJ 6 (vp_updL (vp_updL (vp_updL f 0 ((f 0) / (z5_common (z5_common (z5_common 0 (f 0)) (f 1)) (f 2)))) 1 ((f 1) / (z5_common (z5_common (z5_common 0 (f 0)) (f 1)) (f 2)))) 2 ((f 2) / (z5_common (z5_common (z5_common 0 (f 0)) (f 1)) (f 2))))] := hD
        refine lv_iinc (v := 3) (lv' := [(5, .int 3), (2, .long (z5_common (z5_common (z5_common 0 (f 0)) (f 1)) (f 2))), (4, .int 0), (0, .ref h), (1, .int 3)]) hx hb dX5_norm_87 hl (k := 0) rfl (by decide) (by decide) rfl (fun ls hl => ?_)
        refine lv_goto (tgt := 71) hx hb dX5_norm_90 (by decide) ?_
        refine lv_iload hx hb dX5_norm_71 (lv_at hl 0 rfl) ?_
        refine lv_iload_n hx hb dX5_norm_73 rfl (lv_at hl 4 rfl) ?_
        refine lv_icmp_ge (tgt := 93) hx hb dX5_norm_74 (by decide) (fun _ => ?_) (fun h => absurd (by decide) h)
        refine lv_iconst (v := 1) hx hb dX5_norm_93 (by decide) ?_
        have he : z5_norm_3_6 f = (1, vp_updL (vp_updL (vp_updL f 0 ((f 0) / (z5_common (z5_common (z5_common 0 (f 0)) (f 1)) (f 2)))) 1 ((f 1) / (z5_common (z5_common (z5_common 0 (f 0)) (f 1)) (f 2)))) 2 ((f 2) / (z5_common (z5_common (z5_common 0 (f 0)) (f 1)) (f 2)))) := by unfold z5_norm_3_6; rw [if_neg c_1, if_neg c_2, if_pos c_3]
        have he_0 : (z5_norm_3_6 f).1 = 1 := by rw [he]
        have he_1 : (z5_norm_3_6 f).2 = vp_updL (vp_updL (vp_updL f 0 ((f 0) / (z5_common (z5_common (z5_common 0 (f 0)) (f 1)) (f 2)))) 1 ((f 1) / (z5_common (z5_common (z5_common 0 (f 0)) (f 1)) (f 2)))) 2 ((f 2) / (z5_common (z5_common (z5_common 0 (f 0)) (f 1)) (f 2))) := by rw [he]
        exact rt_z (w1 := fun uu : Unit => [kJ h cJ 6 ((z5_norm_3_6 f).2)]) hx hb hr rfl hlk hS dX5_norm_94 (()) he_0.symm (by rw [he_1]; exact hP) (by rw [he_1]; exact hD)
      · skip
        refine lv_lload_n hx hb dX5_norm_61 rfl (lv_at hl 1 rfl) ?_
        refine lv_lneg hx hb dX5_norm_62 ?_
        refine lv_goto (tgt := 67) hx hb dX5_norm_63 (by decide) ?_
        refine lv_lstore_n (lv' := [(2, .long (-(z5_common (z5_common (z5_common 0 (f 0)) (f 1)) (f 2)))), (4, .int 0), (0, .ref h), (1, .int 3)]) hx hb dX5_norm_67 rfl hl (by decide) rfl (fun ls hl => ?_)
        refine lv_iconst (v := 0) hx hb dX5_norm_68 (by decide) ?_
        refine lv_istore (lv' := [(5, .int 0), (2, .long (-(z5_common (z5_common (z5_common 0 (f 0)) (f 1)) (f 2)))), (4, .int 0), (0, .ref h), (1, .int 3)]) hx hb dX5_norm_69 hl (by decide) rfl (fun ls hl => ?_)
        refine lv_iload hx hb dX5_norm_71 (lv_at hl 0 rfl) ?_
        refine lv_iload_n hx hb dX5_norm_73 rfl (lv_at hl 4 rfl) ?_
        refine lv_icmp_ge (tgt := 93) hx hb dX5_norm_74 (by decide) (fun h => absurd h (by decide)) (fun _ => ?_)
        refine lv_aload_n hx hb dX5_norm_77 rfl (lv_at hl 3 rfl) ?_
        refine lv_iload hx hb dX5_norm_78 (lv_at hl 0 rfl) ?_
        refine lv_aload_n hx hb dX5_norm_80 rfl (lv_at hl 3 rfl) ?_
        refine lv_iload hx hb dX5_norm_81 (lv_at hl 0 rfl) ?_
        refine ld_l hx hb hK.1 hP 0 1 rfl rfl (ix_lit (by decide)) 0 (by decide) (v := f 0) rfl dX5_norm_83 ?_
        refine lv_lload_n hx hb dX5_norm_84 rfl (lv_at hl 1 rfl) ?_
        refine lv_ldiv hx hb dX5_norm_85 (ng_ne c_1) ?_
        refine st_l hx hb hK.1 hP hD hS 0 1 rfl rfl (ix_lit (by decide)) 0 (by decide) dX5_norm_86 (fun H locs hP hD hS => ?_)
        have hP : va_P D vwCl [kJ h cJ 6 (vp_updL f 0 ((f 0) / (-(z5_common (z5_common (z5_common 0 (f 0)) (f 1)) (f 2)))))] H := hP
        have hD : va_D A [kJ h cJ 6 (vp_updL f 0 ((f 0) / (-(z5_common (z5_common (z5_common 0 (f 0)) (f 1)) (f 2)))))] := hD
        refine lv_iinc (v := 1) (lv' := [(5, .int 1), (2, .long (-(z5_common (z5_common (z5_common 0 (f 0)) (f 1)) (f 2)))), (4, .int 0), (0, .ref h), (1, .int 3)]) hx hb dX5_norm_87 hl (k := 0) rfl (by decide) (by decide) rfl (fun ls hl => ?_)
        refine lv_goto (tgt := 71) hx hb dX5_norm_90 (by decide) ?_
        refine lv_iload hx hb dX5_norm_71 (lv_at hl 0 rfl) ?_
        refine lv_iload_n hx hb dX5_norm_73 rfl (lv_at hl 4 rfl) ?_
        refine lv_icmp_ge (tgt := 93) hx hb dX5_norm_74 (by decide) (fun h => absurd h (by decide)) (fun _ => ?_)
        refine lv_aload_n hx hb dX5_norm_77 rfl (lv_at hl 3 rfl) ?_
        refine lv_iload hx hb dX5_norm_78 (lv_at hl 0 rfl) ?_
        refine lv_aload_n hx hb dX5_norm_80 rfl (lv_at hl 3 rfl) ?_
        refine lv_iload hx hb dX5_norm_81 (lv_at hl 0 rfl) ?_
        refine ld_l hx hb hK.1 hP 0 1 rfl rfl (ix_lit (by decide)) 1 (by decide) (v := f 1) rfl dX5_norm_83 ?_
        refine lv_lload_n hx hb dX5_norm_84 rfl (lv_at hl 1 rfl) ?_
        refine lv_ldiv hx hb dX5_norm_85 (ng_ne c_1) ?_
        refine st_l hx hb hK.1 hP hD hS 0 1 rfl rfl (ix_lit (by decide)) 1 (by decide) dX5_norm_86 (fun H locs hP hD hS => ?_)
        have hP : va_P D vwCl [kJ h cJ 6 (vp_updL (vp_updL f 0 ((f 0) / (-(z5_common (z5_common (z5_common 0 (f 0)) (f 1)) (f 2))))) 1 ((f 1) / (-(z5_common (z5_common (z5_common 0 (f 0)) (f 1)) (f 2)))))] H := hP
        have hD : va_D A [kJ h cJ 6 (vp_updL (vp_updL f 0 ((f 0) / (-(z5_common (z5_common (z5_common 0 (f 0)) (f 1)) (f 2))))) 1 ((f 1) / (-(z5_common (z5_common (z5_common 0 (f 0)) (f 1)) (f 2)))))] := hD
        refine lv_iinc (v := 2) (lv' := [(5, .int 2), (2, .long (-(z5_common (z5_common (z5_common 0 (f 0)) (f 1)) (f 2)))), (4, .int 0), (0, .ref h), (1, .int 3)]) hx hb dX5_norm_87 hl (k := 0) rfl (by decide) (by decide) rfl (fun ls hl => ?_)
        refine lv_goto (tgt := 71) hx hb dX5_norm_90 (by decide) ?_
        refine lv_iload hx hb dX5_norm_71 (lv_at hl 0 rfl) ?_
        refine lv_iload_n hx hb dX5_norm_73 rfl (lv_at hl 4 rfl) ?_
        refine lv_icmp_ge (tgt := 93) hx hb dX5_norm_74 (by decide) (fun h => absurd h (by decide)) (fun _ => ?_)
        refine lv_aload_n hx hb dX5_norm_77 rfl (lv_at hl 3 rfl) ?_
        refine lv_iload hx hb dX5_norm_78 (lv_at hl 0 rfl) ?_
        refine lv_aload_n hx hb dX5_norm_80 rfl (lv_at hl 3 rfl) ?_
        refine lv_iload hx hb dX5_norm_81 (lv_at hl 0 rfl) ?_
        refine ld_l hx hb hK.1 hP 0 1 rfl rfl (ix_lit (by decide)) 2 (by decide) (v := f 2) rfl dX5_norm_83 ?_
        refine lv_lload_n hx hb dX5_norm_84 rfl (lv_at hl 1 rfl) ?_
        refine lv_ldiv hx hb dX5_norm_85 (ng_ne c_1) ?_
        refine st_l hx hb hK.1 hP hD hS 0 1 rfl rfl (ix_lit (by decide)) 2 (by decide) dX5_norm_86 (fun H locs hP hD hS => ?_)
        have hP : va_P D vwCl [kJ h cJ 6 (vp_updL (vp_updL (vp_updL f 0 ((f 0) / (-(z5_common (z5_common (z5_common 0 (f 0)) (f 1)) (f 2))))) 1 ((f 1) / (-(z5_common (z5_common (z5_common 0 (f 0)) (f 1)) (f 2))))) 2 ((f 2) / (-(z5_common (z5_common (z5_common 0 (f 0)) (f 1)) (f 2)))))] H := hP
        have hD : va_D A [kJ h cJ 6 (vp_updL (vp_updL (vp_updL f 0 ((f 0) / (-(z5_common (z5_common (z5_common 0 (f 0)) (f 1)) (f 2))))) 1 ((f 1) / (-(z5_common (z5_common (z5_common 0 (f 0)) (f 1)) (f 2))))) 2 ((f 2) / (-(z5_common (z5_common (z5_common 0 (f 0)) (f 1)) (f 2)))))] := hD
        refine lv_iinc (v := 3) (lv' := [(5, .int 3), (2, .long (-(z5_common (z5_common (z5_common 0 (f 0)) (f 1)) (f 2)))), (4, .int 0), (0, .ref h), (1, .int 3)]) hx hb dX5_norm_87 hl (k := 0) rfl (by decide) (by decide) rfl (fun ls hl => ?_)
        refine lv_goto (tgt := 71) hx hb dX5_norm_90 (by decide) ?_
        refine lv_iload hx hb dX5_norm_71 (lv_at hl 0 rfl) ?_
        refine lv_iload_n hx hb dX5_norm_73 rfl (lv_at hl 4 rfl) ?_
        refine lv_icmp_ge (tgt := 93) hx hb dX5_norm_74 (by decide) (fun _ => ?_) (fun h => absurd (by decide) h)
        refine lv_iconst (v := 1) hx hb dX5_norm_93 (by decide) ?_
        have he : z5_norm_3_6 f = (1, vp_updL (vp_updL (vp_updL f 0 ((f 0) / (-(z5_common (z5_common (z5_common 0 (f 0)) (f 1)) (f 2))))) 1 ((f 1) / (-(z5_common (z5_common (z5_common 0 (f 0)) (f 1)) (f 2))))) 2 ((f 2) / (-(z5_common (z5_common (z5_common 0 (f 0)) (f 1)) (f 2))))) := by unfold z5_norm_3_6; rw [if_neg c_1, if_neg c_2, if_neg c_3]
        have he_0 : (z5_norm_3_6 f).1 = 1 := by rw [he]
        have he_1 : (z5_norm_3_6 f).2 = vp_updL (vp_updL (vp_updL f 0 ((f 0) / (-(z5_common (z5_common (z5_common 0 (f 0)) (f 1)) (f 2))))) 1 ((f 1) / (-(z5_common (z5_common (z5_common 0 (f 0)) (f 1)) (f 2))))) 2 ((f 2) / (-(z5_common (z5_common (z5_common 0 (f 0)) (f 1)) (f 2)))) := by rw [he]
        exact rt_z (w1 := fun uu : Unit => [kJ h cJ 6 ((z5_norm_3_6 f).2)]) hx hb hr rfl hlk hS dX5_norm_94 (()) he_0.symm (by rw [he_1]; exact hP) (by rw [he_1]; exact hD)
    · skip
      refine lv_iinc (v := 1) (lv' := [(4, .int 1), (2, .long (z5_common (z5_common (z5_common 0 (f 0)) (f 1)) (f 2))), (0, .ref h), (1, .int 3)]) hx hb dX5_norm_46 hl (k := 0) rfl (by decide) (by decide) rfl (fun ls hl => ?_)
      refine lv_goto (tgt := 37) hx hb dX5_norm_49 (by decide) ?_
      refine lv_aload_n hx hb dX5_norm_37 rfl (lv_at hl 2 rfl) ?_
      refine lv_iload hx hb dX5_norm_38 (lv_at hl 0 rfl) ?_
      refine ld_l hx hb hK.1 hP 0 1 rfl rfl (ix_lit (by decide)) 1 (by decide) (v := f 1) rfl dX5_norm_40 ?_
      refine lv_lconst (v := 0) hx hb dX5_norm_41 (by decide) ?_
      refine lb_ne (tgt := 52) hx hb dX5_norm_42 rfl dX5_norm_43 (by decide) (fun c_4 => ?_) (fun c_4 => ?_)
      · skip
        refine lv_aload_n hx hb dX5_norm_52 rfl (lv_at hl 2 rfl) ?_
        refine lv_iload hx hb dX5_norm_53 (lv_at hl 0 rfl) ?_
        refine ld_l hx hb hK.1 hP 0 1 rfl rfl (ix_lit (by decide)) 1 (by decide) (v := f 1) rfl dX5_norm_55 ?_
        refine lv_lconst (v := 0) hx hb dX5_norm_56 (by decide) ?_
        refine lb_ge (tgt := 66) hx hb dX5_norm_57 rfl dX5_norm_58 (by decide) (fun c_5 => ?_) (fun c_5 => ?_)
        · skip
          refine lv_lload_n hx hb dX5_norm_66 rfl (lv_at hl 1 rfl) ?_
          refine lv_lstore_n (lv' := [(2, .long (z5_common (z5_common (z5_common 0 (f 0)) (f 1)) (f 2))), (4, .int 1), (0, .ref h), (1, .int 3)]) hx hb dX5_norm_67 rfl hl (by decide) rfl (fun ls hl => ?_)
          refine lv_iconst (v := 0) hx hb dX5_norm_68 (by decide) ?_
          refine lv_istore (lv' := [(5, .int 0), (2, .long (z5_common (z5_common (z5_common 0 (f 0)) (f 1)) (f 2))), (4, .int 1), (0, .ref h), (1, .int 3)]) hx hb dX5_norm_69 hl (by decide) rfl (fun ls hl => ?_)
          refine lv_iload hx hb dX5_norm_71 (lv_at hl 0 rfl) ?_
          refine lv_iload_n hx hb dX5_norm_73 rfl (lv_at hl 4 rfl) ?_
          refine lv_icmp_ge (tgt := 93) hx hb dX5_norm_74 (by decide) (fun h => absurd h (by decide)) (fun _ => ?_)
          refine lv_aload_n hx hb dX5_norm_77 rfl (lv_at hl 3 rfl) ?_
          refine lv_iload hx hb dX5_norm_78 (lv_at hl 0 rfl) ?_
          refine lv_aload_n hx hb dX5_norm_80 rfl (lv_at hl 3 rfl) ?_
          refine lv_iload hx hb dX5_norm_81 (lv_at hl 0 rfl) ?_
          refine ld_l hx hb hK.1 hP 0 1 rfl rfl (ix_lit (by decide)) 0 (by decide) (v := f 0) rfl dX5_norm_83 ?_
          refine lv_lload_n hx hb dX5_norm_84 rfl (lv_at hl 1 rfl) ?_
          refine lv_ldiv hx hb dX5_norm_85 c_1 ?_
          refine st_l hx hb hK.1 hP hD hS 0 1 rfl rfl (ix_lit (by decide)) 0 (by decide) dX5_norm_86 (fun H locs hP hD hS => ?_)
          have hP : va_P D vwCl [kJ h cJ 6 (vp_updL f 0 ((f 0) / (z5_common (z5_common (z5_common 0 (f 0)) (f 1)) (f 2))))] H := hP
          have hD : va_D A [kJ h cJ 6 (vp_updL f 0 ((f 0) / (z5_common (z5_common (z5_common 0 (f 0)) (f 1)) (f 2))))] := hD
          refine lv_iinc (v := 1) (lv' := [(5, .int 1), (2, .long (z5_common (z5_common (z5_common 0 (f 0)) (f 1)) (f 2))), (4, .int 1), (0, .ref h), (1, .int 3)]) hx hb dX5_norm_87 hl (k := 0) rfl (by decide) (by decide) rfl (fun ls hl => ?_)
          refine lv_goto (tgt := 71) hx hb dX5_norm_90 (by decide) ?_
          refine lv_iload hx hb dX5_norm_71 (lv_at hl 0 rfl) ?_
          refine lv_iload_n hx hb dX5_norm_73 rfl (lv_at hl 4 rfl) ?_
          refine lv_icmp_ge (tgt := 93) hx hb dX5_norm_74 (by decide) (fun h => absurd h (by decide)) (fun _ => ?_)
          refine lv_aload_n hx hb dX5_norm_77 rfl (lv_at hl 3 rfl) ?_
          refine lv_iload hx hb dX5_norm_78 (lv_at hl 0 rfl) ?_
          refine lv_aload_n hx hb dX5_norm_80 rfl (lv_at hl 3 rfl) ?_
          refine lv_iload hx hb dX5_norm_81 (lv_at hl 0 rfl) ?_
          refine ld_l hx hb hK.1 hP 0 1 rfl rfl (ix_lit (by decide)) 1 (by decide) (v := f 1) rfl dX5_norm_83 ?_
          refine lv_lload_n hx hb dX5_norm_84 rfl (lv_at hl 1 rfl) ?_
          refine lv_ldiv hx hb dX5_norm_85 c_1 ?_
          refine st_l hx hb hK.1 hP hD hS 0 1 rfl rfl (ix_lit (by decide)) 1 (by decide) dX5_norm_86 (fun H locs hP hD hS => ?_)
          have hP : va_P D vwCl [kJ h cJ 6 (vp_updL (vp_updL f 0 ((f 0) / (z5_common (z5_common (z5_common 0 (f 0)) (f 1)) (f 2)))) 1 ((f 1) / (z5_common (z5_common (z5_common 0 (f 0)) (f 1)) (f 2))))] H := hP
          have hD : va_D A [kJ h cJ 6 (vp_updL (vp_updL f 0 ((f 0) / (z5_common (z5_common (z5_common 0 (f 0)) (f 1)) (f 2)))) 1 ((f 1) / (z5_common (z5_common (z5_common 0 (f 0)) (f 1)) (f 2))))] := hD
          refine lv_iinc (v := 2) (lv' := [(5, .int 2), (2, .long (z5_common (z5_common (z5_common 0 (f 0)) (f 1)) (f 2))), (4, .int 1), (0, .ref h), (1, .int 3)]) hx hb dX5_norm_87 hl (k := 0) rfl (by decide) (by decide) rfl (fun ls hl => ?_)
          refine lv_goto (tgt := 71) hx hb dX5_norm_90 (by decide) ?_
          refine lv_iload hx hb dX5_norm_71 (lv_at hl 0 rfl) ?_
          refine lv_iload_n hx hb dX5_norm_73 rfl (lv_at hl 4 rfl) ?_
          refine lv_icmp_ge (tgt := 93) hx hb dX5_norm_74 (by decide) (fun h => absurd h (by decide)) (fun _ => ?_)
          refine lv_aload_n hx hb dX5_norm_77 rfl (lv_at hl 3 rfl) ?_
          refine lv_iload hx hb dX5_norm_78 (lv_at hl 0 rfl) ?_
          refine lv_aload_n hx hb dX5_norm_80 rfl (lv_at hl 3 rfl) ?_
          refine lv_iload hx hb dX5_norm_81 (lv_at hl 0 rfl) ?_
          refine ld_l hx hb hK.1 hP 0 1 rfl rfl (ix_lit (by decide)) 2 (by decide) (v := f 2) rfl dX5_norm_83 ?_
          refine lv_lload_n hx hb dX5_norm_84 rfl (lv_at hl 1 rfl) ?_
          refine lv_ldiv hx hb dX5_norm_85 c_1 ?_
          refine st_l hx hb hK.1 hP hD hS 0 1 rfl rfl (ix_lit (by decide)) 2 (by decide) dX5_norm_86 (fun H locs hP hD hS => ?_)
          have hP : va_P D vwCl [kJ h cJ 6 (vp_updL (vp_updL (vp_updL f 0 ((f 0) / (z5_common (z5_common (z5_common 0 (f 0)) (f 1)) (f 2)))) 1 ((f 1) / (z5_common (z5_common (z5_common 0 (f 0)) (f 1)) (f 2)))) 2 ((f 2) / (z5_common (z5_common (z5_common 0 (f 0)) (f 1)) (f 2))))] H := hP
          have hD : va_D A [kJ h cJ 6 (vp_updL (vp_updL (vp_updL f 0 ((f 0) / (z5_common (z5_common (z5_common 0 (f 0)) (f 1)) (f 2)))) 1 ((f 1) / (z5_common (z5_common (z5_common 0 (f 0)) (f 1)) (f 2)))) 2 ((f 2) / (z5_common (z5_common (z5_common 0 (f 0)) (f 1)) (f 2))))] := hD
          refine lv_iinc (v := 3) (lv' := [(5, .int 3), (2, .long (z5_common (z5_common (z5_common 0 (f 0)) (f 1)) (f 2))), (4, .int 1), (0, .ref h), (1, .int 3)]) hx hb dX5_norm_87 hl (k := 0) rfl (by decide) (by decide) rfl (fun ls hl => ?_)
          refine lv_goto (tgt := 71) hx hb dX5_norm_90 (by decide) ?_
          refine lv_iload hx hb dX5_norm_71 (lv_at hl 0 rfl) ?_
          refine lv_iload_n hx hb dX5_norm_73 rfl (lv_at hl 4 rfl) ?_
          refine lv_icmp_ge (tgt := 93) hx hb dX5_norm_74 (by decide) (fun _ => ?_) (fun h => absurd (by decide) h)
          refine lv_iconst (v := 1) hx hb dX5_norm_93 (by decide) ?_
          have he : z5_norm_3_6 f = (1, vp_updL (vp_updL (vp_updL f 0 ((f 0) / (z5_common (z5_common (z5_common 0 (f 0)) (f 1)) (f 2)))) 1 ((f 1) / (z5_common (z5_common (z5_common 0 (f 0)) (f 1)) (f 2)))) 2 ((f 2) / (z5_common (z5_common (z5_common 0 (f 0)) (f 1)) (f 2)))) := by unfold z5_norm_3_6; rw [if_neg c_1, if_pos c_2, if_neg c_4, if_pos c_5]
          have he_0 : (z5_norm_3_6 f).1 = 1 := by rw [he]
          have he_1 : (z5_norm_3_6 f).2 = vp_updL (vp_updL (vp_updL f 0 ((f 0) / (z5_common (z5_common (z5_common 0 (f 0)) (f 1)) (f 2)))) 1 ((f 1) / (z5_common (z5_common (z5_common 0 (f 0)) (f 1)) (f 2)))) 2 ((f 2) / (z5_common (z5_common (z5_common 0 (f 0)) (f 1)) (f 2))) := by rw [he]
          exact rt_z (w1 := fun uu : Unit => [kJ h cJ 6 ((z5_norm_3_6 f).2)]) hx hb hr rfl hlk hS dX5_norm_94 (()) he_0.symm (by rw [he_1]; exact hP) (by rw [he_1]; exact hD)
        · skip
          refine lv_lload_n hx hb dX5_norm_61 rfl (lv_at hl 1 rfl) ?_
          refine lv_lneg hx hb dX5_norm_62 ?_
          refine lv_goto (tgt := 67) hx hb dX5_norm_63 (by decide) ?_
          refine lv_lstore_n (lv' := [(2, .long (-(z5_common (z5_common (z5_common 0 (f 0)) (f 1)) (f 2)))), (4, .int 1), (0, .ref h), (1, .int 3)]) hx hb dX5_norm_67 rfl hl (by decide) rfl (fun ls hl => ?_)
          refine lv_iconst (v := 0) hx hb dX5_norm_68 (by decide) ?_
          refine lv_istore (lv' := [(5, .int 0), (2, .long (-(z5_common (z5_common (z5_common 0 (f 0)) (f 1)) (f 2)))), (4, .int 1), (0, .ref h), (1, .int 3)]) hx hb dX5_norm_69 hl (by decide) rfl (fun ls hl => ?_)
          refine lv_iload hx hb dX5_norm_71 (lv_at hl 0 rfl) ?_
          refine lv_iload_n hx hb dX5_norm_73 rfl (lv_at hl 4 rfl) ?_
          refine lv_icmp_ge (tgt := 93) hx hb dX5_norm_74 (by decide) (fun h => absurd h (by decide)) (fun _ => ?_)
          refine lv_aload_n hx hb dX5_norm_77 rfl (lv_at hl 3 rfl) ?_
          refine lv_iload hx hb dX5_norm_78 (lv_at hl 0 rfl) ?_
          refine lv_aload_n hx hb dX5_norm_80 rfl (lv_at hl 3 rfl) ?_
          refine lv_iload hx hb dX5_norm_81 (lv_at hl 0 rfl) ?_
          refine ld_l hx hb hK.1 hP 0 1 rfl rfl (ix_lit (by decide)) 0 (by decide) (v := f 0) rfl dX5_norm_83 ?_
          refine lv_lload_n hx hb dX5_norm_84 rfl (lv_at hl 1 rfl) ?_
          refine lv_ldiv hx hb dX5_norm_85 (ng_ne c_1) ?_
          refine st_l hx hb hK.1 hP hD hS 0 1 rfl rfl (ix_lit (by decide)) 0 (by decide) dX5_norm_86 (fun H locs hP hD hS => ?_)
          have hP : va_P D vwCl [kJ h cJ 6 (vp_updL f 0 ((f 0) / (-(z5_common (z5_common (z5_common 0 (f 0)) (f 1)) (f 2)))))] H := hP
          have hD : va_D A [kJ h cJ 6 (vp_updL f 0 ((f 0) / (-(z5_common (z5_common (z5_common 0 (f 0)) (f 1)) (f 2)))))] := hD
          refine lv_iinc (v := 1) (lv' := [(5, .int 1), (2, .long (-(z5_common (z5_common (z5_common 0 (f 0)) (f 1)) (f 2)))), (4, .int 1), (0, .ref h), (1, .int 3)]) hx hb dX5_norm_87 hl (k := 0) rfl (by decide) (by decide) rfl (fun ls hl => ?_)
          refine lv_goto (tgt := 71) hx hb dX5_norm_90 (by decide) ?_
          refine lv_iload hx hb dX5_norm_71 (lv_at hl 0 rfl) ?_
          refine lv_iload_n hx hb dX5_norm_73 rfl (lv_at hl 4 rfl) ?_
          refine lv_icmp_ge (tgt := 93) hx hb dX5_norm_74 (by decide) (fun h => absurd h (by decide)) (fun _ => ?_)
          refine lv_aload_n hx hb dX5_norm_77 rfl (lv_at hl 3 rfl) ?_
          refine lv_iload hx hb dX5_norm_78 (lv_at hl 0 rfl) ?_
          refine lv_aload_n hx hb dX5_norm_80 rfl (lv_at hl 3 rfl) ?_
          refine lv_iload hx hb dX5_norm_81 (lv_at hl 0 rfl) ?_
          refine ld_l hx hb hK.1 hP 0 1 rfl rfl (ix_lit (by decide)) 1 (by decide) (v := f 1) rfl dX5_norm_83 ?_
          refine lv_lload_n hx hb dX5_norm_84 rfl (lv_at hl 1 rfl) ?_
          refine lv_ldiv hx hb dX5_norm_85 (ng_ne c_1) ?_
          refine st_l hx hb hK.1 hP hD hS 0 1 rfl rfl (ix_lit (by decide)) 1 (by decide) dX5_norm_86 (fun H locs hP hD hS => ?_)
          have hP : va_P D vwCl [kJ h cJ 6 (vp_updL (vp_updL f 0 ((f 0) / (-(z5_common (z5_common (z5_common 0 (f 0)) (f 1)) (f 2))))) 1 ((f 1) / (-(z5_common (z5_common (z5_common 0 (f 0)) (f 1)) (f 2)))))] H := hP
          have hD : va_D A [kJ h cJ 6 (vp_updL (vp_updL f 0 ((f 0) / (-(z5_common (z5_common (z5_common 0 (f 0)) (f 1)) (f 2))))) 1 ((f 1) / (-(z5_common (z5_common (z5_common 0 (f 0)) (f 1)) (f 2)))))] := hD
          refine lv_iinc (v := 2) (lv' := [(5, .int 2), (2, .long (-(z5_common (z5_common (z5_common 0 (f 0)) (f 1)) (f 2)))), (4, .int 1), (0, .ref h), (1, .int 3)]) hx hb dX5_norm_87 hl (k := 0) rfl (by decide) (by decide) rfl (fun ls hl => ?_)
          refine lv_goto (tgt := 71) hx hb dX5_norm_90 (by decide) ?_
          refine lv_iload hx hb dX5_norm_71 (lv_at hl 0 rfl) ?_
          refine lv_iload_n hx hb dX5_norm_73 rfl (lv_at hl 4 rfl) ?_
          refine lv_icmp_ge (tgt := 93) hx hb dX5_norm_74 (by decide) (fun h => absurd h (by decide)) (fun _ => ?_)
          refine lv_aload_n hx hb dX5_norm_77 rfl (lv_at hl 3 rfl) ?_
          refine lv_iload hx hb dX5_norm_78 (lv_at hl 0 rfl) ?_
          refine lv_aload_n hx hb dX5_norm_80 rfl (lv_at hl 3 rfl) ?_
          refine lv_iload hx hb dX5_norm_81 (lv_at hl 0 rfl) ?_
          refine ld_l hx hb hK.1 hP 0 1 rfl rfl (ix_lit (by decide)) 2 (by decide) (v := f 2) rfl dX5_norm_83 ?_
          refine lv_lload_n hx hb dX5_norm_84 rfl (lv_at hl 1 rfl) ?_
          refine lv_ldiv hx hb dX5_norm_85 (ng_ne c_1) ?_
          refine st_l hx hb hK.1 hP hD hS 0 1 rfl rfl (ix_lit (by decide)) 2 (by decide) dX5_norm_86 (fun H locs hP hD hS => ?_)
          have hP : va_P D vwCl [kJ h cJ 6 (vp_updL (vp_updL (vp_updL f 0 ((f 0) / (-(z5_common (z5_common (z5_common 0 (f 0)) (f 1)) (f 2))))) 1 ((f 1) / (-(z5_common (z5_common (z5_common 0 (f 0)) (f 1)) (f 2))))) 2 ((f 2) / (-(z5_common (z5_common (z5_common 0 (f 0)) (f 1)) (f 2)))))] H := hP
          have hD : va_D A [kJ h cJ 6 (vp_updL (vp_updL (vp_updL f 0 ((f 0) / (-(z5_common (z5_common (z5_common 0 (f 0)) (f 1)) (f 2))))) 1 ((f 1) / (-(z5_common (z5_common (z5_common 0 (f 0)) (f 1)) (f 2))))) 2 ((f 2) / (-(z5_common (z5_common (z5_common 0 (f 0)) (f 1)) (f 2)))))] := hD
          refine lv_iinc (v := 3) (lv' := [(5, .int 3), (2, .long (-(z5_common (z5_common (z5_common 0 (f 0)) (f 1)) (f 2)))), (4, .int 1), (0, .ref h), (1, .int 3)]) hx hb dX5_norm_87 hl (k := 0) rfl (by decide) (by decide) rfl (fun ls hl => ?_)
          refine lv_goto (tgt := 71) hx hb dX5_norm_90 (by decide) ?_
          refine lv_iload hx hb dX5_norm_71 (lv_at hl 0 rfl) ?_
          refine lv_iload_n hx hb dX5_norm_73 rfl (lv_at hl 4 rfl) ?_
          refine lv_icmp_ge (tgt := 93) hx hb dX5_norm_74 (by decide) (fun _ => ?_) (fun h => absurd (by decide) h)
          refine lv_iconst (v := 1) hx hb dX5_norm_93 (by decide) ?_
          have he : z5_norm_3_6 f = (1, vp_updL (vp_updL (vp_updL f 0 ((f 0) / (-(z5_common (z5_common (z5_common 0 (f 0)) (f 1)) (f 2))))) 1 ((f 1) / (-(z5_common (z5_common (z5_common 0 (f 0)) (f 1)) (f 2))))) 2 ((f 2) / (-(z5_common (z5_common (z5_common 0 (f 0)) (f 1)) (f 2))))) := by unfold z5_norm_3_6; rw [if_neg c_1, if_pos c_2, if_neg c_4, if_neg c_5]
          have he_0 : (z5_norm_3_6 f).1 = 1 := by rw [he]
          have he_1 : (z5_norm_3_6 f).2 = vp_updL (vp_updL (vp_updL f 0 ((f 0) / (-(z5_common (z5_common (z5_common 0 (f 0)) (f 1)) (f 2))))) 1 ((f 1) / (-(z5_common (z5_common (z5_common 0 (f 0)) (f 1)) (f 2))))) 2 ((f 2) / (-(z5_common (z5_common (z5_common 0 (f 0)) (f 1)) (f 2)))) := by rw [he]
          exact rt_z (w1 := fun uu : Unit => [kJ h cJ 6 ((z5_norm_3_6 f).2)]) hx hb hr rfl hlk hS dX5_norm_94 (()) he_0.symm (by rw [he_1]; exact hP) (by rw [he_1]; exact hD)
      · skip
        refine lv_iinc (v := 2) (lv' := [(4, .int 2), (2, .long (z5_common (z5_common (z5_common 0 (f 0)) (f 1)) (f 2))), (0, .ref h), (1, .int 3)]) hx hb dX5_norm_46 hl (k := 0) rfl (by decide) (by decide) rfl (fun ls hl => ?_)
        refine lv_goto (tgt := 37) hx hb dX5_norm_49 (by decide) ?_
        refine lv_aload_n hx hb dX5_norm_37 rfl (lv_at hl 2 rfl) ?_
        refine lv_iload hx hb dX5_norm_38 (lv_at hl 0 rfl) ?_
        refine ld_l hx hb hK.1 hP 0 1 rfl rfl (ix_lit (by decide)) 2 (by decide) (v := f 2) rfl dX5_norm_40 ?_
        refine lv_lconst (v := 0) hx hb dX5_norm_41 (by decide) ?_
        refine lb_ne (tgt := 52) hx hb dX5_norm_42 rfl dX5_norm_43 (by decide) (fun c_6 => ?_) (fun c_6 => ?_)
        · skip
          refine lv_aload_n hx hb dX5_norm_52 rfl (lv_at hl 2 rfl) ?_
          refine lv_iload hx hb dX5_norm_53 (lv_at hl 0 rfl) ?_
          refine ld_l hx hb hK.1 hP 0 1 rfl rfl (ix_lit (by decide)) 2 (by decide) (v := f 2) rfl dX5_norm_55 ?_
          refine lv_lconst (v := 0) hx hb dX5_norm_56 (by decide) ?_
          refine lb_ge (tgt := 66) hx hb dX5_norm_57 rfl dX5_norm_58 (by decide) (fun c_7 => ?_) (fun c_7 => ?_)
          · skip
            refine lv_lload_n hx hb dX5_norm_66 rfl (lv_at hl 1 rfl) ?_
            refine lv_lstore_n (lv' := [(2, .long (z5_common (z5_common (z5_common 0 (f 0)) (f 1)) (f 2))), (4, .int 2), (0, .ref h), (1, .int 3)]) hx hb dX5_norm_67 rfl hl (by decide) rfl (fun ls hl => ?_)
            refine lv_iconst (v := 0) hx hb dX5_norm_68 (by decide) ?_
            refine lv_istore (lv' := [(5, .int 0), (2, .long (z5_common (z5_common (z5_common 0 (f 0)) (f 1)) (f 2))), (4, .int 2), (0, .ref h), (1, .int 3)]) hx hb dX5_norm_69 hl (by decide) rfl (fun ls hl => ?_)
            refine lv_iload hx hb dX5_norm_71 (lv_at hl 0 rfl) ?_
            refine lv_iload_n hx hb dX5_norm_73 rfl (lv_at hl 4 rfl) ?_
            refine lv_icmp_ge (tgt := 93) hx hb dX5_norm_74 (by decide) (fun h => absurd h (by decide)) (fun _ => ?_)
            refine lv_aload_n hx hb dX5_norm_77 rfl (lv_at hl 3 rfl) ?_
            refine lv_iload hx hb dX5_norm_78 (lv_at hl 0 rfl) ?_
            refine lv_aload_n hx hb dX5_norm_80 rfl (lv_at hl 3 rfl) ?_
            refine lv_iload hx hb dX5_norm_81 (lv_at hl 0 rfl) ?_
            refine ld_l hx hb hK.1 hP 0 1 rfl rfl (ix_lit (by decide)) 0 (by decide) (v := f 0) rfl dX5_norm_83 ?_
            refine lv_lload_n hx hb dX5_norm_84 rfl (lv_at hl 1 rfl) ?_
            refine lv_ldiv hx hb dX5_norm_85 c_1 ?_
            refine st_l hx hb hK.1 hP hD hS 0 1 rfl rfl (ix_lit (by decide)) 0 (by decide) dX5_norm_86 (fun H locs hP hD hS => ?_)
            have hP : va_P D vwCl [kJ h cJ 6 (vp_updL f 0 ((f 0) / (z5_common (z5_common (z5_common 0 (f 0)) (f 1)) (f 2))))] H := hP
            have hD : va_D A [kJ h cJ 6 (vp_updL f 0 ((f 0) / (z5_common (z5_common (z5_common 0 (f 0)) (f 1)) (f 2))))] := hD
            refine lv_iinc (v := 1) (lv' := [(5, .int 1), (2, .long (z5_common (z5_common (z5_common 0 (f 0)) (f 1)) (f 2))), (4, .int 2), (0, .ref h), (1, .int 3)]) hx hb dX5_norm_87 hl (k := 0) rfl (by decide) (by decide) rfl (fun ls hl => ?_)
            refine lv_goto (tgt := 71) hx hb dX5_norm_90 (by decide) ?_
            refine lv_iload hx hb dX5_norm_71 (lv_at hl 0 rfl) ?_
            refine lv_iload_n hx hb dX5_norm_73 rfl (lv_at hl 4 rfl) ?_
            refine lv_icmp_ge (tgt := 93) hx hb dX5_norm_74 (by decide) (fun h => absurd h (by decide)) (fun _ => ?_)
            refine lv_aload_n hx hb dX5_norm_77 rfl (lv_at hl 3 rfl) ?_
            refine lv_iload hx hb dX5_norm_78 (lv_at hl 0 rfl) ?_
            refine lv_aload_n hx hb dX5_norm_80 rfl (lv_at hl 3 rfl) ?_
            refine lv_iload hx hb dX5_norm_81 (lv_at hl 0 rfl) ?_
            refine ld_l hx hb hK.1 hP 0 1 rfl rfl (ix_lit (by decide)) 1 (by decide) (v := f 1) rfl dX5_norm_83 ?_
            refine lv_lload_n hx hb dX5_norm_84 rfl (lv_at hl 1 rfl) ?_
            refine lv_ldiv hx hb dX5_norm_85 c_1 ?_
            refine st_l hx hb hK.1 hP hD hS 0 1 rfl rfl (ix_lit (by decide)) 1 (by decide) dX5_norm_86 (fun H locs hP hD hS => ?_)
            have hP : va_P D vwCl [kJ h cJ 6 (vp_updL (vp_updL f 0 ((f 0) / (z5_common (z5_common (z5_common 0 (f 0)) (f 1)) (f 2)))) 1 ((f 1) / (z5_common (z5_common (z5_common 0 (f 0)) (f 1)) (f 2))))] H := hP
            have hD : va_D A [kJ h cJ 6 (vp_updL (vp_updL f 0 ((f 0) / (z5_common (z5_common (z5_common 0 (f 0)) (f 1)) (f 2)))) 1 ((f 1) / (z5_common (z5_common (z5_common 0 (f 0)) (f 1)) (f 2))))] := hD
            refine lv_iinc (v := 2) (lv' := [(5, .int 2), (2, .long (z5_common (z5_common (z5_common 0 (f 0)) (f 1)) (f 2))), (4, .int 2), (0, .ref h), (1, .int 3)]) hx hb dX5_norm_87 hl (k := 0) rfl (by decide) (by decide) rfl (fun ls hl => ?_)
            refine lv_goto (tgt := 71) hx hb dX5_norm_90 (by decide) ?_
            refine lv_iload hx hb dX5_norm_71 (lv_at hl 0 rfl) ?_
            refine lv_iload_n hx hb dX5_norm_73 rfl (lv_at hl 4 rfl) ?_
            refine lv_icmp_ge (tgt := 93) hx hb dX5_norm_74 (by decide) (fun h => absurd h (by decide)) (fun _ => ?_)
            refine lv_aload_n hx hb dX5_norm_77 rfl (lv_at hl 3 rfl) ?_
            refine lv_iload hx hb dX5_norm_78 (lv_at hl 0 rfl) ?_
            refine lv_aload_n hx hb dX5_norm_80 rfl (lv_at hl 3 rfl) ?_
            refine lv_iload hx hb dX5_norm_81 (lv_at hl 0 rfl) ?_
            refine ld_l hx hb hK.1 hP 0 1 rfl rfl (ix_lit (by decide)) 2 (by decide) (v := f 2) rfl dX5_norm_83 ?_
            refine lv_lload_n hx hb dX5_norm_84 rfl (lv_at hl 1 rfl) ?_
            refine lv_ldiv hx hb dX5_norm_85 c_1 ?_
            refine st_l hx hb hK.1 hP hD hS 0 1 rfl rfl (ix_lit (by decide)) 2 (by decide) dX5_norm_86 (fun H locs hP hD hS => ?_)
            have hP : va_P D vwCl [kJ h cJ 6 (vp_updL (vp_updL (vp_updL f 0 ((f 0) / (z5_common (z5_common (z5_common 0 (f 0)) (f 1)) (f 2)))) 1 ((f 1) / (z5_common (z5_common (z5_common 0 (f 0)) (f 1)) (f 2)))) 2 ((f 2) / (z5_common (z5_common (z5_common 0 (f 0)) (f 1)) (f 2))))] H := hP
            have hD : va_D A [kJ h cJ 6 (vp_updL (vp_updL (vp_updL f 0 ((f 0) / (z5_common (z5_common (z5_common 0 (f 0)) (f 1)) (f 2)))) 1 ((f 1) / (z5_common (z5_common (z5_common 0 (f 0)) (f 1)) (f 2)))) 2 ((f 2) / (z5_common (z5_common (z5_common 0 (f 0)) (f 1)) (f 2))))] := hD
            refine lv_iinc (v := 3) (lv' := [(5, .int 3), (2, .long (z5_common (z5_common (z5_common 0 (f 0)) (f 1)) (f 2))), (4, .int 2), (0, .ref h), (1, .int 3)]) hx hb dX5_norm_87 hl (k := 0) rfl (by decide) (by decide) rfl (fun ls hl => ?_)
            refine lv_goto (tgt := 71) hx hb dX5_norm_90 (by decide) ?_
            refine lv_iload hx hb dX5_norm_71 (lv_at hl 0 rfl) ?_
            refine lv_iload_n hx hb dX5_norm_73 rfl (lv_at hl 4 rfl) ?_
            refine lv_icmp_ge (tgt := 93) hx hb dX5_norm_74 (by decide) (fun _ => ?_) (fun h => absurd (by decide) h)
            refine lv_iconst (v := 1) hx hb dX5_norm_93 (by decide) ?_
            have he : z5_norm_3_6 f = (1, vp_updL (vp_updL (vp_updL f 0 ((f 0) / (z5_common (z5_common (z5_common 0 (f 0)) (f 1)) (f 2)))) 1 ((f 1) / (z5_common (z5_common (z5_common 0 (f 0)) (f 1)) (f 2)))) 2 ((f 2) / (z5_common (z5_common (z5_common 0 (f 0)) (f 1)) (f 2)))) := by unfold z5_norm_3_6; rw [if_neg c_1, if_pos c_2, if_pos c_4, if_neg c_6, if_pos c_7]
            have he_0 : (z5_norm_3_6 f).1 = 1 := by rw [he]
            have he_1 : (z5_norm_3_6 f).2 = vp_updL (vp_updL (vp_updL f 0 ((f 0) / (z5_common (z5_common (z5_common 0 (f 0)) (f 1)) (f 2)))) 1 ((f 1) / (z5_common (z5_common (z5_common 0 (f 0)) (f 1)) (f 2)))) 2 ((f 2) / (z5_common (z5_common (z5_common 0 (f 0)) (f 1)) (f 2))) := by rw [he]
            exact rt_z (w1 := fun uu : Unit => [kJ h cJ 6 ((z5_norm_3_6 f).2)]) hx hb hr rfl hlk hS dX5_norm_94 (()) he_0.symm (by rw [he_1]; exact hP) (by rw [he_1]; exact hD)
          · skip
            refine lv_lload_n hx hb dX5_norm_61 rfl (lv_at hl 1 rfl) ?_
            refine lv_lneg hx hb dX5_norm_62 ?_
            refine lv_goto (tgt := 67) hx hb dX5_norm_63 (by decide) ?_
            refine lv_lstore_n (lv' := [(2, .long (-(z5_common (z5_common (z5_common 0 (f 0)) (f 1)) (f 2)))), (4, .int 2), (0, .ref h), (1, .int 3)]) hx hb dX5_norm_67 rfl hl (by decide) rfl (fun ls hl => ?_)
            refine lv_iconst (v := 0) hx hb dX5_norm_68 (by decide) ?_
            refine lv_istore (lv' := [(5, .int 0), (2, .long (-(z5_common (z5_common (z5_common 0 (f 0)) (f 1)) (f 2)))), (4, .int 2), (0, .ref h), (1, .int 3)]) hx hb dX5_norm_69 hl (by decide) rfl (fun ls hl => ?_)
            refine lv_iload hx hb dX5_norm_71 (lv_at hl 0 rfl) ?_
            refine lv_iload_n hx hb dX5_norm_73 rfl (lv_at hl 4 rfl) ?_
            refine lv_icmp_ge (tgt := 93) hx hb dX5_norm_74 (by decide) (fun h => absurd h (by decide)) (fun _ => ?_)
            refine lv_aload_n hx hb dX5_norm_77 rfl (lv_at hl 3 rfl) ?_
            refine lv_iload hx hb dX5_norm_78 (lv_at hl 0 rfl) ?_
            refine lv_aload_n hx hb dX5_norm_80 rfl (lv_at hl 3 rfl) ?_
            refine lv_iload hx hb dX5_norm_81 (lv_at hl 0 rfl) ?_
            refine ld_l hx hb hK.1 hP 0 1 rfl rfl (ix_lit (by decide)) 0 (by decide) (v := f 0) rfl dX5_norm_83 ?_
            refine lv_lload_n hx hb dX5_norm_84 rfl (lv_at hl 1 rfl) ?_
            refine lv_ldiv hx hb dX5_norm_85 (ng_ne c_1) ?_
            refine st_l hx hb hK.1 hP hD hS 0 1 rfl rfl (ix_lit (by decide)) 0 (by decide) dX5_norm_86 (fun H locs hP hD hS => ?_)
            have hP : va_P D vwCl [kJ h cJ 6 (vp_updL f 0 ((f 0) / (-(z5_common (z5_common (z5_common 0 (f 0)) (f 1)) (f 2)))))] H := hP
            have hD : va_D A [kJ h cJ 6 (vp_updL f 0 ((f 0) / (-(z5_common (z5_common (z5_common 0 (f 0)) (f 1)) (f 2)))))] := hD
            refine lv_iinc (v := 1) (lv' := [(5, .int 1), (2, .long (-(z5_common (z5_common (z5_common 0 (f 0)) (f 1)) (f 2)))), (4, .int 2), (0, .ref h), (1, .int 3)]) hx hb dX5_norm_87 hl (k := 0) rfl (by decide) (by decide) rfl (fun ls hl => ?_)
            refine lv_goto (tgt := 71) hx hb dX5_norm_90 (by decide) ?_
            refine lv_iload hx hb dX5_norm_71 (lv_at hl 0 rfl) ?_
            refine lv_iload_n hx hb dX5_norm_73 rfl (lv_at hl 4 rfl) ?_
            refine lv_icmp_ge (tgt := 93) hx hb dX5_norm_74 (by decide) (fun h => absurd h (by decide)) (fun _ => ?_)
            refine lv_aload_n hx hb dX5_norm_77 rfl (lv_at hl 3 rfl) ?_
            refine lv_iload hx hb dX5_norm_78 (lv_at hl 0 rfl) ?_
            refine lv_aload_n hx hb dX5_norm_80 rfl (lv_at hl 3 rfl) ?_
            refine lv_iload hx hb dX5_norm_81 (lv_at hl 0 rfl) ?_
            refine ld_l hx hb hK.1 hP 0 1 rfl rfl (ix_lit (by decide)) 1 (by decide) (v := f 1) rfl dX5_norm_83 ?_
            refine lv_lload_n hx hb dX5_norm_84 rfl (lv_at hl 1 rfl) ?_
            refine lv_ldiv hx hb dX5_norm_85 (ng_ne c_1) ?_
            refine st_l hx hb hK.1 hP hD hS 0 1 rfl rfl (ix_lit (by decide)) 1 (by decide) dX5_norm_86 (fun H locs hP hD hS => ?_)
            have hP : va_P D vwCl [kJ h cJ 6 (vp_updL (vp_updL f 0 ((f 0) / (-(z5_common (z5_common (z5_common 0 (f 0)) (f 1)) (f 2))))) 1 ((f 1) / (-(z5_common (z5_common (z5_common 0 (f 0)) (f 1)) (f 2)))))] H := hP
            have hD : va_D A [kJ h cJ 6 (vp_updL (vp_updL f 0 ((f 0) / (-(z5_common (z5_common (z5_common 0 (f 0)) (f 1)) (f 2))))) 1 ((f 1) / (-(z5_common (z5_common (z5_common 0 (f 0)) (f 1)) (f 2)))))] := hD
            refine lv_iinc (v := 2) (lv' := [(5, .int 2), (2, .long (-(z5_common (z5_common (z5_common 0 (f 0)) (f 1)) (f 2)))), (4, .int 2), (0, .ref h), (1, .int 3)]) hx hb dX5_norm_87 hl (k := 0) rfl (by decide) (by decide) rfl (fun ls hl => ?_)
            refine lv_goto (tgt := 71) hx hb dX5_norm_90 (by decide) ?_
            refine lv_iload hx hb dX5_norm_71 (lv_at hl 0 rfl) ?_
            refine lv_iload_n hx hb dX5_norm_73 rfl (lv_at hl 4 rfl) ?_
            refine lv_icmp_ge (tgt := 93) hx hb dX5_norm_74 (by decide) (fun h => absurd h (by decide)) (fun _ => ?_)
            refine lv_aload_n hx hb dX5_norm_77 rfl (lv_at hl 3 rfl) ?_
            refine lv_iload hx hb dX5_norm_78 (lv_at hl 0 rfl) ?_
            refine lv_aload_n hx hb dX5_norm_80 rfl (lv_at hl 3 rfl) ?_
            refine lv_iload hx hb dX5_norm_81 (lv_at hl 0 rfl) ?_
            refine ld_l hx hb hK.1 hP 0 1 rfl rfl (ix_lit (by decide)) 2 (by decide) (v := f 2) rfl dX5_norm_83 ?_
            refine lv_lload_n hx hb dX5_norm_84 rfl (lv_at hl 1 rfl) ?_
            refine lv_ldiv hx hb dX5_norm_85 (ng_ne c_1) ?_
            refine st_l hx hb hK.1 hP hD hS 0 1 rfl rfl (ix_lit (by decide)) 2 (by decide) dX5_norm_86 (fun H locs hP hD hS => ?_)
            have hP : va_P D vwCl [kJ h cJ 6 (vp_updL (vp_updL (vp_updL f 0 ((f 0) / (-(z5_common (z5_common (z5_common 0 (f 0)) (f 1)) (f 2))))) 1 ((f 1) / (-(z5_common (z5_common (z5_common 0 (f 0)) (f 1)) (f 2))))) 2 ((f 2) / (-(z5_common (z5_common (z5_common 0 (f 0)) (f 1)) (f 2)))))] H := hP
            have hD : va_D A [kJ h cJ 6 (vp_updL (vp_updL (vp_updL f 0 ((f 0) / (-(z5_common (z5_common (z5_common 0 (f 0)) (f 1)) (f 2))))) 1 ((f 1) / (-(z5_common (z5_common (z5_common 0 (f 0)) (f 1)) (f 2))))) 2 ((f 2) / (-(z5_common (z5_common (z5_common 0 (f 0)) (f 1)) (f 2)))))] := hD
            refine lv_iinc (v := 3) (lv' := [(5, .int 3), (2, .long (-(z5_common (z5_common (z5_common 0 (f 0)) (f 1)) (f 2)))), (4, .int 2), (0, .ref h), (1, .int 3)]) hx hb dX5_norm_87 hl (k := 0) rfl (by decide) (by decide) rfl (fun ls hl => ?_)
            refine lv_goto (tgt := 71) hx hb dX5_norm_90 (by decide) ?_
            refine lv_iload hx hb dX5_norm_71 (lv_at hl 0 rfl) ?_
            refine lv_iload_n hx hb dX5_norm_73 rfl (lv_at hl 4 rfl) ?_
            refine lv_icmp_ge (tgt := 93) hx hb dX5_norm_74 (by decide) (fun _ => ?_) (fun h => absurd (by decide) h)
            refine lv_iconst (v := 1) hx hb dX5_norm_93 (by decide) ?_
            have he : z5_norm_3_6 f = (1, vp_updL (vp_updL (vp_updL f 0 ((f 0) / (-(z5_common (z5_common (z5_common 0 (f 0)) (f 1)) (f 2))))) 1 ((f 1) / (-(z5_common (z5_common (z5_common 0 (f 0)) (f 1)) (f 2))))) 2 ((f 2) / (-(z5_common (z5_common (z5_common 0 (f 0)) (f 1)) (f 2))))) := by unfold z5_norm_3_6; rw [if_neg c_1, if_pos c_2, if_pos c_4, if_neg c_6, if_neg c_7]
            have he_0 : (z5_norm_3_6 f).1 = 1 := by rw [he]
            have he_1 : (z5_norm_3_6 f).2 = vp_updL (vp_updL (vp_updL f 0 ((f 0) / (-(z5_common (z5_common (z5_common 0 (f 0)) (f 1)) (f 2))))) 1 ((f 1) / (-(z5_common (z5_common (z5_common 0 (f 0)) (f 1)) (f 2))))) 2 ((f 2) / (-(z5_common (z5_common (z5_common 0 (f 0)) (f 1)) (f 2)))) := by rw [he]
            exact rt_z (w1 := fun uu : Unit => [kJ h cJ 6 ((z5_norm_3_6 f).2)]) hx hb hr rfl hlk hS dX5_norm_94 (()) he_0.symm (by rw [he_1]; exact hP) (by rw [he_1]; exact hD)
        · skip
          refine lv_iinc (v := 3) (lv' := [(4, .int 3), (2, .long (z5_common (z5_common (z5_common 0 (f 0)) (f 1)) (f 2))), (0, .ref h), (1, .int 3)]) hx hb dX5_norm_46 hl (k := 0) rfl (by decide) (by decide) rfl (fun ls hl => ?_)
          refine lv_goto (tgt := 37) hx hb dX5_norm_49 (by decide) ?_
          exact absurd (nz_3 c_2 c_4 c_6) c_1
  · skip
    refine lv_iconst (v := 0) hx hb dX5_norm_32 (by decide) ?_
    have he : z5_norm_3_6 f = (0, f) := by unfold z5_norm_3_6; rw [if_pos c_1]
    have he_0 : (z5_norm_3_6 f).1 = 0 := by rw [he]
    have he_1 : (z5_norm_3_6 f).2 = f := by rw [he]
    exact rt_z (w1 := fun uu : Unit => [kJ h cJ 6 ((z5_norm_3_6 f).2)]) hx hb hr rfl hlk hS dX5_norm_33 (()) he_0.symm (by rw [he_1]; exact hP) (by rw [he_1]; exact hD)
def z5_norm_6_6 (f : Nat → Int64) : Int32 × (Nat → Int64) := if (z5_common (z5_common (z5_common (z5_common (z5_common (z5_common 0 (f 0)) (f 1)) (f 2)) (f 3)) (f 4)) (f 5)) = 0 then (0, f) else if (f 0) = 0 then if (f 1) = 0 then if (f 2) = 0 then if (f 3) = 0 then if (f 4) = 0 then if (f 5) = 0 then (0, f) else if 0 ≤ (f 5) then (1, vp_updL (vp_updL (vp_updL (vp_updL (vp_updL (vp_updL f 0 ((f 0) / (z5_common (z5_common (z5_common (z5_common (z5_common (z5_common 0 (f 0)) (f 1)) (f 2)) (f 3)) (f 4)) (f 5)))) 1 ((f 1) / (z5_common (z5_common (z5_common (z5_common (z5_common (z5_common 0 (f 0)) (f 1)) (f 2)) (f 3)) (f 4)) (f 5)))) 2 ((f 2) / (z5_common (z5_common (z5_common (z5_common (z5_common (z5_common 0 (f 0)) (f 1)) (f 2)) (f 3)) (f 4)) (f 5)))) 3 ((f 3) / (z5_common (z5_common (z5_common (z5_common (z5_common (z5_common 0 (f 0)) (f 1)) (f 2)) (f 3)) (f 4)) (f 5)))) 4 ((f 4) / (z5_common (z5_common (z5_common (z5_common (z5_common (z5_common 0 (f 0)) (f 1)) (f 2)) (f 3)) (f 4)) (f 5)))) 5 ((f 5) / (z5_common (z5_common (z5_common (z5_common (z5_common (z5_common 0 (f 0)) (f 1)) (f 2)) (f 3)) (f 4)) (f 5)))) else (1, vp_updL (vp_updL (vp_updL (vp_updL (vp_updL (vp_updL f 0 ((f 0) / (-(z5_common (z5_common (z5_common (z5_common (z5_common (z5_common 0 (f 0)) (f 1)) (f 2)) (f 3)) (f 4)) (f 5))))) 1 ((f 1) / (-(z5_common (z5_common (z5_common (z5_common (z5_common (z5_common 0 (f 0)) (f 1)) (f 2)) (f 3)) (f 4)) (f 5))))) 2 ((f 2) / (-(z5_common (z5_common (z5_common (z5_common (z5_common (z5_common 0 (f 0)) (f 1)) (f 2)) (f 3)) (f 4)) (f 5))))) 3 ((f 3) / (-(z5_common (z5_common (z5_common (z5_common (z5_common (z5_common 0 (f 0)) (f 1)) (f 2)) (f 3)) (f 4)) (f 5))))) 4 ((f 4) / (-(z5_common (z5_common (z5_common (z5_common (z5_common (z5_common 0 (f 0)) (f 1)) (f 2)) (f 3)) (f 4)) (f 5))))) 5 ((f 5) / (-(z5_common (z5_common (z5_common (z5_common (z5_common (z5_common 0 (f 0)) (f 1)) (f 2)) (f 3)) (f 4)) (f 5))))) else if 0 ≤ (f 4) then (1, vp_updL (vp_updL (vp_updL (vp_updL (vp_updL (vp_updL f 0 ((f 0) / (z5_common (z5_common (z5_common (z5_common (z5_common (z5_common 0 (f 0)) (f 1)) (f 2)) (f 3)) (f 4)) (f 5)))) 1 ((f 1) / (z5_common (z5_common (z5_common (z5_common (z5_common (z5_common 0 (f 0)) (f 1)) (f 2)) (f 3)) (f 4)) (f 5)))) 2 ((f 2) / (z5_common (z5_common (z5_common (z5_common (z5_common (z5_common 0 (f 0)) (f 1)) (f 2)) (f 3)) (f 4)) (f 5)))) 3 ((f 3) / (z5_common (z5_common (z5_common (z5_common (z5_common (z5_common 0 (f 0)) (f 1)) (f 2)) (f 3)) (f 4)) (f 5)))) 4 ((f 4) / (z5_common (z5_common (z5_common (z5_common (z5_common (z5_common 0 (f 0)) (f 1)) (f 2)) (f 3)) (f 4)) (f 5)))) 5 ((f 5) / (z5_common (z5_common (z5_common (z5_common (z5_common (z5_common 0 (f 0)) (f 1)) (f 2)) (f 3)) (f 4)) (f 5)))) else (1, vp_updL (vp_updL (vp_updL (vp_updL (vp_updL (vp_updL f 0 ((f 0) / (-(z5_common (z5_common (z5_common (z5_common (z5_common (z5_common 0 (f 0)) (f 1)) (f 2)) (f 3)) (f 4)) (f 5))))) 1 ((f 1) / (-(z5_common (z5_common (z5_common (z5_common (z5_common (z5_common 0 (f 0)) (f 1)) (f 2)) (f 3)) (f 4)) (f 5))))) 2 ((f 2) / (-(z5_common (z5_common (z5_common (z5_common (z5_common (z5_common 0 (f 0)) (f 1)) (f 2)) (f 3)) (f 4)) (f 5))))) 3 ((f 3) / (-(z5_common (z5_common (z5_common (z5_common (z5_common (z5_common 0 (f 0)) (f 1)) (f 2)) (f 3)) (f 4)) (f 5))))) 4 ((f 4) / (-(z5_common (z5_common (z5_common (z5_common (z5_common (z5_common 0 (f 0)) (f 1)) (f 2)) (f 3)) (f 4)) (f 5))))) 5 ((f 5) / (-(z5_common (z5_common (z5_common (z5_common (z5_common (z5_common 0 (f 0)) (f 1)) (f 2)) (f 3)) (f 4)) (f 5))))) else if 0 ≤ (f 3) then (1, vp_updL (vp_updL (vp_updL (vp_updL (vp_updL (vp_updL f 0 ((f 0) / (z5_common (z5_common (z5_common (z5_common (z5_common (z5_common 0 (f 0)) (f 1)) (f 2)) (f 3)) (f 4)) (f 5)))) 1 ((f 1) / (z5_common (z5_common (z5_common (z5_common (z5_common (z5_common 0 (f 0)) (f 1)) (f 2)) (f 3)) (f 4)) (f 5)))) 2 ((f 2) / (z5_common (z5_common (z5_common (z5_common (z5_common (z5_common 0 (f 0)) (f 1)) (f 2)) (f 3)) (f 4)) (f 5)))) 3 ((f 3) / (z5_common (z5_common (z5_common (z5_common (z5_common (z5_common 0 (f 0)) (f 1)) (f 2)) (f 3)) (f 4)) (f 5)))) 4 ((f 4) / (z5_common (z5_common (z5_common (z5_common (z5_common (z5_common 0 (f 0)) (f 1)) (f 2)) (f 3)) (f 4)) (f 5)))) 5 ((f 5) / (z5_common (z5_common (z5_common (z5_common (z5_common (z5_common 0 (f 0)) (f 1)) (f 2)) (f 3)) (f 4)) (f 5)))) else (1, vp_updL (vp_updL (vp_updL (vp_updL (vp_updL (vp_updL f 0 ((f 0) / (-(z5_common (z5_common (z5_common (z5_common (z5_common (z5_common 0 (f 0)) (f 1)) (f 2)) (f 3)) (f 4)) (f 5))))) 1 ((f 1) / (-(z5_common (z5_common (z5_common (z5_common (z5_common (z5_common 0 (f 0)) (f 1)) (f 2)) (f 3)) (f 4)) (f 5))))) 2 ((f 2) / (-(z5_common (z5_common (z5_common (z5_common (z5_common (z5_common 0 (f 0)) (f 1)) (f 2)) (f 3)) (f 4)) (f 5))))) 3 ((f 3) / (-(z5_common (z5_common (z5_common (z5_common (z5_common (z5_common 0 (f 0)) (f 1)) (f 2)) (f 3)) (f 4)) (f 5))))) 4 ((f 4) / (-(z5_common (z5_common (z5_common (z5_common (z5_common (z5_common 0 (f 0)) (f 1)) (f 2)) (f 3)) (f 4)) (f 5))))) 5 ((f 5) / (-(z5_common (z5_common (z5_common (z5_common (z5_common (z5_common 0 (f 0)) (f 1)) (f 2)) (f 3)) (f 4)) (f 5))))) else if 0 ≤ (f 2) then (1, vp_updL (vp_updL (vp_updL (vp_updL (vp_updL (vp_updL f 0 ((f 0) / (z5_common (z5_common (z5_common (z5_common (z5_common (z5_common 0 (f 0)) (f 1)) (f 2)) (f 3)) (f 4)) (f 5)))) 1 ((f 1) / (z5_common (z5_common (z5_common (z5_common (z5_common (z5_common 0 (f 0)) (f 1)) (f 2)) (f 3)) (f 4)) (f 5)))) 2 ((f 2) / (z5_common (z5_common (z5_common (z5_common (z5_common (z5_common 0 (f 0)) (f 1)) (f 2)) (f 3)) (f 4)) (f 5)))) 3 ((f 3) / (z5_common (z5_common (z5_common (z5_common (z5_common (z5_common 0 (f 0)) (f 1)) (f 2)) (f 3)) (f 4)) (f 5)))) 4 ((f 4) / (z5_common (z5_common (z5_common (z5_common (z5_common (z5_common 0 (f 0)) (f 1)) (f 2)) (f 3)) (f 4)) (f 5)))) 5 ((f 5) / (z5_common (z5_common (z5_common (z5_common (z5_common (z5_common 0 (f 0)) (f 1)) (f 2)) (f 3)) (f 4)) (f 5)))) else (1, vp_updL (vp_updL (vp_updL (vp_updL (vp_updL (vp_updL f 0 ((f 0) / (-(z5_common (z5_common (z5_common (z5_common (z5_common (z5_common 0 (f 0)) (f 1)) (f 2)) (f 3)) (f 4)) (f 5))))) 1 ((f 1) / (-(z5_common (z5_common (z5_common (z5_common (z5_common (z5_common 0 (f 0)) (f 1)) (f 2)) (f 3)) (f 4)) (f 5))))) 2 ((f 2) / (-(z5_common (z5_common (z5_common (z5_common (z5_common (z5_common 0 (f 0)) (f 1)) (f 2)) (f 3)) (f 4)) (f 5))))) 3 ((f 3) / (-(z5_common (z5_common (z5_common (z5_common (z5_common (z5_common 0 (f 0)) (f 1)) (f 2)) (f 3)) (f 4)) (f 5))))) 4 ((f 4) / (-(z5_common (z5_common (z5_common (z5_common (z5_common (z5_common 0 (f 0)) (f 1)) (f 2)) (f 3)) (f 4)) (f 5))))) 5 ((f 5) / (-(z5_common (z5_common (z5_common (z5_common (z5_common (z5_common 0 (f 0)) (f 1)) (f 2)) (f 3)) (f 4)) (f 5))))) else if 0 ≤ (f 1) then (1, vp_updL (vp_updL (vp_updL (vp_updL (vp_updL (vp_updL f 0 ((f 0) / (z5_common (z5_common (z5_common (z5_common (z5_common (z5_common 0 (f 0)) (f 1)) (f 2)) (f 3)) (f 4)) (f 5)))) 1 ((f 1) / (z5_common (z5_common (z5_common (z5_common (z5_common (z5_common 0 (f 0)) (f 1)) (f 2)) (f 3)) (f 4)) (f 5)))) 2 ((f 2) / (z5_common (z5_common (z5_common (z5_common (z5_common (z5_common 0 (f 0)) (f 1)) (f 2)) (f 3)) (f 4)) (f 5)))) 3 ((f 3) / (z5_common (z5_common (z5_common (z5_common (z5_common (z5_common 0 (f 0)) (f 1)) (f 2)) (f 3)) (f 4)) (f 5)))) 4 ((f 4) / (z5_common (z5_common (z5_common (z5_common (z5_common (z5_common 0 (f 0)) (f 1)) (f 2)) (f 3)) (f 4)) (f 5)))) 5 ((f 5) / (z5_common (z5_common (z5_common (z5_common (z5_common (z5_common 0 (f 0)) (f 1)) (f 2)) (f 3)) (f 4)) (f 5)))) else (1, vp_updL (vp_updL (vp_updL (vp_updL (vp_updL (vp_updL f 0 ((f 0) / (-(z5_common (z5_common (z5_common (z5_common (z5_common (z5_common 0 (f 0)) (f 1)) (f 2)) (f 3)) (f 4)) (f 5))))) 1 ((f 1) / (-(z5_common (z5_common (z5_common (z5_common (z5_common (z5_common 0 (f 0)) (f 1)) (f 2)) (f 3)) (f 4)) (f 5))))) 2 ((f 2) / (-(z5_common (z5_common (z5_common (z5_common (z5_common (z5_common 0 (f 0)) (f 1)) (f 2)) (f 3)) (f 4)) (f 5))))) 3 ((f 3) / (-(z5_common (z5_common (z5_common (z5_common (z5_common (z5_common 0 (f 0)) (f 1)) (f 2)) (f 3)) (f 4)) (f 5))))) 4 ((f 4) / (-(z5_common (z5_common (z5_common (z5_common (z5_common (z5_common 0 (f 0)) (f 1)) (f 2)) (f 3)) (f 4)) (f 5))))) 5 ((f 5) / (-(z5_common (z5_common (z5_common (z5_common (z5_common (z5_common 0 (f 0)) (f 1)) (f 2)) (f 3)) (f 4)) (f 5))))) else if 0 ≤ (f 0) then (1, vp_updL (vp_updL (vp_updL (vp_updL (vp_updL (vp_updL f 0 ((f 0) / (z5_common (z5_common (z5_common (z5_common (z5_common (z5_common 0 (f 0)) (f 1)) (f 2)) (f 3)) (f 4)) (f 5)))) 1 ((f 1) / (z5_common (z5_common (z5_common (z5_common (z5_common (z5_common 0 (f 0)) (f 1)) (f 2)) (f 3)) (f 4)) (f 5)))) 2 ((f 2) / (z5_common (z5_common (z5_common (z5_common (z5_common (z5_common 0 (f 0)) (f 1)) (f 2)) (f 3)) (f 4)) (f 5)))) 3 ((f 3) / (z5_common (z5_common (z5_common (z5_common (z5_common (z5_common 0 (f 0)) (f 1)) (f 2)) (f 3)) (f 4)) (f 5)))) 4 ((f 4) / (z5_common (z5_common (z5_common (z5_common (z5_common (z5_common 0 (f 0)) (f 1)) (f 2)) (f 3)) (f 4)) (f 5)))) 5 ((f 5) / (z5_common (z5_common (z5_common (z5_common (z5_common (z5_common 0 (f 0)) (f 1)) (f 2)) (f 3)) (f 4)) (f 5)))) else (1, vp_updL (vp_updL (vp_updL (vp_updL (vp_updL (vp_updL f 0 ((f 0) / (-(z5_common (z5_common (z5_common (z5_common (z5_common (z5_common 0 (f 0)) (f 1)) (f 2)) (f 3)) (f 4)) (f 5))))) 1 ((f 1) / (-(z5_common (z5_common (z5_common (z5_common (z5_common (z5_common 0 (f 0)) (f 1)) (f 2)) (f 3)) (f 4)) (f 5))))) 2 ((f 2) / (-(z5_common (z5_common (z5_common (z5_common (z5_common (z5_common 0 (f 0)) (f 1)) (f 2)) (f 3)) (f 4)) (f 5))))) 3 ((f 3) / (-(z5_common (z5_common (z5_common (z5_common (z5_common (z5_common 0 (f 0)) (f 1)) (f 2)) (f 3)) (f 4)) (f 5))))) 4 ((f 4) / (-(z5_common (z5_common (z5_common (z5_common (z5_common (z5_common 0 (f 0)) (f 1)) (f 2)) (f 3)) (f 4)) (f 5))))) 5 ((f 5) / (-(z5_common (z5_common (z5_common (z5_common (z5_common (z5_common 0 (f 0)) (f 1)) (f 2)) (f 3)) (f 4)) (f 5)))))
set_option maxHeartbeats 4000000 in
set_option maxRecDepth 100000 in
/-- X5.norm -/
theorem c_X5_norm_6_6 (l : Launch) (D : va_G) (cI cJ : ClassId) (h : Nat) (f : Nat → Int64) : mw_C l yX5_norm wsX5_norm ({ frames := 1, cells := 0, slots := 0, locals := 29 }) D cI cJ [.ref h, .int 6] [kJ h cJ 6 f] (qe_i (fun (r : Int32) (_ : Unit) => r = (z5_norm_6_6 f).1) (fun uu => [kJ h cJ 6 ((z5_norm_6_6 f).2)])) := by
  refine mw_in (cc := cX5_norm) (lv := [(0, .ref h), (1, .int 6)]) (by decide) rfl (Nat.le_of_ble_eq_true rfl) rfl ?_
  intro pG eG sG mG below meth cG ls A hx hb hr hml hown hts hlk hin hP hK hD hA hS hl
  have hown : sG.vm.findClass RX5 = some mG.cls := hown
  refine lv_lconst (v := 0) hx hb dX5_norm_0 (by decide) ?_
  refine lv_lstore_n (lv' := [(2, .long 0), (0, .ref h), (1, .int 6)]) hx hb dX5_norm_1 rfl hl (by decide) rfl (fun ls hl => ?_)
  refine lv_iconst (v := 0) hx hb dX5_norm_2 (by decide) ?_
  refine lv_istore (lv' := [(4, .int 0), (2, .long 0), (0, .ref h), (1, .int 6)]) hx hb dX5_norm_3 hl (by decide) rfl (fun ls hl => ?_)
  refine lv_iload hx hb dX5_norm_5 (lv_at hl 0 rfl) ?_
  refine lv_iload_n hx hb dX5_norm_7 rfl (lv_at hl 3 rfl) ?_
  refine lv_icmp_ge (tgt := 26) hx hb dX5_norm_8 (by decide) (fun h => absurd h (by decide)) (fun _ => ?_)
  refine lv_lload_n hx hb dX5_norm_11 rfl (lv_at hl 1 rfl) ?_
  refine lv_aload_n hx hb dX5_norm_12 rfl (lv_at hl 2 rfl) ?_
  refine lv_iload hx hb dX5_norm_13 (lv_at hl 0 rfl) ?_
  refine ld_l hx hb hK.1 hP 0 1 rfl rfl (ix_lit (by decide)) 0 (by decide) (v := f 0) rfl dX5_norm_15 ?_
  have hPc := hP.sub (ws' := []) [] rfl
  refine cr_l (va_runS (As := [.long 0, .long (f 0)]) (rest := []) ⟨hx, hb, hml, hown, hts⟩ (c_X5_common l D cI cJ 0 (f 0)) (va_cwS 2 hts gX5_norm_X5_common rfl rfl rfl (by decide +kernel) ⟨Nat.le_of_ble_eq_true rfl, Nat.le_of_ble_eq_true rfl⟩) ⟨gd_blR, gd_prR hPc hK⟩ rfl rfl hl.1 rfl (lv_room (Nat.le_of_ble_eq_true rfl)) dX5_norm_16 ⟨Nat.zero_le _, Nat.zero_le _⟩) (fun r_16 hw => ?_)
  subst hw
  clear hPc
  refine lv_lstore_n (lv' := [(2, .long (z5_common 0 (f 0))), (4, .int 0), (0, .ref h), (1, .int 6)]) hx hb dX5_norm_19 rfl hl (by decide) rfl (fun ls hl => ?_)
  refine lv_iinc (v := 1) (lv' := [(4, .int 1), (2, .long (z5_common 0 (f 0))), (0, .ref h), (1, .int 6)]) hx hb dX5_norm_20 hl (k := 1) rfl (by decide) (by decide) rfl (fun ls hl => ?_)
  refine lv_goto (tgt := 5) hx hb dX5_norm_23 (by decide) ?_
  refine lv_iload hx hb dX5_norm_5 (lv_at hl 0 rfl) ?_
  refine lv_iload_n hx hb dX5_norm_7 rfl (lv_at hl 3 rfl) ?_
  refine lv_icmp_ge (tgt := 26) hx hb dX5_norm_8 (by decide) (fun h => absurd h (by decide)) (fun _ => ?_)
  refine lv_lload_n hx hb dX5_norm_11 rfl (lv_at hl 1 rfl) ?_
  refine lv_aload_n hx hb dX5_norm_12 rfl (lv_at hl 2 rfl) ?_
  refine lv_iload hx hb dX5_norm_13 (lv_at hl 0 rfl) ?_
  refine ld_l hx hb hK.1 hP 0 1 rfl rfl (ix_lit (by decide)) 1 (by decide) (v := f 1) rfl dX5_norm_15 ?_
  have hPc := hP.sub (ws' := []) [] rfl
  refine cr_l (va_runS (As := [.long (z5_common 0 (f 0)), .long (f 1)]) (rest := []) ⟨hx, hb, hml, hown, hts⟩ (c_X5_common l D cI cJ (z5_common 0 (f 0)) (f 1)) (va_cwS 2 hts gX5_norm_X5_common rfl rfl rfl (by decide +kernel) ⟨Nat.le_of_ble_eq_true rfl, Nat.le_of_ble_eq_true rfl⟩) ⟨gd_blR, gd_prR hPc hK⟩ rfl rfl hl.1 rfl (lv_room (Nat.le_of_ble_eq_true rfl)) dX5_norm_16 ⟨Nat.zero_le _, Nat.zero_le _⟩) (fun r_16 hw => ?_)
  subst hw
  clear hPc
  refine lv_lstore_n (lv' := [(2, .long (z5_common (z5_common 0 (f 0)) (f 1))), (4, .int 1), (0, .ref h), (1, .int 6)]) hx hb dX5_norm_19 rfl hl (by decide) rfl (fun ls hl => ?_)
  refine lv_iinc (v := 2) (lv' := [(4, .int 2), (2, .long (z5_common (z5_common 0 (f 0)) (f 1))), (0, .ref h), (1, .int 6)]) hx hb dX5_norm_20 hl (k := 1) rfl (by decide) (by decide) rfl (fun ls hl => ?_)
  refine lv_goto (tgt := 5) hx hb dX5_norm_23 (by decide) ?_
  refine lv_iload hx hb dX5_norm_5 (lv_at hl 0 rfl) ?_
  refine lv_iload_n hx hb dX5_norm_7 rfl (lv_at hl 3 rfl) ?_
  refine lv_icmp_ge (tgt := 26) hx hb dX5_norm_8 (by decide) (fun h => absurd h (by decide)) (fun _ => ?_)
  refine lv_lload_n hx hb dX5_norm_11 rfl (lv_at hl 1 rfl) ?_
  refine lv_aload_n hx hb dX5_norm_12 rfl (lv_at hl 2 rfl) ?_
  refine lv_iload hx hb dX5_norm_13 (lv_at hl 0 rfl) ?_
  refine ld_l hx hb hK.1 hP 0 1 rfl rfl (ix_lit (by decide)) 2 (by decide) (v := f 2) rfl dX5_norm_15 ?_
  have hPc := hP.sub (ws' := []) [] rfl
  refine cr_l (va_runS (As := [.long (z5_common (z5_common 0 (f 0)) (f 1)), .long (f 2)]) (rest := []) ⟨hx, hb, hml, hown, hts⟩ (c_X5_common l D cI cJ (z5_common (z5_common 0 (f 0)) (f 1)) (f 2)) (va_cwS 2 hts gX5_norm_X5_common rfl rfl rfl (by decide +kernel) ⟨Nat.le_of_ble_eq_true rfl, Nat.le_of_ble_eq_true rfl⟩) ⟨gd_blR, gd_prR hPc hK⟩ rfl rfl hl.1 rfl (lv_room (Nat.le_of_ble_eq_true rfl)) dX5_norm_16 ⟨Nat.zero_le _, Nat.zero_le _⟩) (fun r_16 hw => ?_)
  subst hw
  clear hPc
  refine lv_lstore_n (lv' := [(2, .long (z5_common (z5_common (z5_common 0 (f 0)) (f 1)) (f 2))), (4, .int 2), (0, .ref h), (1, .int 6)]) hx hb dX5_norm_19 rfl hl (by decide) rfl (fun ls hl => ?_)
  refine lv_iinc (v := 3) (lv' := [(4, .int 3), (2, .long (z5_common (z5_common (z5_common 0 (f 0)) (f 1)) (f 2))), (0, .ref h), (1, .int 6)]) hx hb dX5_norm_20 hl (k := 1) rfl (by decide) (by decide) rfl (fun ls hl => ?_)
  refine lv_goto (tgt := 5) hx hb dX5_norm_23 (by decide) ?_
  refine lv_iload hx hb dX5_norm_5 (lv_at hl 0 rfl) ?_
  refine lv_iload_n hx hb dX5_norm_7 rfl (lv_at hl 3 rfl) ?_
  refine lv_icmp_ge (tgt := 26) hx hb dX5_norm_8 (by decide) (fun h => absurd h (by decide)) (fun _ => ?_)
  refine lv_lload_n hx hb dX5_norm_11 rfl (lv_at hl 1 rfl) ?_
  refine lv_aload_n hx hb dX5_norm_12 rfl (lv_at hl 2 rfl) ?_
  refine lv_iload hx hb dX5_norm_13 (lv_at hl 0 rfl) ?_
  refine ld_l hx hb hK.1 hP 0 1 rfl rfl (ix_lit (by decide)) 3 (by decide) (v := f 3) rfl dX5_norm_15 ?_
  have hPc := hP.sub (ws' := []) [] rfl
  refine cr_l (va_runS (As := [.long (z5_common (z5_common (z5_common 0 (f 0)) (f 1)) (f 2)), .long (f 3)]) (rest := []) ⟨hx, hb, hml, hown, hts⟩ (c_X5_common l D cI cJ (z5_common (z5_common (z5_common 0 (f 0)) (f 1)) (f 2)) (f 3)) (va_cwS 2 hts gX5_norm_X5_common rfl rfl rfl (by decide +kernel) ⟨Nat.le_of_ble_eq_true rfl, Nat.le_of_ble_eq_true rfl⟩) ⟨gd_blR, gd_prR hPc hK⟩ rfl rfl hl.1 rfl (lv_room (Nat.le_of_ble_eq_true rfl)) dX5_norm_16 ⟨Nat.zero_le _, Nat.zero_le _⟩) (fun r_16 hw => ?_)
  subst hw
  clear hPc
  refine lv_lstore_n (lv' := [(2, .long (z5_common (z5_common (z5_common (z5_common 0 (f 0)) (f 1)) (f 2)) (f 3))), (4, .int 3), (0, .ref h), (1, .int 6)]) hx hb dX5_norm_19 rfl hl (by decide) rfl (fun ls hl => ?_)
  refine lv_iinc (v := 4) (lv' := [(4, .int 4), (2, .long (z5_common (z5_common (z5_common (z5_common 0 (f 0)) (f 1)) (f 2)) (f 3))), (0, .ref h), (1, .int 6)]) hx hb dX5_norm_20 hl (k := 1) rfl (by decide) (by decide) rfl (fun ls hl => ?_)
  refine lv_goto (tgt := 5) hx hb dX5_norm_23 (by decide) ?_
  refine lv_iload hx hb dX5_norm_5 (lv_at hl 0 rfl) ?_
  refine lv_iload_n hx hb dX5_norm_7 rfl (lv_at hl 3 rfl) ?_
  refine lv_icmp_ge (tgt := 26) hx hb dX5_norm_8 (by decide) (fun h => absurd h (by decide)) (fun _ => ?_)
  refine lv_lload_n hx hb dX5_norm_11 rfl (lv_at hl 1 rfl) ?_
  refine lv_aload_n hx hb dX5_norm_12 rfl (lv_at hl 2 rfl) ?_
  refine lv_iload hx hb dX5_norm_13 (lv_at hl 0 rfl) ?_
  refine ld_l hx hb hK.1 hP 0 1 rfl rfl (ix_lit (by decide)) 4 (by decide) (v := f 4) rfl dX5_norm_15 ?_
  have hPc := hP.sub (ws' := []) [] rfl
  refine cr_l (va_runS (As := [.long (z5_common (z5_common (z5_common (z5_common 0 (f 0)) (f 1)) (f 2)) (f 3)), .long (f 4)]) (rest := []) ⟨hx, hb, hml, hown, hts⟩ (c_X5_common l D cI cJ (z5_common (z5_common (z5_common (z5_common 0 (f 0)) (f 1)) (f 2)) (f 3)) (f 4)) (va_cwS 2 hts gX5_norm_X5_common rfl rfl rfl (by decide +kernel) ⟨Nat.le_of_ble_eq_true rfl, Nat.le_of_ble_eq_true rfl⟩) ⟨gd_blR, gd_prR hPc hK⟩ rfl rfl hl.1 rfl (lv_room (Nat.le_of_ble_eq_true rfl)) dX5_norm_16 ⟨Nat.zero_le _, Nat.zero_le _⟩) (fun r_16 hw => ?_)
  subst hw
  clear hPc
  refine lv_lstore_n (lv' := [(2, .long (z5_common (z5_common (z5_common (z5_common (z5_common 0 (f 0)) (f 1)) (f 2)) (f 3)) (f 4))), (4, .int 4), (0, .ref h), (1, .int 6)]) hx hb dX5_norm_19 rfl hl (by decide) rfl (fun ls hl => ?_)
  refine lv_iinc (v := 5) (lv' := [(4, .int 5), (2, .long (z5_common (z5_common (z5_common (z5_common (z5_common 0 (f 0)) (f 1)) (f 2)) (f 3)) (f 4))), (0, .ref h), (1, .int 6)]) hx hb dX5_norm_20 hl (k := 1) rfl (by decide) (by decide) rfl (fun ls hl => ?_)
  refine lv_goto (tgt := 5) hx hb dX5_norm_23 (by decide) ?_
  refine lv_iload hx hb dX5_norm_5 (lv_at hl 0 rfl) ?_
  refine lv_iload_n hx hb dX5_norm_7 rfl (lv_at hl 3 rfl) ?_
  refine lv_icmp_ge (tgt := 26) hx hb dX5_norm_8 (by decide) (fun h => absurd h (by decide)) (fun _ => ?_)
  refine lv_lload_n hx hb dX5_norm_11 rfl (lv_at hl 1 rfl) ?_
  refine lv_aload_n hx hb dX5_norm_12 rfl (lv_at hl 2 rfl) ?_
  refine lv_iload hx hb dX5_norm_13 (lv_at hl 0 rfl) ?_
  refine ld_l hx hb hK.1 hP 0 1 rfl rfl (ix_lit (by decide)) 5 (by decide) (v := f 5) rfl dX5_norm_15 ?_
  have hPc := hP.sub (ws' := []) [] rfl
  refine cr_l (va_runS (As := [.long (z5_common (z5_common (z5_common (z5_common (z5_common 0 (f 0)) (f 1)) (f 2)) (f 3)) (f 4)), .long (f 5)]) (rest := []) ⟨hx, hb, hml, hown, hts⟩ (c_X5_common l D cI cJ (z5_common (z5_common (z5_common (z5_common (z5_common 0 (f 0)) (f 1)) (f 2)) (f 3)) (f 4)) (f 5)) (va_cwS 2 hts gX5_norm_X5_common rfl rfl rfl (by decide +kernel) ⟨Nat.le_of_ble_eq_true rfl, Nat.le_of_ble_eq_true rfl⟩) ⟨gd_blR, gd_prR hPc hK⟩ rfl rfl hl.1 rfl (lv_room (Nat.le_of_ble_eq_true rfl)) dX5_norm_16 ⟨Nat.zero_le _, Nat.zero_le _⟩) (fun r_16 hw => ?_)
  subst hw
  clear hPc
  refine lv_lstore_n (lv' := [(2, .long (z5_common (z5_common (z5_common (z5_common (z5_common (z5_common 0 (f 0)) (f 1)) (f 2)) (f 3)) (f 4)) (f 5))), (4, .int 5), (0, .ref h), (1, .int 6)]) hx hb dX5_norm_19 rfl hl (by decide) rfl (fun ls hl => ?_)
  refine lv_iinc (v := 6) (lv' := [(4, .int 6), (2, .long (z5_common (z5_common (z5_common (z5_common (z5_common (z5_common 0 (f 0)) (f 1)) (f 2)) (f 3)) (f 4)) (f 5))), (0, .ref h), (1, .int 6)]) hx hb dX5_norm_20 hl (k := 1) rfl (by decide) (by decide) rfl (fun ls hl => ?_)
  refine lv_goto (tgt := 5) hx hb dX5_norm_23 (by decide) ?_
  refine lv_iload hx hb dX5_norm_5 (lv_at hl 0 rfl) ?_
  refine lv_iload_n hx hb dX5_norm_7 rfl (lv_at hl 3 rfl) ?_
  refine lv_icmp_ge (tgt := 26) hx hb dX5_norm_8 (by decide) (fun _ => ?_) (fun h => absurd (by decide) h)
  refine lv_lload_n hx hb dX5_norm_26 rfl (lv_at hl 1 rfl) ?_
  refine lv_lconst (v := 0) hx hb dX5_norm_27 (by decide) ?_
  refine lb_ne (tgt := 34) hx hb dX5_norm_28 rfl dX5_norm_29 (by decide) (fun c_1 => ?_) (fun c_1 => ?_)
  · skip
    refine lv_iconst (v := 0) hx hb dX5_norm_34 (by decide) ?_
    refine lv_istore (lv' := [(4, .int 0), (2, .long (z5_common (z5_common (z5_common (z5_common (z5_common (z5_common 0 (f 0)) (f 1)) (f 2)) (f 3)) (f 4)) (f 5))), (0, .ref h), (1, .int 6)]) hx hb dX5_norm_35 hl (by decide) rfl (fun ls hl => ?_)
    refine lv_aload_n hx hb dX5_norm_37 rfl (lv_at hl 2 rfl) ?_
    refine lv_iload hx hb dX5_norm_38 (lv_at hl 0 rfl) ?_
    refine ld_l hx hb hK.1 hP 0 1 rfl rfl (ix_lit (by decide)) 0 (by decide) (v := f 0) rfl dX5_norm_40 ?_
    refine lv_lconst (v := 0) hx hb dX5_norm_41 (by decide) ?_
    refine lb_ne (tgt := 52) hx hb dX5_norm_42 rfl dX5_norm_43 (by decide) (fun c_2 => ?_) (fun c_2 => ?_)
    · skip
      refine lv_aload_n hx hb dX5_norm_52 rfl (lv_at hl 2 rfl) ?_
      refine lv_iload hx hb dX5_norm_53 (lv_at hl 0 rfl) ?_
      refine ld_l hx hb hK.1 hP 0 1 rfl rfl (ix_lit (by decide)) 0 (by decide) (v := f 0) rfl dX5_norm_55 ?_
      refine lv_lconst (v := 0) hx hb dX5_norm_56 (by decide) ?_
      refine lb_ge (tgt := 66) hx hb dX5_norm_57 rfl dX5_norm_58 (by decide) (fun c_3 => ?_) (fun c_3 => ?_)
      · skip
        refine lv_lload_n hx hb dX5_norm_66 rfl (lv_at hl 1 rfl) ?_
        refine lv_lstore_n (lv' := [(2, .long (z5_common (z5_common (z5_common (z5_common (z5_common (z5_common 0 (f 0)) (f 1)) (f 2)) (f 3)) (f 4)) (f 5))), (4, .int 0), (0, .ref h), (1, .int 6)]) hx hb dX5_norm_67 rfl hl (by decide) rfl (fun ls hl => ?_)
        refine lv_iconst (v := 0) hx hb dX5_norm_68 (by decide) ?_
        refine lv_istore (lv' := [(5, .int 0), (2, .long (z5_common (z5_common (z5_common (z5_common (z5_common (z5_common 0 (f 0)) (f 1)) (f 2)) (f 3)) (f 4)) (f 5))), (4, .int 0), (0, .ref h), (1, .int 6)]) hx hb dX5_norm_69 hl (by decide) rfl (fun ls hl => ?_)
        refine lv_iload hx hb dX5_norm_71 (lv_at hl 0 rfl) ?_
        refine lv_iload_n hx hb dX5_norm_73 rfl (lv_at hl 4 rfl) ?_
        refine lv_icmp_ge (tgt := 93) hx hb dX5_norm_74 (by decide) (fun h => absurd h (by decide)) (fun _ => ?_)
        refine lv_aload_n hx hb dX5_norm_77 rfl (lv_at hl 3 rfl) ?_
        refine lv_iload hx hb dX5_norm_78 (lv_at hl 0 rfl) ?_
        refine lv_aload_n hx hb dX5_norm_80 rfl (lv_at hl 3 rfl) ?_
        refine lv_iload hx hb dX5_norm_81 (lv_at hl 0 rfl) ?_
        refine ld_l hx hb hK.1 hP 0 1 rfl rfl (ix_lit (by decide)) 0 (by decide) (v := f 0) rfl dX5_norm_83 ?_
        refine lv_lload_n hx hb dX5_norm_84 rfl (lv_at hl 1 rfl) ?_
        refine lv_ldiv hx hb dX5_norm_85 c_1 ?_
        refine st_l hx hb hK.1 hP hD hS 0 1 rfl rfl (ix_lit (by decide)) 0 (by decide) dX5_norm_86 (fun H locs hP hD hS => ?_)
        have hP : va_P D vwCl [kJ h cJ 6 (vp_updL f 0 ((f 0) / (z5_common (z5_common (z5_common (z5_common (z5_common (z5_common 0 (f 0)) (f 1)) (f 2)) (f 3)) (f 4)) (f 5))))] H := hP
        have hD : va_D A [kJ h cJ 6 (vp_updL f 0 ((f 0) / (z5_common (z5_common (z5_common (z5_common (z5_common (z5_common 0 (f 0)) (f 1)) (f 2)) (f 3)) (f 4)) (f 5))))] := hD
        refine lv_iinc (v := 1) (lv' := [(5, .int 1), (2, .long (z5_common (z5_common (z5_common (z5_common (z5_common (z5_common 0 (f 0)) (f 1)) (f 2)) (f 3)) (f 4)) (f 5))), (4, .int 0), (0, .ref h), (1, .int 6)]) hx hb dX5_norm_87 hl (k := 0) rfl (by decide) (by decide) rfl (fun ls hl => ?_)
        refine lv_goto (tgt := 71) hx hb dX5_norm_90 (by decide) ?_
        refine lv_iload hx hb dX5_norm_71 (lv_at hl 0 rfl) ?_
        refine lv_iload_n hx hb dX5_norm_73 rfl (lv_at hl 4 rfl) ?_
        refine lv_icmp_ge (tgt := 93) hx hb dX5_norm_74 (by decide) (fun h => absurd h (by decide)) (fun _ => ?_)
        refine lv_aload_n hx hb dX5_norm_77 rfl (lv_at hl 3 rfl) ?_
        refine lv_iload hx hb dX5_norm_78 (lv_at hl 0 rfl) ?_
        refine lv_aload_n hx hb dX5_norm_80 rfl (lv_at hl 3 rfl) ?_
        refine lv_iload hx hb dX5_norm_81 (lv_at hl 0 rfl) ?_
        refine ld_l hx hb hK.1 hP 0 1 rfl rfl (ix_lit (by decide)) 1 (by decide) (v := f 1) rfl dX5_norm_83 ?_
        refine lv_lload_n hx hb dX5_norm_84 rfl (lv_at hl 1 rfl) ?_
        refine lv_ldiv hx hb dX5_norm_85 c_1 ?_
        refine st_l hx hb hK.1 hP hD hS 0 1 rfl rfl (ix_lit (by decide)) 1 (by decide) dX5_norm_86 (fun H locs hP hD hS => ?_)
        have hP : va_P D vwCl [kJ h cJ 6 (vp_updL (vp_updL f 0 ((f 0) / (z5_common (z5_common (z5_common (z5_common (z5_common (z5_common 0 (f 0)) (f 1)) (f 2)) (f 3)) (f 4)) (f 5)))) 1 ((f 1) / (z5_common (z5_common (z5_common (z5_common (z5_common (z5_common 0 (f 0)) (f 1)) (f 2)) (f 3)) (f 4)) (f 5))))] H := hP
        have hD : va_D A [kJ h cJ 6 (vp_updL (vp_updL f 0 ((f 0) / (z5_common (z5_common (z5_common (z5_common (z5_common (z5_common 0 (f 0)) (f 1)) (f 2)) (f 3)) (f 4)) (f 5)))) 1 ((f 1) / (z5_common (z5_common (z5_common (z5_common (z5_common (z5_common 0 (f 0)) (f 1)) (f 2)) (f 3)) (f 4)) (f 5))))] := hD
        refine lv_iinc (v := 2) (lv' := [(5, .int 2), (2, .long (z5_common (z5_common (z5_common (z5_common (z5_common (z5_common 0 (f 0)) (f 1)) (f 2)) (f 3)) (f 4)) (f 5))), (4, .int 0), (0, .ref h), (1, .int 6)]) hx hb dX5_norm_87 hl (k := 0) rfl (by decide) (by decide) rfl (fun ls hl => ?_)
        refine lv_goto (tgt := 71) hx hb dX5_norm_90 (by decide) ?_
        refine lv_iload hx hb dX5_norm_71 (lv_at hl 0 rfl) ?_
        refine lv_iload_n hx hb dX5_norm_73 rfl (lv_at hl 4 rfl) ?_
        refine lv_icmp_ge (tgt := 93) hx hb dX5_norm_74 (by decide) (fun h => absurd h (by decide)) (fun _ => ?_)
        refine lv_aload_n hx hb dX5_norm_77 rfl (lv_at hl 3 rfl) ?_
        refine lv_iload hx hb dX5_norm_78 (lv_at hl 0 rfl) ?_
        refine lv_aload_n hx hb dX5_norm_80 rfl (lv_at hl 3 rfl) ?_
        refine lv_iload hx hb dX5_norm_81 (lv_at hl 0 rfl) ?_
        refine ld_l hx hb hK.1 hP 0 1 rfl rfl (ix_lit (by decide)) 2 (by decide) (v := f 2) rfl dX5_norm_83 ?_
        refine lv_lload_n hx hb dX5_norm_84 rfl (lv_at hl 1 rfl) ?_
        refine lv_ldiv hx hb dX5_norm_85 c_1 ?_
        refine st_l hx hb hK.1 hP hD hS 0 1 rfl rfl (ix_lit (by decide)) 2 (by decide) dX5_norm_86 (fun H locs hP hD hS => ?_)
        have hP : va_P D vwCl [kJ h cJ 6 (vp_updL (vp_updL (vp_updL f 0 ((f 0) / (z5_common (z5_common (z5_common (z5_common (z5_common (z5_common 0 (f 0)) (f 1)) (f 2)) (f 3)) (f 4)) (f 5)))) 1 ((f 1) / (z5_common (z5_common (z5_common (z5_common (z5_common (z5_common 0 (f 0)) (f 1)) (f 2)) (f 3)) (f 4)) (f 5)))) 2 ((f 2) / (z5_common (z5_common (z5_common (z5_common (z5_common (z5_common 0 (f 0)) (f 1)) (f 2)) (f 3)) (f 4)) (f 5))))] H := hP
        have hD : va_D A [kJ h cJ 6 (vp_updL (vp_updL (vp_updL f 0 ((f 0) / (z5_common (z5_common (z5_common (z5_common (z5_common (z5_common 0 (f 0)) (f 1)) (f 2)) (f 3)) (f 4)) (f 5)))) 1 ((f 1) / (z5_common (z5_common (z5_common (z5_common (z5_common (z5_common 0 (f 0)) (f 1)) (f 2)) (f 3)) (f 4)) (f 5)))) 2 ((f 2) / (z5_common (z5_common (z5_common (z5_common (z5_common (z5_common 0 (f 0)) (f 1)) (f 2)) (f 3)) (f 4)) (f 5))))] := hD
        refine lv_iinc (v := 3) (lv' := [(5, .int 3), (2, .long (z5_common (z5_common (z5_common (z5_common (z5_common (z5_common 0 (f 0)) (f 1)) (f 2)) (f 3)) (f 4)) (f 5))), (4, .int 0), (0, .ref h), (1, .int 6)]) hx hb dX5_norm_87 hl (k := 0) rfl (by decide) (by decide) rfl (fun ls hl => ?_)
        refine lv_goto (tgt := 71) hx hb dX5_norm_90 (by decide) ?_
        refine lv_iload hx hb dX5_norm_71 (lv_at hl 0 rfl) ?_
        refine lv_iload_n hx hb dX5_norm_73 rfl (lv_at hl 4 rfl) ?_
        refine lv_icmp_ge (tgt := 93) hx hb dX5_norm_74 (by decide) (fun h => absurd h (by decide)) (fun _ => ?_)
        refine lv_aload_n hx hb dX5_norm_77 rfl (lv_at hl 3 rfl) ?_
        refine lv_iload hx hb dX5_norm_78 (lv_at hl 0 rfl) ?_
        refine lv_aload_n hx hb dX5_norm_80 rfl (lv_at hl 3 rfl) ?_
        refine lv_iload hx hb dX5_norm_81 (lv_at hl 0 rfl) ?_
        refine ld_l hx hb hK.1 hP 0 1 rfl rfl (ix_lit (by decide)) 3 (by decide) (v := f 3) rfl dX5_norm_83 ?_
        refine lv_lload_n hx hb dX5_norm_84 rfl (lv_at hl 1 rfl) ?_
        refine lv_ldiv hx hb dX5_norm_85 c_1 ?_
        refine st_l hx hb hK.1 hP hD hS 0 1 rfl rfl (ix_lit (by decide)) 3 (by decide) dX5_norm_86 (fun H locs hP hD hS => ?_)
        have hP : va_P D vwCl [kJ h cJ 6 (vp_updL (vp_updL (vp_updL (vp_updL f 0 ((f 0) / (z5_common (z5_common (z5_common (z5_common (z5_common (z5_common 0 (f 0)) (f 1)) (f 2)) (f 3)) (f 4)) (f 5)))) 1 ((f 1) / (z5_common (z5_common (z5_common (z5_common (z5_common (z5_common 0 (f 0)) (f 1)) (f 2)) (f 3)) (f 4)) (f 5)))) 2 ((f 2) / (z5_common (z5_common (z5_common (z5_common (z5_common (z5_common 0 (f 0)) (f 1)) (f 2)) (f 3)) (f 4)) (f 5)))) 3 ((f 3) / (z5_common (z5_common (z5_common (z5_common (z5_common (z5_common 0 (f 0)) (f 1)) (f 2)) (f 3)) (f 4)) (f 5))))] H := hP
        have hD : va_D A [kJ h cJ 6 (vp_updL (vp_updL (vp_updL (vp_updL f 0 ((f 0) / (z5_common (z5_common (z5_common (z5_common (z5_common (z5_common 0 (f 0)) (f 1)) (f 2)) (f 3)) (f 4)) (f 5)))) 1 ((f 1) / (z5_common (z5_common (z5_common (z5_common (z5_common (z5_common 0 (f 0)) (f 1)) (f 2)) (f 3)) (f 4)) (f 5)))) 2 ((f 2) / (z5_common (z5_common (z5_common (z5_common (z5_common (z5_common 0 (f 0)) (f 1)) (f 2)) (f 3)) (f 4)) (f 5)))) 3 ((f 3) / (z5_common (z5_common (z5_common (z5_common (z5_common (z5_common 0 (f 0)) (f 1)) (f 2)) (f 3)) (f 4)) (f 5))))] := hD
        refine lv_iinc (v := 4) (lv' := [(5, .int 4), (2, .long (z5_common (z5_common (z5_common (z5_common (z5_common (z5_common 0 (f 0)) (f 1)) (f 2)) (f 3)) (f 4)) (f 5))), (4, .int 0), (0, .ref h), (1, .int 6)]) hx hb dX5_norm_87 hl (k := 0) rfl (by decide) (by decide) rfl (fun ls hl => ?_)
        refine lv_goto (tgt := 71) hx hb dX5_norm_90 (by decide) ?_
        refine lv_iload hx hb dX5_norm_71 (lv_at hl 0 rfl) ?_
        refine lv_iload_n hx hb dX5_norm_73 rfl (lv_at hl 4 rfl) ?_
        refine lv_icmp_ge (tgt := 93) hx hb dX5_norm_74 (by decide) (fun h => absurd h (by decide)) (fun _ => ?_)
        refine lv_aload_n hx hb dX5_norm_77 rfl (lv_at hl 3 rfl) ?_
        refine lv_iload hx hb dX5_norm_78 (lv_at hl 0 rfl) ?_
        refine lv_aload_n hx hb dX5_norm_80 rfl (lv_at hl 3 rfl) ?_
        refine lv_iload hx hb dX5_norm_81 (lv_at hl 0 rfl) ?_
        refine ld_l hx hb hK.1 hP 0 1 rfl rfl (ix_lit (by decide)) 4 (by decide) (v := f 4) rfl dX5_norm_83 ?_
        refine lv_lload_n hx hb dX5_norm_84 rfl (lv_at hl 1 rfl) ?_
        refine lv_ldiv hx hb dX5_norm_85 c_1 ?_
        refine st_l hx hb hK.1 hP hD hS 0 1 rfl rfl (ix_lit (by decide)) 4 (by decide) dX5_norm_86 (fun H locs hP hD hS => ?_)
        have hP : va_P D vwCl [kJ h cJ 6 (vp_updL (vp_updL (vp_updL (vp_updL (vp_updL f 0 ((f 0) / (z5_common (z5_common (z5_common (z5_common (z5_common (z5_common 0 (f 0)) (f 1)) (f 2)) (f 3)) (f 4)) (f 5)))) 1 ((f 1) / (z5_common (z5_common (z5_common (z5_common (z5_common (z5_common 0 (f 0)) (f 1)) (f 2)) (f 3)) (f 4)) (f 5)))) 2 ((f 2) / (z5_common (z5_common (z5_common (z5_common (z5_common (z5_common 0 (f 0)) (f 1)) (f 2)) (f 3)) (f 4)) (f 5)))) 3 ((f 3) / (z5_common (z5_common (z5_common (z5_common (z5_common (z5_common 0 (f 0)) (f 1)) (f 2)) (f 3)) (f 4)) (f 5)))) 4 ((f 4) / (z5_common (z5_common (z5_common (z5_common (z5_common (z5_common 0 (f 0)) (f 1)) (f 2)) (f 3)) (f 4)) (f 5))))] H := hP
        have hD : va_D A [kJ h cJ 6 (vp_updL (vp_updL (vp_updL (vp_updL (vp_updL f 0 ((f 0) / (z5_common (z5_common (z5_common (z5_common (z5_common (z5_common 0 (f 0)) (f 1)) (f 2)) (f 3)) (f 4)) (f 5)))) 1 ((f 1) / (z5_common (z5_common (z5_common (z5_common (z5_common (z5_common 0 (f 0)) (f 1)) (f 2)) (f 3)) (f 4)) (f 5)))) 2 ((f 2) / (z5_common (z5_common (z5_common (z5_common (z5_common (z5_common 0 (f 0)) (f 1)) (f 2)) (f 3)) (f 4)) (f 5)))) 3 ((f 3) / (z5_common (z5_common (z5_common (z5_common (z5_common (z5_common 0 (f 0)) (f 1)) (f 2)) (f 3)) (f 4)) (f 5)))) 4 ((f 4) / (z5_common (z5_common (z5_common (z5_common (z5_common (z5_common 0 (f 0)) (f 1)) (f 2)) (f 3)) (f 4)) (f 5))))] := hD
        refine lv_iinc (v := 5) (lv' := [(5, .int 5), (2, .long (z5_common (z5_common (z5_common (z5_common (z5_common (z5_common 0 (f 0)) (f 1)) (f 2)) (f 3)) (f 4)) (f 5))), (4, .int 0), (0, .ref h), (1, .int 6)]) hx hb dX5_norm_87 hl (k := 0) rfl (by decide) (by decide) rfl (fun ls hl => ?_)
        refine lv_goto (tgt := 71) hx hb dX5_norm_90 (by decide) ?_
        refine lv_iload hx hb dX5_norm_71 (lv_at hl 0 rfl) ?_
        refine lv_iload_n hx hb dX5_norm_73 rfl (lv_at hl 4 rfl) ?_
        refine lv_icmp_ge (tgt := 93) hx hb dX5_norm_74 (by decide) (fun h => absurd h (by decide)) (fun _ => ?_)
        refine lv_aload_n hx hb dX5_norm_77 rfl (lv_at hl 3 rfl) ?_
        refine lv_iload hx hb dX5_norm_78 (lv_at hl 0 rfl) ?_
        refine lv_aload_n hx hb dX5_norm_80 rfl (lv_at hl 3 rfl) ?_
        refine lv_iload hx hb dX5_norm_81 (lv_at hl 0 rfl) ?_
        refine ld_l hx hb hK.1 hP 0 1 rfl rfl (ix_lit (by decide)) 5 (by decide) (v := f 5) rfl dX5_norm_83 ?_
        refine lv_lload_n hx hb dX5_norm_84 rfl (lv_at hl 1 rfl) ?_
        refine lv_ldiv hx hb dX5_norm_85 c_1 ?_
        refine st_l hx hb hK.1 hP hD hS 0 1 rfl rfl (ix_lit (by decide)) 5 (by decide) dX5_norm_86 (fun H locs hP hD hS => ?_)
        have hP : va_P D vwCl [kJ h cJ 6 (vp_updL (vp_updL (vp_updL (vp_updL (vp_updL (vp_updL f 0 ((f 0) / (z5_common (z5_common (z5_common (z5_common (z5_common (z5_common 0 (f 0)) (f 1)) (f 2)) (f 3)) (f 4)) (f 5)))) 1 ((f 1) / (z5_common (z5_common (z5_common (z5_common (z5_common (z5_common 0 (f 0)) (f 1)) (f 2)) (f 3)) (f 4)) (f 5)))) 2 ((f 2) / (z5_common (z5_common (z5_common (z5_common (z5_common (z5_common 0 (f 0)) (f 1)) (f 2)) (f 3)) (f 4)) (f 5)))) 3 ((f 3) / (z5_common (z5_common (z5_common (z5_common (z5_common (z5_common 0 (f 0)) (f 1)) (f 2)) (f 3)) (f 4)) (f 5)))) 4 ((f 4) / (z5_common (z5_common (z5_common (z5_common (z5_common (z5_common 0 (f 0)) (f 1)) (f 2)) (f 3)) (f 4)) (f 5)))) 5 ((f 5) / (z5_common (z5_common (z5_common (z5_common (z5_common (z5_common 0 (f 0)) (f 1)) (f 2)) (f 3)) (f 4)) (f 5))))] H := hP
        have hD : va_D A [kJ h cJ 6 (vp_updL (vp_updL (vp_updL (vp_updL (vp_updL (vp_updL f 0 ((f 0) / (z5_common (z5_common (z5_common (z5_common (z5_common (z5_common 0 (f 0)) (f 1)) (f 2)) (f 3)) (f 4)) (f 5)))) 1 ((f 1) / (z5_common (z5_common (z5_common (z5_common (z5_common (z5_common 0 (f 0)) (f 1)) (f 2)) (f 3)) (f 4)) (f 5)))) 2 ((f 2) / (z5_common (z5_common (z5_common (z5_common (z5_common (z5_common 0 (f 0)) (f 1)) (f 2)) (f 3)) (f 4)) (f 5)))) 3 ((f 3) / (z5_common (z5_common (z5_common (z5_common (z5_common (z5_common 0 (f 0)) (f 1)) (f 2)) (f 3)) (f 4)) (f 5)))) 4 ((f 4) / (z5_common (z5_common (z5_common (z5_common (z5_common (z5_common 0 (f 0)) (f 1)) (f 2)) (f 3)) (f 4)) (f 5)))) 5 ((f 5) / (z5_common (z5_common (z5_common (z5_common (z5_common (z5_common 0 (f 0)) (f 1)) (f 2)) (f 3)) (f 4)) (f 5))))] := hD
        refine lv_iinc (v := 6) (lv' := [(5, .int 6), (2, .long (z5_common (z5_common (z5_common (z5_common (z5_common (z5_common 0 (f 0)) (f 1)) (f 2)) (f 3)) (f 4)) (f 5))), (4, .int 0), (0, .ref h), (1, .int 6)]) hx hb dX5_norm_87 hl (k := 0) rfl (by decide) (by decide) rfl (fun ls hl => ?_)
        refine lv_goto (tgt := 71) hx hb dX5_norm_90 (by decide) ?_
        refine lv_iload hx hb dX5_norm_71 (lv_at hl 0 rfl) ?_
        refine lv_iload_n hx hb dX5_norm_73 rfl (lv_at hl 4 rfl) ?_
        refine lv_icmp_ge (tgt := 93) hx hb dX5_norm_74 (by decide) (fun _ => ?_) (fun h => absurd (by decide) h)
        refine lv_iconst (v := 1) hx hb dX5_norm_93 (by decide) ?_
        have he : z5_norm_6_6 f = (1, vp_updL (vp_updL (vp_updL (vp_updL (vp_updL (vp_updL f 0 ((f 0) / (z5_common (z5_common (z5_common (z5_common (z5_common (z5_common 0 (f 0)) (f 1)) (f 2)) (f 3)) (f 4)) (f 5)))) 1 ((f 1) / (z5_common (z5_common (z5_common (z5_common (z5_common (z5_common 0 (f 0)) (f 1)) (f 2)) (f 3)) (f 4)) (f 5)))) 2 ((f 2) / (z5_common (z5_common (z5_common (z5_common (z5_common (z5_common 0 (f 0)) (f 1)) (f 2)) (f 3)) (f 4)) (f 5)))) 3 ((f 3) / (z5_common (z5_common (z5_common (z5_common (z5_common (z5_common 0 (f 0)) (f 1)) (f 2)) (f 3)) (f 4)) (f 5)))) 4 ((f 4) / (z5_common (z5_common (z5_common (z5_common (z5_common (z5_common 0 (f 0)) (f 1)) (f 2)) (f 3)) (f 4)) (f 5)))) 5 ((f 5) / (z5_common (z5_common (z5_common (z5_common (z5_common (z5_common 0 (f 0)) (f 1)) (f 2)) (f 3)) (f 4)) (f 5)))) := by unfold z5_norm_6_6; rw [if_neg c_1, if_neg c_2, if_pos c_3]
        have he_0 : (z5_norm_6_6 f).1 = 1 := by rw [he]
        have he_1 : (z5_norm_6_6 f).2 = vp_updL (vp_updL (vp_updL (vp_updL (vp_updL (vp_updL f 0 ((f 0) / (z5_common (z5_common (z5_common (z5_common (z5_common (z5_common 0 (f 0)) (f 1)) (f 2)) (f 3)) (f 4)) (f 5)))) 1 ((f 1) / (z5_common (z5_common (z5_common (z5_common (z5_common (z5_common 0 (f 0)) (f 1)) (f 2)) (f 3)) (f 4)) (f 5)))) 2 ((f 2) / (z5_common (z5_common (z5_common (z5_common (z5_common (z5_common 0 (f 0)) (f 1)) (f 2)) (f 3)) (f 4)) (f 5)))) 3 ((f 3) / (z5_common (z5_common (z5_common (z5_common (z5_common (z5_common 0 (f 0)) (f 1)) (f 2)) (f 3)) (f 4)) (f 5)))) 4 ((f 4) / (z5_common (z5_common (z5_common (z5_common (z5_common (z5_common 0 (f 0)) (f 1)) (f 2)) (f 3)) (f 4)) (f 5)))) 5 ((f 5) / (z5_common (z5_common (z5_common (z5_common (z5_common (z5_common 0 (f 0)) (f 1)) (f 2)) (f 3)) (f 4)) (f 5))) := by rw [he]
        exact rt_z (w1 := fun uu : Unit => [kJ h cJ 6 ((z5_norm_6_6 f).2)]) hx hb hr rfl hlk hS dX5_norm_94 (()) he_0.symm (by rw [he_1]; exact hP) (by rw [he_1]; exact hD)
      · skip
        refine lv_lload_n hx hb dX5_norm_61 rfl (lv_at hl 1 rfl) ?_
        refine lv_lneg hx hb dX5_norm_62 ?_
        refine lv_goto (tgt := 67) hx hb dX5_norm_63 (by decide) ?_
        refine lv_lstore_n (lv' := [(2, .long (-(z5_common (z5_common (z5_common (z5_common (z5_common (z5_common 0 (f 0)) (f 1)) (f 2)) (f 3)) (f 4)) (f 5)))), (4, .int 0), (0, .ref h), (1, .int 6)]) hx hb dX5_norm_67 rfl hl (by decide) rfl (fun ls hl => ?_)
        refine lv_iconst (v := 0) hx hb dX5_norm_68 (by decide) ?_
        refine lv_istore (lv' := [(5, .int 0), (2, .long (-(z5_common (z5_common (z5_common (z5_common (z5_common (z5_common 0 (f 0)) (f 1)) (f 2)) (f 3)) (f 4)) (f 5)))), (4, .int 0), (0, .ref h), (1, .int 6)]) hx hb dX5_norm_69 hl (by decide) rfl (fun ls hl => ?_)
        refine lv_iload hx hb dX5_norm_71 (lv_at hl 0 rfl) ?_
        refine lv_iload_n hx hb dX5_norm_73 rfl (lv_at hl 4 rfl) ?_
        refine lv_icmp_ge (tgt := 93) hx hb dX5_norm_74 (by decide) (fun h => absurd h (by decide)) (fun _ => ?_)
        refine lv_aload_n hx hb dX5_norm_77 rfl (lv_at hl 3 rfl) ?_
        refine lv_iload hx hb dX5_norm_78 (lv_at hl 0 rfl) ?_
        refine lv_aload_n hx hb dX5_norm_80 rfl (lv_at hl 3 rfl) ?_
        refine lv_iload hx hb dX5_norm_81 (lv_at hl 0 rfl) ?_
        refine ld_l hx hb hK.1 hP 0 1 rfl rfl (ix_lit (by decide)) 0 (by decide) (v := f 0) rfl dX5_norm_83 ?_
        refine lv_lload_n hx hb dX5_norm_84 rfl (lv_at hl 1 rfl) ?_
        refine lv_ldiv hx hb dX5_norm_85 (ng_ne c_1) ?_
        refine st_l hx hb hK.1 hP hD hS 0 1 rfl rfl (ix_lit (by decide)) 0 (by decide) dX5_norm_86 (fun H locs hP hD hS => ?_)
        have hP : va_P D vwCl [kJ h cJ 6 (vp_updL f 0 ((f 0) / (-(z5_common (z5_common (z5_common (z5_common (z5_common (z5_common 0 (f 0)) (f 1)) (f 2)) (f 3)) (f 4)) (f 5)))))] H := hP
        have hD : va_D A [kJ h cJ 6 (vp_updL f 0 ((f 0) / (-(z5_common (z5_common (z5_common (z5_common (z5_common (z5_common 0 (f 0)) (f 1)) (f 2)) (f 3)) (f 4)) (f 5)))))] := hD
        refine lv_iinc (v := 1) (lv' := [(5, .int 1), (2, .long (-(z5_common (z5_common (z5_common (z5_common (z5_common (z5_common 0 (f 0)) (f 1)) (f 2)) (f 3)) (f 4)) (f 5)))), (4, .int 0), (0, .ref h), (1, .int 6)]) hx hb dX5_norm_87 hl (k := 0) rfl (by decide) (by decide) rfl (fun ls hl => ?_)
        refine lv_goto (tgt := 71) hx hb dX5_norm_90 (by decide) ?_
        refine lv_iload hx hb dX5_norm_71 (lv_at hl 0 rfl) ?_
        refine lv_iload_n hx hb dX5_norm_73 rfl (lv_at hl 4 rfl) ?_
        refine lv_icmp_ge (tgt := 93) hx hb dX5_norm_74 (by decide) (fun h => absurd h (by decide)) (fun _ => ?_)
        refine lv_aload_n hx hb dX5_norm_77 rfl (lv_at hl 3 rfl) ?_
        refine lv_iload hx hb dX5_norm_78 (lv_at hl 0 rfl) ?_
        refine lv_aload_n hx hb dX5_norm_80 rfl (lv_at hl 3 rfl) ?_
        refine lv_iload hx hb dX5_norm_81 (lv_at hl 0 rfl) ?_
        refine ld_l hx hb hK.1 hP 0 1 rfl rfl (ix_lit (by decide)) 1 (by decide) (v := f 1) rfl dX5_norm_83 ?_
        refine lv_lload_n hx hb dX5_norm_84 rfl (lv_at hl 1 rfl) ?_
        refine lv_ldiv hx hb dX5_norm_85 (ng_ne c_1) ?_
        refine st_l hx hb hK.1 hP hD hS 0 1 rfl rfl (ix_lit (by decide)) 1 (by decide) dX5_norm_86 (fun H locs hP hD hS => ?_)
        have hP : va_P D vwCl [kJ h cJ 6 (vp_updL (vp_updL f 0 ((f 0) / (-(z5_common (z5_common (z5_common (z5_common (z5_common (z5_common 0 (f 0)) (f 1)) (f 2)) (f 3)) (f 4)) (f 5))))) 1 ((f 1) / (-(z5_common (z5_common (z5_common (z5_common (z5_common (z5_common 0 (f 0)) (f 1)) (f 2)) (f 3)) (f 4)) (f 5)))))] H := hP
        have hD : va_D A [kJ h cJ 6 (vp_updL (vp_updL f 0 ((f 0) / (-(z5_common (z5_common (z5_common (z5_common (z5_common (z5_common 0 (f 0)) (f 1)) (f 2)) (f 3)) (f 4)) (f 5))))) 1 ((f 1) / (-(z5_common (z5_common (z5_common (z5_common (z5_common (z5_common 0 (f 0)) (f 1)) (f 2)) (f 3)) (f 4)) (f 5)))))] := hD
        refine lv_iinc (v := 2) (lv' := [(5, .int 2), (2, .long (-(z5_common (z5_common (z5_common (z5_common (z5_common (z5_common 0 (f 0)) (f 1)) (f 2)) (f 3)) (f 4)) (f 5)))), (4, .int 0), (0, .ref h), (1, .int 6)]) hx hb dX5_norm_87 hl (k := 0) rfl (by decide) (by decide) rfl (fun ls hl => ?_)
        refine lv_goto (tgt := 71) hx hb dX5_norm_90 (by decide) ?_
        refine lv_iload hx hb dX5_norm_71 (lv_at hl 0 rfl) ?_
        refine lv_iload_n hx hb dX5_norm_73 rfl (lv_at hl 4 rfl) ?_
        refine lv_icmp_ge (tgt := 93) hx hb dX5_norm_74 (by decide) (fun h => absurd h (by decide)) (fun _ => ?_)
        refine lv_aload_n hx hb dX5_norm_77 rfl (lv_at hl 3 rfl) ?_
        refine lv_iload hx hb dX5_norm_78 (lv_at hl 0 rfl) ?_
        refine lv_aload_n hx hb dX5_norm_80 rfl (lv_at hl 3 rfl) ?_
        refine lv_iload hx hb dX5_norm_81 (lv_at hl 0 rfl) ?_
        refine ld_l hx hb hK.1 hP 0 1 rfl rfl (ix_lit (by decide)) 2 (by decide) (v := f 2) rfl dX5_norm_83 ?_
        refine lv_lload_n hx hb dX5_norm_84 rfl (lv_at hl 1 rfl) ?_
        refine lv_ldiv hx hb dX5_norm_85 (ng_ne c_1) ?_
        refine st_l hx hb hK.1 hP hD hS 0 1 rfl rfl (ix_lit (by decide)) 2 (by decide) dX5_norm_86 (fun H locs hP hD hS => ?_)
        have hP : va_P D vwCl [kJ h cJ 6 (vp_updL (vp_updL (vp_updL f 0 ((f 0) / (-(z5_common (z5_common (z5_common (z5_common (z5_common (z5_common 0 (f 0)) (f 1)) (f 2)) (f 3)) (f 4)) (f 5))))) 1 ((f 1) / (-(z5_common (z5_common (z5_common (z5_common (z5_common (z5_common 0 (f 0)) (f 1)) (f 2)) (f 3)) (f 4)) (f 5))))) 2 ((f 2) / (-(z5_common (z5_common (z5_common (z5_common (z5_common (z5_common 0 (f 0)) (f 1)) (f 2)) (f 3)) (f 4)) (f 5)))))] H := hP
        have hD : va_D A [kJ h cJ 6 (vp_updL (vp_updL (vp_updL f 0 ((f 0) / (-(z5_common (z5_common (z5_common (z5_common (z5_common (z5_common 0 (f 0)) (f 1)) (f 2)) (f 3)) (f 4)) (f 5))))) 1 ((f 1) / (-(z5_common (z5_common (z5_common (z5_common (z5_common (z5_common 0 (f 0)) (f 1)) (f 2)) (f 3)) (f 4)) (f 5))))) 2 ((f 2) / (-(z5_common (z5_common (z5_common (z5_common (z5_common (z5_common 0 (f 0)) (f 1)) (f 2)) (f 3)) (f 4)) (f 5)))))] := hD
        refine lv_iinc (v := 3) (lv' := [(5, .int 3), (2, .long (-(z5_common (z5_common (z5_common (z5_common (z5_common (z5_common 0 (f 0)) (f 1)) (f 2)) (f 3)) (f 4)) (f 5)))), (4, .int 0), (0, .ref h), (1, .int 6)]) hx hb dX5_norm_87 hl (k := 0) rfl (by decide) (by decide) rfl (fun ls hl => ?_)
        refine lv_goto (tgt := 71) hx hb dX5_norm_90 (by decide) ?_
        refine lv_iload hx hb dX5_norm_71 (lv_at hl 0 rfl) ?_
        refine lv_iload_n hx hb dX5_norm_73 rfl (lv_at hl 4 rfl) ?_
        refine lv_icmp_ge (tgt := 93) hx hb dX5_norm_74 (by decide) (fun h => absurd h (by decide)) (fun _ => ?_)
        refine lv_aload_n hx hb dX5_norm_77 rfl (lv_at hl 3 rfl) ?_
        refine lv_iload hx hb dX5_norm_78 (lv_at hl 0 rfl) ?_
        refine lv_aload_n hx hb dX5_norm_80 rfl (lv_at hl 3 rfl) ?_
        refine lv_iload hx hb dX5_norm_81 (lv_at hl 0 rfl) ?_
        refine ld_l hx hb hK.1 hP 0 1 rfl rfl (ix_lit (by decide)) 3 (by decide) (v := f 3) rfl dX5_norm_83 ?_
        refine lv_lload_n hx hb dX5_norm_84 rfl (lv_at hl 1 rfl) ?_
        refine lv_ldiv hx hb dX5_norm_85 (ng_ne c_1) ?_
        refine st_l hx hb hK.1 hP hD hS 0 1 rfl rfl (ix_lit (by decide)) 3 (by decide) dX5_norm_86 (fun H locs hP hD hS => ?_)
        have hP : va_P D vwCl [kJ h cJ 6 (vp_updL (vp_updL (vp_updL (vp_updL f 0 ((f 0) / (-(z5_common (z5_common (z5_common (z5_common (z5_common (z5_common 0 (f 0)) (f 1)) (f 2)) (f 3)) (f 4)) (f 5))))) 1 ((f 1) / (-(z5_common (z5_common (z5_common (z5_common (z5_common (z5_common 0 (f 0)) (f 1)) (f 2)) (f 3)) (f 4)) (f 5))))) 2 ((f 2) / (-(z5_common (z5_common (z5_common (z5_common (z5_common (z5_common 0 (f 0)) (f 1)) (f 2)) (f 3)) (f 4)) (f 5))))) 3 ((f 3) / (-(z5_common (z5_common (z5_common (z5_common (z5_common (z5_common 0 (f 0)) (f 1)) (f 2)) (f 3)) (f 4)) (f 5)))))] H := hP
        have hD : va_D A [kJ h cJ 6 (vp_updL (vp_updL (vp_updL (vp_updL f 0 ((f 0) / (-(z5_common (z5_common (z5_common (z5_common (z5_common (z5_common 0 (f 0)) (f 1)) (f 2)) (f 3)) (f 4)) (f 5))))) 1 ((f 1) / (-(z5_common (z5_common (z5_common (z5_common (z5_common (z5_common 0 (f 0)) (f 1)) (f 2)) (f 3)) (f 4)) (f 5))))) 2 ((f 2) / (-(z5_common (z5_common (z5_common (z5_common (z5_common (z5_common 0 (f 0)) (f 1)) (f 2)) (f 3)) (f 4)) (f 5))))) 3 ((f 3) / (-(z5_common (z5_common (z5_common (z5_common (z5_common (z5_common 0 (f 0)) (f 1)) (f 2)) (f 3)) (f 4)) (f 5)))))] := hD
        refine lv_iinc (v := 4) (lv' := [(5, .int 4), (2, .long (-(z5_common (z5_common (z5_common (z5_common (z5_common (z5_common 0 (f 0)) (f 1)) (f 2)) (f 3)) (f 4)) (f 5)))), (4, .int 0), (0, .ref h), (1, .int 6)]) hx hb dX5_norm_87 hl (k := 0) rfl (by decide) (by decide) rfl (fun ls hl => ?_)
        refine lv_goto (tgt := 71) hx hb dX5_norm_90 (by decide) ?_
        refine lv_iload hx hb dX5_norm_71 (lv_at hl 0 rfl) ?_
        refine lv_iload_n hx hb dX5_norm_73 rfl (lv_at hl 4 rfl) ?_
        refine lv_icmp_ge (tgt := 93) hx hb dX5_norm_74 (by decide) (fun h => absurd h (by decide)) (fun _ => ?_)
        refine lv_aload_n hx hb dX5_norm_77 rfl (lv_at hl 3 rfl) ?_
        refine lv_iload hx hb dX5_norm_78 (lv_at hl 0 rfl) ?_
        refine lv_aload_n hx hb dX5_norm_80 rfl (lv_at hl 3 rfl) ?_
        refine lv_iload hx hb dX5_norm_81 (lv_at hl 0 rfl) ?_
        refine ld_l hx hb hK.1 hP 0 1 rfl rfl (ix_lit (by decide)) 4 (by decide) (v := f 4) rfl dX5_norm_83 ?_
        refine lv_lload_n hx hb dX5_norm_84 rfl (lv_at hl 1 rfl) ?_
        refine lv_ldiv hx hb dX5_norm_85 (ng_ne c_1) ?_
        refine st_l hx hb hK.1 hP hD hS 0 1 rfl rfl (ix_lit (by decide)) 4 (by decide) dX5_norm_86 (fun H locs hP hD hS => ?_)
        have hP : va_P D vwCl [kJ h cJ 6 (vp_updL (vp_updL (vp_updL (vp_updL (vp_updL f 0 ((f 0) / (-(z5_common (z5_common (z5_common (z5_common (z5_common (z5_common 0 (f 0)) (f 1)) (f 2)) (f 3)) (f 4)) (f 5))))) 1 ((f 1) / (-(z5_common (z5_common (z5_common (z5_common (z5_common (z5_common 0 (f 0)) (f 1)) (f 2)) (f 3)) (f 4)) (f 5))))) 2 ((f 2) / (-(z5_common (z5_common (z5_common (z5_common (z5_common (z5_common 0 (f 0)) (f 1)) (f 2)) (f 3)) (f 4)) (f 5))))) 3 ((f 3) / (-(z5_common (z5_common (z5_common (z5_common (z5_common (z5_common 0 (f 0)) (f 1)) (f 2)) (f 3)) (f 4)) (f 5))))) 4 ((f 4) / (-(z5_common (z5_common (z5_common (z5_common (z5_common (z5_common 0 (f 0)) (f 1)) (f 2)) (f 3)) (f 4)) (f 5)))))] H := hP
        have hD : va_D A [kJ h cJ 6 (vp_updL (vp_updL (vp_updL (vp_updL (vp_updL f 0 ((f 0) / (-(z5_common (z5_common (z5_common (z5_common (z5_common (z5_common 0 (f 0)) (f 1)) (f 2)) (f 3)) (f 4)) (f 5))))) 1 ((f 1) / (-(z5_common (z5_common (z5_common (z5_common (z5_common (z5_common 0 (f 0)) (f 1)) (f 2)) (f 3)) (f 4)) (f 5))))) 2 ((f 2) / (-(z5_common (z5_common (z5_common (z5_common (z5_common (z5_common 0 (f 0)) (f 1)) (f 2)) (f 3)) (f 4)) (f 5))))) 3 ((f 3) / (-(z5_common (z5_common (z5_common (z5_common (z5_common (z5_common 0 (f 0)) (f 1)) (f 2)) (f 3)) (f 4)) (f 5))))) 4 ((f 4) / (-(z5_common (z5_common (z5_common (z5_common (z5_common (z5_common 0 (f 0)) (f 1)) (f 2)) (f 3)) (f 4)) (f 5)))))] := hD
        refine lv_iinc (v := 5) (lv' := [(5, .int 5), (2, .long (-(z5_common (z5_common (z5_common (z5_common (z5_common (z5_common 0 (f 0)) (f 1)) (f 2)) (f 3)) (f 4)) (f 5)))), (4, .int 0), (0, .ref h), (1, .int 6)]) hx hb dX5_norm_87 hl (k := 0) rfl (by decide) (by decide) rfl (fun ls hl => ?_)
        refine lv_goto (tgt := 71) hx hb dX5_norm_90 (by decide) ?_
        refine lv_iload hx hb dX5_norm_71 (lv_at hl 0 rfl) ?_
        refine lv_iload_n hx hb dX5_norm_73 rfl (lv_at hl 4 rfl) ?_
        refine lv_icmp_ge (tgt := 93) hx hb dX5_norm_74 (by decide) (fun h => absurd h (by decide)) (fun _ => ?_)
        refine lv_aload_n hx hb dX5_norm_77 rfl (lv_at hl 3 rfl) ?_
        refine lv_iload hx hb dX5_norm_78 (lv_at hl 0 rfl) ?_
        refine lv_aload_n hx hb dX5_norm_80 rfl (lv_at hl 3 rfl) ?_
        refine lv_iload hx hb dX5_norm_81 (lv_at hl 0 rfl) ?_
        refine ld_l hx hb hK.1 hP 0 1 rfl rfl (ix_lit (by decide)) 5 (by decide) (v := f 5) rfl dX5_norm_83 ?_
        refine lv_lload_n hx hb dX5_norm_84 rfl (lv_at hl 1 rfl) ?_
        refine lv_ldiv hx hb dX5_norm_85 (ng_ne c_1) ?_
        refine st_l hx hb hK.1 hP hD hS 0 1 rfl rfl (ix_lit (by decide)) 5 (by decide) dX5_norm_86 (fun H locs hP hD hS => ?_)
        have hP : va_P D vwCl [kJ h cJ 6 (vp_updL (vp_updL (vp_updL (vp_updL (vp_updL (vp_updL f 0 ((f 0) / (-(z5_common (z5_common (z5_common (z5_common (z5_common (z5_common 0 (f 0)) (f 1)) (f 2)) (f 3)) (f 4)) (f 5))))) 1 ((f 1) / (-(z5_common (z5_common (z5_common (z5_common (z5_common (z5_common 0 (f 0)) (f 1)) (f 2)) (f 3)) (f 4)) (f 5))))) 2 ((f 2) / (-(z5_common (z5_common (z5_common (z5_common (z5_common (z5_common 0 (f 0)) (f 1)) (f 2)) (f 3)) (f 4)) (f 5))))) 3 ((f 3) / (-(z5_common (z5_common (z5_common (z5_common (z5_common (z5_common 0 (f 0)) (f 1)) (f 2)) (f 3)) (f 4)) (f 5))))) 4 ((f 4) / (-(z5_common (z5_common (z5_common (z5_common (z5_common (z5_common 0 (f 0)) (f 1)) (f 2)) (f 3)) (f 4)) (f 5))))) 5 ((f 5) / (-(z5_common (z5_common (z5_common (z5_common (z5_common (z5_common 0 (f 0)) (f 1)) (f 2)) (f 3)) (f 4)) (f 5)))))] H := hP
        have hD : va_D A [kJ h cJ 6 (vp_updL (vp_updL (vp_updL (vp_updL (vp_updL (vp_updL f 0 ((f 0) / (-(z5_common (z5_common (z5_common (z5_common (z5_common (z5_common 0 (f 0)) (f 1)) (f 2)) (f 3)) (f 4)) (f 5))))) 1 ((f 1) / (-(z5_common (z5_common (z5_common (z5_common (z5_common (z5_common 0 (f 0)) (f 1)) (f 2)) (f 3)) (f 4)) (f 5))))) 2 ((f 2) / (-(z5_common (z5_common (z5_common (z5_common (z5_common (z5_common 0 (f 0)) (f 1)) (f 2)) (f 3)) (f 4)) (f 5))))) 3 ((f 3) / (-(z5_common (z5_common (z5_common (z5_common (z5_common (z5_common 0 (f 0)) (f 1)) (f 2)) (f 3)) (f 4)) (f 5))))) 4 ((f 4) / (-(z5_common (z5_common (z5_common (z5_common (z5_common (z5_common 0 (f 0)) (f 1)) (f 2)) (f 3)) (f 4)) (f 5))))) 5 ((f 5) / (-(z5_common (z5_common (z5_common (z5_common (z5_common (z5_common 0 (f 0)) (f 1)) (f 2)) (f 3)) (f 4)) (f 5)))))] := hD
        refine lv_iinc (v := 6) (lv' := [(5, .int 6), (2, .long (-(z5_common (z5_common (z5_common (z5_common (z5_common (z5_common 0 (f 0)) (f 1)) (f 2)) (f 3)) (f 4)) (f 5)))), (4, .int 0), (0, .ref h), (1, .int 6)]) hx hb dX5_norm_87 hl (k := 0) rfl (by decide) (by decide) rfl (fun ls hl => ?_)
        refine lv_goto (tgt := 71) hx hb dX5_norm_90 (by decide) ?_
        refine lv_iload hx hb dX5_norm_71 (lv_at hl 0 rfl) ?_
        refine lv_iload_n hx hb dX5_norm_73 rfl (lv_at hl 4 rfl) ?_
        refine lv_icmp_ge (tgt := 93) hx hb dX5_norm_74 (by decide) (fun _ => ?_) (fun h => absurd (by decide) h)
        refine lv_iconst (v := 1) hx hb dX5_norm_93 (by decide) ?_
        have he : z5_norm_6_6 f = (1, vp_updL (vp_updL (vp_updL (vp_updL (vp_updL (vp_updL f 0 ((f 0) / (-(z5_common (z5_common (z5_common (z5_common (z5_common (z5_common 0 (f 0)) (f 1)) (f 2)) (f 3)) (f 4)) (f 5))))) 1 ((f 1) / (-(z5_common (z5_common (z5_common (z5_common (z5_common (z5_common 0 (f 0)) (f 1)) (f 2)) (f 3)) (f 4)) (f 5))))) 2 ((f 2) / (-(z5_common (z5_common (z5_common (z5_common (z5_common (z5_common 0 (f 0)) (f 1)) (f 2)) (f 3)) (f 4)) (f 5))))) 3 ((f 3) / (-(z5_common (z5_common (z5_common (z5_common (z5_common (z5_common 0 (f 0)) (f 1)) (f 2)) (f 3)) (f 4)) (f 5))))) 4 ((f 4) / (-(z5_common (z5_common (z5_common (z5_common (z5_common (z5_common 0 (f 0)) (f 1)) (f 2)) (f 3)) (f 4)) (f 5))))) 5 ((f 5) / (-(z5_common (z5_common (z5_common (z5_common (z5_common (z5_common 0 (f 0)) (f 1)) (f 2)) (f 3)) (f 4)) (f 5))))) := by unfold z5_norm_6_6; rw [if_neg c_1, if_neg c_2, if_neg c_3]
        have he_0 : (z5_norm_6_6 f).1 = 1 := by rw [he]
        have he_1 : (z5_norm_6_6 f).2 = vp_updL (vp_updL (vp_updL (vp_updL (vp_updL (vp_updL f 0 ((f 0) / (-(z5_common (z5_common (z5_common (z5_common (z5_common (z5_common 0 (f 0)) (f 1)) (f 2)) (f 3)) (f 4)) (f 5))))) 1 ((f 1) / (-(z5_common (z5_common (z5_common (z5_common (z5_common (z5_common 0 (f 0)) (f 1)) (f 2)) (f 3)) (f 4)) (f 5))))) 2 ((f 2) / (-(z5_common (z5_common (z5_common (z5_common (z5_common (z5_common 0 (f 0)) (f 1)) (f 2)) (f 3)) (f 4)) (f 5))))) 3 ((f 3) / (-(z5_common (z5_common (z5_common (z5_common (z5_common (z5_common 0 (f 0)) (f 1)) (f 2)) (f 3)) (f 4)) (f 5))))) 4 ((f 4) / (-(z5_common (z5_common (z5_common (z5_common (z5_common (z5_common 0 (f 0)) (f 1)) (f 2)) (f 3)) (f 4)) (f 5))))) 5 ((f 5) / (-(z5_common (z5_common (z5_common (z5_common (z5_common (z5_common 0 (f 0)) (f 1)) (f 2)) (f 3)) (f 4)) (f 5)))) := by rw [he]
        exact rt_z (w1 := fun uu : Unit => [kJ h cJ 6 ((z5_norm_6_6 f).2)]) hx hb hr rfl hlk hS dX5_norm_94 (()) he_0.symm (by rw [he_1]; exact hP) (by rw [he_1]; exact hD)
    · skip
      refine lv_iinc (v := 1) (lv' := [(4, .int 1), (2, .long (z5_common (z5_common (z5_common (z5_common (z5_common (z5_common 0 (f 0)) (f 1)) (f 2)) (f 3)) (f 4)) (f 5))), (0, .ref h), (1, .int 6)]) hx hb dX5_norm_46 hl (k := 0) rfl (by decide) (by decide) rfl (fun ls hl => ?_)
      refine lv_goto (tgt := 37) hx hb dX5_norm_49 (by decide) ?_
      refine lv_aload_n hx hb dX5_norm_37 rfl (lv_at hl 2 rfl) ?_
      refine lv_iload hx hb dX5_norm_38 (lv_at hl 0 rfl) ?_
      refine ld_l hx hb hK.1 hP 0 1 rfl rfl (ix_lit (by decide)) 1 (by decide) (v := f 1) rfl dX5_norm_40 ?_
      refine lv_lconst (v := 0) hx hb dX5_norm_41 (by decide) ?_
      refine lb_ne (tgt := 52) hx hb dX5_norm_42 rfl dX5_norm_43 (by decide) (fun c_4 => ?_) (fun c_4 => ?_)
      · skip
        refine lv_aload_n hx hb dX5_norm_52 rfl (lv_at hl 2 rfl) ?_
        refine lv_iload hx hb dX5_norm_53 (lv_at hl 0 rfl) ?_
        refine ld_l hx hb hK.1 hP 0 1 rfl rfl (ix_lit (by decide)) 1 (by decide) (v := f 1) rfl dX5_norm_55 ?_
        refine lv_lconst (v := 0) hx hb dX5_norm_56 (by decide) ?_
        refine lb_ge (tgt := 66) hx hb dX5_norm_57 rfl dX5_norm_58 (by decide) (fun c_5 => ?_) (fun c_5 => ?_)
        · skip
          refine lv_lload_n hx hb dX5_norm_66 rfl (lv_at hl 1 rfl) ?_
          refine lv_lstore_n (lv' := [(2, .long (z5_common (z5_common (z5_common (z5_common (z5_common (z5_common 0 (f 0)) (f 1)) (f 2)) (f 3)) (f 4)) (f 5))), (4, .int 1), (0, .ref h), (1, .int 6)]) hx hb dX5_norm_67 rfl hl (by decide) rfl (fun ls hl => ?_)
          refine lv_iconst (v := 0) hx hb dX5_norm_68 (by decide) ?_
          refine lv_istore (lv' := [(5, .int 0), (2, .long (z5_common (z5_common (z5_common (z5_common (z5_common (z5_common 0 (f 0)) (f 1)) (f 2)) (f 3)) (f 4)) (f 5))), (4, .int 1), (0, .ref h), (1, .int 6)]) hx hb dX5_norm_69 hl (by decide) rfl (fun ls hl => ?_)
          refine lv_iload hx hb dX5_norm_71 (lv_at hl 0 rfl) ?_
          refine lv_iload_n hx hb dX5_norm_73 rfl (lv_at hl 4 rfl) ?_
          refine lv_icmp_ge (tgt := 93) hx hb dX5_norm_74 (by decide) (fun h => absurd h (by decide)) (fun _ => ?_)
          refine lv_aload_n hx hb dX5_norm_77 rfl (lv_at hl 3 rfl) ?_
          refine lv_iload hx hb dX5_norm_78 (lv_at hl 0 rfl) ?_
          refine lv_aload_n hx hb dX5_norm_80 rfl (lv_at hl 3 rfl) ?_
          refine lv_iload hx hb dX5_norm_81 (lv_at hl 0 rfl) ?_
          refine ld_l hx hb hK.1 hP 0 1 rfl rfl (ix_lit (by decide)) 0 (by decide) (v := f 0) rfl dX5_norm_83 ?_
          refine lv_lload_n hx hb dX5_norm_84 rfl (lv_at hl 1 rfl) ?_
          refine lv_ldiv hx hb dX5_norm_85 c_1 ?_
          refine st_l hx hb hK.1 hP hD hS 0 1 rfl rfl (ix_lit (by decide)) 0 (by decide) dX5_norm_86 (fun H locs hP hD hS => ?_)
          have hP : va_P D vwCl [kJ h cJ 6 (vp_updL f 0 ((f 0) / (z5_common (z5_common (z5_common (z5_common (z5_common (z5_common 0 (f 0)) (f 1)) (f 2)) (f 3)) (f 4)) (f 5))))] H := hP
          have hD : va_D A [kJ h cJ 6 (vp_updL f 0 ((f 0) / (z5_common (z5_common (z5_common (z5_common (z5_common (z5_common 0 (f 0)) (f 1)) (f 2)) (f 3)) (f 4)) (f 5))))] := hD
          refine lv_iinc (v := 1) (lv' := [(5, .int 1), (2, .long (z5_common (z5_common (z5_common (z5_common (z5_common (z5_common 0 (f 0)) (f 1)) (f 2)) (f 3)) (f 4)) (f 5))), (4, .int 1), (0, .ref h), (1, .int 6)]) hx hb dX5_norm_87 hl (k := 0) rfl (by decide) (by decide) rfl (fun ls hl => ?_)
          refine lv_goto (tgt := 71) hx hb dX5_norm_90 (by decide) ?_
          refine lv_iload hx hb dX5_norm_71 (lv_at hl 0 rfl) ?_
          refine lv_iload_n hx hb dX5_norm_73 rfl (lv_at hl 4 rfl) ?_
          refine lv_icmp_ge (tgt := 93) hx hb dX5_norm_74 (by decide) (fun h => absurd h (by decide)) (fun _ => ?_)
          refine lv_aload_n hx hb dX5_norm_77 rfl (lv_at hl 3 rfl) ?_
          refine lv_iload hx hb dX5_norm_78 (lv_at hl 0 rfl) ?_
          refine lv_aload_n hx hb dX5_norm_80 rfl (lv_at hl 3 rfl) ?_
          refine lv_iload hx hb dX5_norm_81 (lv_at hl 0 rfl) ?_
          refine ld_l hx hb hK.1 hP 0 1 rfl rfl (ix_lit (by decide)) 1 (by decide) (v := f 1) rfl dX5_norm_83 ?_
          refine lv_lload_n hx hb dX5_norm_84 rfl (lv_at hl 1 rfl) ?_
          refine lv_ldiv hx hb dX5_norm_85 c_1 ?_
          refine st_l hx hb hK.1 hP hD hS 0 1 rfl rfl (ix_lit (by decide)) 1 (by decide) dX5_norm_86 (fun H locs hP hD hS => ?_)
          have hP : va_P D vwCl [kJ h cJ 6 (vp_updL (vp_updL f 0 ((f 0) / (z5_common (z5_common (z5_common (z5_common (z5_common (z5_common 0 (f 0)) (f 1)) (f 2)) (f 3)) (f 4)) (f 5)))) 1 ((f 1) / (z5_common (z5_common (z5_common (z5_common (z5_common (z5_common 0 (f 0)) (f 1)) (f 2)) (f 3)) (f 4)) (f 5))))] H := hP
          have hD : va_D A [kJ h cJ 6 (vp_updL (vp_updL f 0 ((f 0) / (z5_common (z5_common (z5_common (z5_common (z5_common (z5_common 0 (f 0)) (f 1)) (f 2)) (f 3)) (f 4)) (f 5)))) 1 ((f 1) / (z5_common (z5_common (z5_common (z5_common (z5_common (z5_common 0 (f 0)) (f 1)) (f 2)) (f 3)) (f 4)) (f 5))))] := hD
          refine lv_iinc (v := 2) (lv' := [(5, .int 2), (2, .long (z5_common (z5_common (z5_common (z5_common (z5_common (z5_common 0 (f 0)) (f 1)) (f 2)) (f 3)) (f 4)) (f 5))), (4, .int 1), (0, .ref h), (1, .int 6)]) hx hb dX5_norm_87 hl (k := 0) rfl (by decide) (by decide) rfl (fun ls hl => ?_)
          refine lv_goto (tgt := 71) hx hb dX5_norm_90 (by decide) ?_
          refine lv_iload hx hb dX5_norm_71 (lv_at hl 0 rfl) ?_
          refine lv_iload_n hx hb dX5_norm_73 rfl (lv_at hl 4 rfl) ?_
          refine lv_icmp_ge (tgt := 93) hx hb dX5_norm_74 (by decide) (fun h => absurd h (by decide)) (fun _ => ?_)
          refine lv_aload_n hx hb dX5_norm_77 rfl (lv_at hl 3 rfl) ?_
          refine lv_iload hx hb dX5_norm_78 (lv_at hl 0 rfl) ?_
          refine lv_aload_n hx hb dX5_norm_80 rfl (lv_at hl 3 rfl) ?_
          refine lv_iload hx hb dX5_norm_81 (lv_at hl 0 rfl) ?_
          refine ld_l hx hb hK.1 hP 0 1 rfl rfl (ix_lit (by decide)) 2 (by decide) (v := f 2) rfl dX5_norm_83 ?_
          refine lv_lload_n hx hb dX5_norm_84 rfl (lv_at hl 1 rfl) ?_
          refine lv_ldiv hx hb dX5_norm_85 c_1 ?_
          refine st_l hx hb hK.1 hP hD hS 0 1 rfl rfl (ix_lit (by decide)) 2 (by decide) dX5_norm_86 (fun H locs hP hD hS => ?_)
          have hP : va_P D vwCl [kJ h cJ 6 (vp_updL (vp_updL (vp_updL f 0 ((f 0) / (z5_common (z5_common (z5_common (z5_common (z5_common (z5_common 0 (f 0)) (f 1)) (f 2)) (f 3)) (f 4)) (f 5)))) 1 ((f 1) / (z5_common (z5_common (z5_common (z5_common (z5_common (z5_common 0 (f 0)) (f 1)) (f 2)) (f 3)) (f 4)) (f 5)))) 2 ((f 2) / (z5_common (z5_common (z5_common (z5_common (z5_common (z5_common 0 (f 0)) (f 1)) (f 2)) (f 3)) (f 4)) (f 5))))] H := hP
          have hD : va_D A [kJ h cJ 6 (vp_updL (vp_updL (vp_updL f 0 ((f 0) / (z5_common (z5_common (z5_common (z5_common (z5_common (z5_common 0 (f 0)) (f 1)) (f 2)) (f 3)) (f 4)) (f 5)))) 1 ((f 1) / (z5_common (z5_common (z5_common (z5_common (z5_common (z5_common 0 (f 0)) (f 1)) (f 2)) (f 3)) (f 4)) (f 5)))) 2 ((f 2) / (z5_common (z5_common (z5_common (z5_common (z5_common (z5_common 0 (f 0)) (f 1)) (f 2)) (f 3)) (f 4)) (f 5))))] := hD
          refine lv_iinc (v := 3) (lv' := [(5, .int 3), (2, .long (z5_common (z5_common (z5_common (z5_common (z5_common (z5_common 0 (f 0)) (f 1)) (f 2)) (f 3)) (f 4)) (f 5))), (4, .int 1), (0, .ref h), (1, .int 6)]) hx hb dX5_norm_87 hl (k := 0) rfl (by decide) (by decide) rfl (fun ls hl => ?_)
          refine lv_goto (tgt := 71) hx hb dX5_norm_90 (by decide) ?_
          refine lv_iload hx hb dX5_norm_71 (lv_at hl 0 rfl) ?_
          refine lv_iload_n hx hb dX5_norm_73 rfl (lv_at hl 4 rfl) ?_
          refine lv_icmp_ge (tgt := 93) hx hb dX5_norm_74 (by decide) (fun h => absurd h (by decide)) (fun _ => ?_)
          refine lv_aload_n hx hb dX5_norm_77 rfl (lv_at hl 3 rfl) ?_
          refine lv_iload hx hb dX5_norm_78 (lv_at hl 0 rfl) ?_
          refine lv_aload_n hx hb dX5_norm_80 rfl (lv_at hl 3 rfl) ?_
          refine lv_iload hx hb dX5_norm_81 (lv_at hl 0 rfl) ?_
          refine ld_l hx hb hK.1 hP 0 1 rfl rfl (ix_lit (by decide)) 3 (by decide) (v := f 3) rfl dX5_norm_83 ?_
          refine lv_lload_n hx hb dX5_norm_84 rfl (lv_at hl 1 rfl) ?_
          refine lv_ldiv hx hb dX5_norm_85 c_1 ?_
          refine st_l hx hb hK.1 hP hD hS 0 1 rfl rfl (ix_lit (by decide)) 3 (by decide) dX5_norm_86 (fun H locs hP hD hS => ?_)
          have hP : va_P D vwCl [kJ h cJ 6 (vp_updL (vp_updL (vp_updL (vp_updL f 0 ((f 0) / (z5_common (z5_common (z5_common (z5_common (z5_common (z5_common 0 (f 0)) (f 1)) (f 2)) (f 3)) (f 4)) (f 5)))) 1 ((f 1) / (z5_common (z5_common (z5_common (z5_common (z5_common (z5_common 0 (f 0)) (f 1)) (f 2)) (f 3)) (f 4)) (f 5)))) 2 ((f 2) / (z5_common (z5_common (z5_common (z5_common (z5_common (z5_common 0 (f 0)) (f 1)) (f 2)) (f 3)) (f 4)) (f 5)))) 3 ((f 3) / (z5_common (z5_common (z5_common (z5_common (z5_common (z5_common 0 (f 0)) (f 1)) (f 2)) (f 3)) (f 4)) (f 5))))] H := hP
          have hD : va_D A [kJ h cJ 6 (vp_updL (vp_updL (vp_updL (vp_updL f 0 ((f 0) / (z5_common (z5_common (z5_common (z5_common (z5_common (z5_common 0 (f 0)) (f 1)) (f 2)) (f 3)) (f 4)) (f 5)))) 1 ((f 1) / (z5_common (z5_common (z5_common (z5_common (z5_common (z5_common 0 (f 0)) (f 1)) (f 2)) (f 3)) (f 4)) (f 5)))) 2 ((f 2) / (z5_common (z5_common (z5_common (z5_common (z5_common (z5_common 0 (f 0)) (f 1)) (f 2)) (f 3)) (f 4)) (f 5)))) 3 ((f 3) / (z5_common (z5_common (z5_common (z5_common (z5_common (z5_common 0 (f 0)) (f 1)) (f 2)) (f 3)) (f 4)) (f 5))))] := hD
          refine lv_iinc (v := 4) (lv' := [(5, .int 4), (2, .long (z5_common (z5_common (z5_common (z5_common (z5_common (z5_common 0 (f 0)) (f 1)) (f 2)) (f 3)) (f 4)) (f 5))), (4, .int 1), (0, .ref h), (1, .int 6)]) hx hb dX5_norm_87 hl (k := 0) rfl (by decide) (by decide) rfl (fun ls hl => ?_)
          refine lv_goto (tgt := 71) hx hb dX5_norm_90 (by decide) ?_
          refine lv_iload hx hb dX5_norm_71 (lv_at hl 0 rfl) ?_
          refine lv_iload_n hx hb dX5_norm_73 rfl (lv_at hl 4 rfl) ?_
          refine lv_icmp_ge (tgt := 93) hx hb dX5_norm_74 (by decide) (fun h => absurd h (by decide)) (fun _ => ?_)
          refine lv_aload_n hx hb dX5_norm_77 rfl (lv_at hl 3 rfl) ?_
          refine lv_iload hx hb dX5_norm_78 (lv_at hl 0 rfl) ?_
          refine lv_aload_n hx hb dX5_norm_80 rfl (lv_at hl 3 rfl) ?_
          refine lv_iload hx hb dX5_norm_81 (lv_at hl 0 rfl) ?_
          refine ld_l hx hb hK.1 hP 0 1 rfl rfl (ix_lit (by decide)) 4 (by decide) (v := f 4) rfl dX5_norm_83 ?_
          refine lv_lload_n hx hb dX5_norm_84 rfl (lv_at hl 1 rfl) ?_
          refine lv_ldiv hx hb dX5_norm_85 c_1 ?_
          refine st_l hx hb hK.1 hP hD hS 0 1 rfl rfl (ix_lit (by decide)) 4 (by decide) dX5_norm_86 (fun H locs hP hD hS => ?_)
          have hP : va_P D vwCl [kJ h cJ 6 (vp_updL (vp_updL (vp_updL (vp_updL (vp_updL f 0 ((f 0) / (z5_common (z5_common (z5_common (z5_common (z5_common (z5_common 0 (f 0)) (f 1)) (f 2)) (f 3)) (f 4)) (f 5)))) 1 ((f 1) / (z5_common (z5_common (z5_common (z5_common (z5_common (z5_common 0 (f 0)) (f 1)) (f 2)) (f 3)) (f 4)) (f 5)))) 2 ((f 2) / (z5_common (z5_common (z5_common (z5_common (z5_common (z5_common 0 (f 0)) (f 1)) (f 2)) (f 3)) (f 4)) (f 5)))) 3 ((f 3) / (z5_common (z5_common (z5_common (z5_common (z5_common (z5_common 0 (f 0)) (f 1)) (f 2)) (f 3)) (f 4)) (f 5)))) 4 ((f 4) / (z5_common (z5_common (z5_common (z5_common (z5_common (z5_common 0 (f 0)) (f 1)) (f 2)) (f 3)) (f 4)) (f 5))))] H := hP
          have hD : va_D A [kJ h cJ 6 (vp_updL (vp_updL (vp_updL (vp_updL (vp_updL f 0 ((f 0) / (z5_common (z5_common (z5_common (z5_common (z5_common (z5_common 0 (f 0)) (f 1)) (f 2)) (f 3)) (f 4)) (f 5)))) 1 ((f 1) / (z5_common (z5_common (z5_common (z5_common (z5_common (z5_common 0 (f 0)) (f 1)) (f 2)) (f 3)) (f 4)) (f 5)))) 2 ((f 2) / (z5_common (z5_common (z5_common (z5_common (z5_common (z5_common 0 (f 0)) (f 1)) (f 2)) (f 3)) (f 4)) (f 5)))) 3 ((f 3) / (z5_common (z5_common (z5_common (z5_common (z5_common (z5_common 0 (f 0)) (f 1)) (f 2)) (f 3)) (f 4)) (f 5)))) 4 ((f 4) / (z5_common (z5_common (z5_common (z5_common (z5_common (z5_common 0 (f 0)) (f 1)) (f 2)) (f 3)) (f 4)) (f 5))))] := hD
          refine lv_iinc (v := 5) (lv' := [(5, .int 5), (2, .long (z5_common (z5_common (z5_common (z5_common (z5_common (z5_common 0 (f 0)) (f 1)) (f 2)) (f 3)) (f 4)) (f 5))), (4, .int 1), (0, .ref h), (1, .int 6)]) hx hb dX5_norm_87 hl (k := 0) rfl (by decide) (by decide) rfl (fun ls hl => ?_)
          refine lv_goto (tgt := 71) hx hb dX5_norm_90 (by decide) ?_
          refine lv_iload hx hb dX5_norm_71 (lv_at hl 0 rfl) ?_
          refine lv_iload_n hx hb dX5_norm_73 rfl (lv_at hl 4 rfl) ?_
          refine lv_icmp_ge (tgt := 93) hx hb dX5_norm_74 (by decide) (fun h => absurd h (by decide)) (fun _ => ?_)
          refine lv_aload_n hx hb dX5_norm_77 rfl (lv_at hl 3 rfl) ?_
          refine lv_iload hx hb dX5_norm_78 (lv_at hl 0 rfl) ?_
          refine lv_aload_n hx hb dX5_norm_80 rfl (lv_at hl 3 rfl) ?_
          refine lv_iload hx hb dX5_norm_81 (lv_at hl 0 rfl) ?_
          refine ld_l hx hb hK.1 hP 0 1 rfl rfl (ix_lit (by decide)) 5 (by decide) (v := f 5) rfl dX5_norm_83 ?_
          refine lv_lload_n hx hb dX5_norm_84 rfl (lv_at hl 1 rfl) ?_
          refine lv_ldiv hx hb dX5_norm_85 c_1 ?_
          refine st_l hx hb hK.1 hP hD hS 0 1 rfl rfl (ix_lit (by decide)) 5 (by decide) dX5_norm_86 (fun H locs hP hD hS => ?_)
          have hP : va_P D vwCl [kJ h cJ 6 (vp_updL (vp_updL (vp_updL (vp_updL (vp_updL (vp_updL f 0 ((f 0) / (z5_common (z5_common (z5_common (z5_common (z5_common (z5_common 0 (f 0)) (f 1)) (f 2)) (f 3)) (f 4)) (f 5)))) 1 ((f 1) / (z5_common (z5_common (z5_common (z5_common (z5_common (z5_common 0 (f 0)) (f 1)) (f 2)) (f 3)) (f 4)) (f 5)))) 2 ((f 2) / (z5_common (z5_common (z5_common (z5_common (z5_common (z5_common 0 (f 0)) (f 1)) (f 2)) (f 3)) (f 4)) (f 5)))) 3 ((f 3) / (z5_common (z5_common (z5_common (z5_common (z5_common (z5_common 0 (f 0)) (f 1)) (f 2)) (f 3)) (f 4)) (f 5)))) 4 ((f 4) / (z5_common (z5_common (z5_common (z5_common (z5_common (z5_common 0 (f 0)) (f 1)) (f 2)) (f 3)) (f 4)) (f 5)))) 5 ((f 5) / (z5_common (z5_common (z5_common (z5_common (z5_common (z5_common 0 (f 0)) (f 1)) (f 2)) (f 3)) (f 4)) (f 5))))] H := hP
          have hD : va_D A [kJ h cJ 6 (vp_updL (vp_updL (vp_updL (vp_updL (vp_updL (vp_updL f 0 ((f 0) / (z5_common (z5_common (z5_common (z5_common (z5_common (z5_common 0 (f 0)) (f 1)) (f 2)) (f 3)) (f 4)) (f 5)))) 1 ((f 1) / (z5_common (z5_common (z5_common (z5_common (z5_common (z5_common 0 (f 0)) (f 1)) (f 2)) (f 3)) (f 4)) (f 5)))) 2 ((f 2) / (z5_common (z5_common (z5_common (z5_common (z5_common (z5_common 0 (f 0)) (f 1)) (f 2)) (f 3)) (f 4)) (f 5)))) 3 ((f 3) / (z5_common (z5_common (z5_common (z5_common (z5_common (z5_common 0 (f 0)) (f 1)) (f 2)) (f 3)) (f 4)) (f 5)))) 4 ((f 4) / (z5_common (z5_common (z5_common (z5_common (z5_common (z5_common 0 (f 0)) (f 1)) (f 2)) (f 3)) (f 4)) (f 5)))) 5 ((f 5) / (z5_common (z5_common (z5_common (z5_common (z5_common (z5_common 0 (f 0)) (f 1)) (f 2)) (f 3)) (f 4)) (f 5))))] := hD
          refine lv_iinc (v := 6) (lv' := [(5, .int 6), (2, .long (z5_common (z5_common (z5_common (z5_common (z5_common (z5_common 0 (f 0)) (f 1)) (f 2)) (f 3)) (f 4)) (f 5))), (4, .int 1), (0, .ref h), (1, .int 6)]) hx hb dX5_norm_87 hl (k := 0) rfl (by decide) (by decide) rfl (fun ls hl => ?_)
          refine lv_goto (tgt := 71) hx hb dX5_norm_90 (by decide) ?_
          refine lv_iload hx hb dX5_norm_71 (lv_at hl 0 rfl) ?_
          refine lv_iload_n hx hb dX5_norm_73 rfl (lv_at hl 4 rfl) ?_
          refine lv_icmp_ge (tgt := 93) hx hb dX5_norm_74 (by decide) (fun _ => ?_) (fun h => absurd (by decide) h)
          refine lv_iconst (v := 1) hx hb dX5_norm_93 (by decide) ?_
          have he : z5_norm_6_6 f = (1, vp_updL (vp_updL (vp_updL (vp_updL (vp_updL (vp_updL f 0 ((f 0) / (z5_common (z5_common (z5_common (z5_common (z5_common (z5_common 0 (f 0)) (f 1)) (f 2)) (f 3)) (f 4)) (f 5)))) 1 ((f 1) / (z5_common (z5_common (z5_common (z5_common (z5_common (z5_common 0 (f 0)) (f 1)) (f 2)) (f 3)) (f 4)) (f 5)))) 2 ((f 2) / (z5_common (z5_common (z5_common (z5_common (z5_common (z5_common 0 (f 0)) (f 1)) (f 2)) (f 3)) (f 4)) (f 5)))) 3 ((f 3) / (z5_common (z5_common (z5_common (z5_common (z5_common (z5_common 0 (f 0)) (f 1)) (f 2)) (f 3)) (f 4)) (f 5)))) 4 ((f 4) / (z5_common (z5_common (z5_common (z5_common (z5_common (z5_common 0 (f 0)) (f 1)) (f 2)) (f 3)) (f 4)) (f 5)))) 5 ((f 5) / (z5_common (z5_common (z5_common (z5_common (z5_common (z5_common 0 (f 0)) (f 1)) (f 2)) (f 3)) (f 4)) (f 5)))) := by unfold z5_norm_6_6; rw [if_neg c_1, if_pos c_2, if_neg c_4, if_pos c_5]
          have he_0 : (z5_norm_6_6 f).1 = 1 := by rw [he]
          have he_1 : (z5_norm_6_6 f).2 = vp_updL (vp_updL (vp_updL (vp_updL (vp_updL (vp_updL f 0 ((f 0) / (z5_common (z5_common (z5_common (z5_common (z5_common (z5_common 0 (f 0)) (f 1)) (f 2)) (f 3)) (f 4)) (f 5)))) 1 ((f 1) / (z5_common (z5_common (z5_common (z5_common (z5_common (z5_common 0 (f 0)) (f 1)) (f 2)) (f 3)) (f 4)) (f 5)))) 2 ((f 2) / (z5_common (z5_common (z5_common (z5_common (z5_common (z5_common 0 (f 0)) (f 1)) (f 2)) (f 3)) (f 4)) (f 5)))) 3 ((f 3) / (z5_common (z5_common (z5_common (z5_common (z5_common (z5_common 0 (f 0)) (f 1)) (f 2)) (f 3)) (f 4)) (f 5)))) 4 ((f 4) / (z5_common (z5_common (z5_common (z5_common (z5_common (z5_common 0 (f 0)) (f 1)) (f 2)) (f 3)) (f 4)) (f 5)))) 5 ((f 5) / (z5_common (z5_common (z5_common (z5_common (z5_common (z5_common 0 (f 0)) (f 1)) (f 2)) (f 3)) (f 4)) (f 5))) := by rw [he]
          exact rt_z (w1 := fun uu : Unit => [kJ h cJ 6 ((z5_norm_6_6 f).2)]) hx hb hr rfl hlk hS dX5_norm_94 (()) he_0.symm (by rw [he_1]; exact hP) (by rw [he_1]; exact hD)
        · skip
          refine lv_lload_n hx hb dX5_norm_61 rfl (lv_at hl 1 rfl) ?_
          refine lv_lneg hx hb dX5_norm_62 ?_
          refine lv_goto (tgt := 67) hx hb dX5_norm_63 (by decide) ?_
          refine lv_lstore_n (lv' := [(2, .long (-(z5_common (z5_common (z5_common (z5_common (z5_common (z5_common 0 (f 0)) (f 1)) (f 2)) (f 3)) (f 4)) (f 5)))), (4, .int 1), (0, .ref h), (1, .int 6)]) hx hb dX5_norm_67 rfl hl (by decide) rfl (fun ls hl => ?_)
          refine lv_iconst (v := 0) hx hb dX5_norm_68 (by decide) ?_
          refine lv_istore (lv' := [(5, .int 0), (2, .long (-(z5_common (z5_common (z5_common (z5_common (z5_common (z5_common 0 (f 0)) (f 1)) (f 2)) (f 3)) (f 4)) (f 5)))), (4, .int 1), (0, .ref h), (1, .int 6)]) hx hb dX5_norm_69 hl (by decide) rfl (fun ls hl => ?_)
          refine lv_iload hx hb dX5_norm_71 (lv_at hl 0 rfl) ?_
          refine lv_iload_n hx hb dX5_norm_73 rfl (lv_at hl 4 rfl) ?_
          refine lv_icmp_ge (tgt := 93) hx hb dX5_norm_74 (by decide) (fun h => absurd h (by decide)) (fun _ => ?_)
          refine lv_aload_n hx hb dX5_norm_77 rfl (lv_at hl 3 rfl) ?_
          refine lv_iload hx hb dX5_norm_78 (lv_at hl 0 rfl) ?_
          refine lv_aload_n hx hb dX5_norm_80 rfl (lv_at hl 3 rfl) ?_
          refine lv_iload hx hb dX5_norm_81 (lv_at hl 0 rfl) ?_
          refine ld_l hx hb hK.1 hP 0 1 rfl rfl (ix_lit (by decide)) 0 (by decide) (v := f 0) rfl dX5_norm_83 ?_
          refine lv_lload_n hx hb dX5_norm_84 rfl (lv_at hl 1 rfl) ?_
          refine lv_ldiv hx hb dX5_norm_85 (ng_ne c_1) ?_
          refine st_l hx hb hK.1 hP hD hS 0 1 rfl rfl (ix_lit (by decide)) 0 (by decide) dX5_norm_86 (fun H locs hP hD hS => ?_)
          have hP : va_P D vwCl [kJ h cJ 6 (vp_updL f 0 ((f 0) / (-(z5_common (z5_common (z5_common (z5_common (z5_common (z5_common 0 (f 0)) (f 1)) (f 2)) (f 3)) (f 4)) (f 5)))))] H := hP
          have hD : va_D A [kJ h cJ 6 (vp_updL f 0 ((f 0) / (-(z5_common (z5_common (z5_common (z5_common (z5_common (z5_common 0 (f 0)) (f 1)) (f 2)) (f 3)) (f 4)) (f 5)))))] := hD
          refine lv_iinc (v := 1) (lv' := [(5, .int 1), (2, .long (-(z5_common (z5_common (z5_common (z5_common (z5_common (z5_common 0 (f 0)) (f 1)) (f 2)) (f 3)) (f 4)) (f 5)))), (4, .int 1), (0, .ref h), (1, .int 6)]) hx hb dX5_norm_87 hl (k := 0) rfl (by decide) (by decide) rfl (fun ls hl => ?_)
          refine lv_goto (tgt := 71) hx hb dX5_norm_90 (by decide) ?_
          refine lv_iload hx hb dX5_norm_71 (lv_at hl 0 rfl) ?_
          refine lv_iload_n hx hb dX5_norm_73 rfl (lv_at hl 4 rfl) ?_
          refine lv_icmp_ge (tgt := 93) hx hb dX5_norm_74 (by decide) (fun h => absurd h (by decide)) (fun _ => ?_)
          refine lv_aload_n hx hb dX5_norm_77 rfl (lv_at hl 3 rfl) ?_
          refine lv_iload hx hb dX5_norm_78 (lv_at hl 0 rfl) ?_
          refine lv_aload_n hx hb dX5_norm_80 rfl (lv_at hl 3 rfl) ?_
          refine lv_iload hx hb dX5_norm_81 (lv_at hl 0 rfl) ?_
          refine ld_l hx hb hK.1 hP 0 1 rfl rfl (ix_lit (by decide)) 1 (by decide) (v := f 1) rfl dX5_norm_83 ?_
          refine lv_lload_n hx hb dX5_norm_84 rfl (lv_at hl 1 rfl) ?_
          refine lv_ldiv hx hb dX5_norm_85 (ng_ne c_1) ?_
          refine st_l hx hb hK.1 hP hD hS 0 1 rfl rfl (ix_lit (by decide)) 1 (by decide) dX5_norm_86 (fun H locs hP hD hS => ?_)
          have hP : va_P D vwCl [kJ h cJ 6 (vp_updL (vp_updL f 0 ((f 0) / (-(z5_common (z5_common (z5_common (z5_common (z5_common (z5_common 0 (f 0)) (f 1)) (f 2)) (f 3)) (f 4)) (f 5))))) 1 ((f 1) / (-(z5_common (z5_common (z5_common (z5_common (z5_common (z5_common 0 (f 0)) (f 1)) (f 2)) (f 3)) (f 4)) (f 5)))))] H := hP
          have hD : va_D A [kJ h cJ 6 (vp_updL (vp_updL f 0 ((f 0) / (-(z5_common (z5_common (z5_common (z5_common (z5_common (z5_common 0 (f 0)) (f 1)) (f 2)) (f 3)) (f 4)) (f 5))))) 1 ((f 1) / (-(z5_common (z5_common (z5_common (z5_common (z5_common (z5_common 0 (f 0)) (f 1)) (f 2)) (f 3)) (f 4)) (f 5)))))] := hD
          refine lv_iinc (v := 2) (lv' := [(5, .int 2), (2, .long (-(z5_common (z5_common (z5_common (z5_common (z5_common (z5_common 0 (f 0)) (f 1)) (f 2)) (f 3)) (f 4)) (f 5)))), (4, .int 1), (0, .ref h), (1, .int 6)]) hx hb dX5_norm_87 hl (k := 0) rfl (by decide) (by decide) rfl (fun ls hl => ?_)
          refine lv_goto (tgt := 71) hx hb dX5_norm_90 (by decide) ?_
          refine lv_iload hx hb dX5_norm_71 (lv_at hl 0 rfl) ?_
          refine lv_iload_n hx hb dX5_norm_73 rfl (lv_at hl 4 rfl) ?_
          refine lv_icmp_ge (tgt := 93) hx hb dX5_norm_74 (by decide) (fun h => absurd h (by decide)) (fun _ => ?_)
          refine lv_aload_n hx hb dX5_norm_77 rfl (lv_at hl 3 rfl) ?_
          refine lv_iload hx hb dX5_norm_78 (lv_at hl 0 rfl) ?_
          refine lv_aload_n hx hb dX5_norm_80 rfl (lv_at hl 3 rfl) ?_
          refine lv_iload hx hb dX5_norm_81 (lv_at hl 0 rfl) ?_
          refine ld_l hx hb hK.1 hP 0 1 rfl rfl (ix_lit (by decide)) 2 (by decide) (v := f 2) rfl dX5_norm_83 ?_
          refine lv_lload_n hx hb dX5_norm_84 rfl (lv_at hl 1 rfl) ?_
          refine lv_ldiv hx hb dX5_norm_85 (ng_ne c_1) ?_
          refine st_l hx hb hK.1 hP hD hS 0 1 rfl rfl (ix_lit (by decide)) 2 (by decide) dX5_norm_86 (fun H locs hP hD hS => ?_)
          have hP : va_P D vwCl [kJ h cJ 6 (vp_updL (vp_updL (vp_updL f 0 ((f 0) / (-(z5_common (z5_common (z5_common (z5_common (z5_common (z5_common 0 (f 0)) (f 1)) (f 2)) (f 3)) (f 4)) (f 5))))) 1 ((f 1) / (-(z5_common (z5_common (z5_common (z5_common (z5_common (z5_common 0 (f 0)) (f 1)) (f 2)) (f 3)) (f 4)) (f 5))))) 2 ((f 2) / (-(z5_common (z5_common (z5_common (z5_common (z5_common (z5_common 0 (f 0)) (f 1)) (f 2)) (f 3)) (f 4)) (f 5)))))] H := hP
          have hD : va_D A [kJ h cJ 6 (vp_updL (vp_updL (vp_updL f 0 ((f 0) / (-(z5_common (z5_common (z5_common (z5_common (z5_common (z5_common 0 (f 0)) (f 1)) (f 2)) (f 3)) (f 4)) (f 5))))) 1 ((f 1) / (-(z5_common (z5_common (z5_common (z5_common (z5_common (z5_common 0 (f 0)) (f 1)) (f 2)) (f 3)) (f 4)) (f 5))))) 2 ((f 2) / (-(z5_common (z5_common (z5_common (z5_common (z5_common (z5_common 0 (f 0)) (f 1)) (f 2)) (f 3)) (f 4)) (f 5)))))] := hD
          refine lv_iinc (v := 3) (lv' := [(5, .int 3), (2, .long (-(z5_common (z5_common (z5_common (z5_common (z5_common (z5_common 0 (f 0)) (f 1)) (f 2)) (f 3)) (f 4)) (f 5)))), (4, .int 1), (0, .ref h), (1, .int 6)]) hx hb dX5_norm_87 hl (k := 0) rfl (by decide) (by decide) rfl (fun ls hl => ?_)
          refine lv_goto (tgt := 71) hx hb dX5_norm_90 (by decide) ?_
          refine lv_iload hx hb dX5_norm_71 (lv_at hl 0 rfl) ?_
          refine lv_iload_n hx hb dX5_norm_73 rfl (lv_at hl 4 rfl) ?_
          refine lv_icmp_ge (tgt := 93) hx hb dX5_norm_74 (by decide) (fun h => absurd h (by decide)) (fun _ => ?_)
          refine lv_aload_n hx hb dX5_norm_77 rfl (lv_at hl 3 rfl) ?_
          refine lv_iload hx hb dX5_norm_78 (lv_at hl 0 rfl) ?_
          refine lv_aload_n hx hb dX5_norm_80 rfl (lv_at hl 3 rfl) ?_
          refine lv_iload hx hb dX5_norm_81 (lv_at hl 0 rfl) ?_
          refine ld_l hx hb hK.1 hP 0 1 rfl rfl (ix_lit (by decide)) 3 (by decide) (v := f 3) rfl dX5_norm_83 ?_
          refine lv_lload_n hx hb dX5_norm_84 rfl (lv_at hl 1 rfl) ?_
          refine lv_ldiv hx hb dX5_norm_85 (ng_ne c_1) ?_
          refine st_l hx hb hK.1 hP hD hS 0 1 rfl rfl (ix_lit (by decide)) 3 (by decide) dX5_norm_86 (fun H locs hP hD hS => ?_)
          have hP : va_P D vwCl [kJ h cJ 6 (vp_updL (vp_updL (vp_updL (vp_updL f 0 ((f 0) / (-(z5_common (z5_common (z5_common (z5_common (z5_common (z5_common 0 (f 0)) (f 1)) (f 2)) (f 3)) (f 4)) (f 5))))) 1 ((f 1) / (-(z5_common (z5_common (z5_common (z5_common (z5_common (z5_common 0 (f 0)) (f 1)) (f 2)) (f 3)) (f 4)) (f 5))))) 2 ((f 2) / (-(z5_common (z5_common (z5_common (z5_common (z5_common (z5_common 0 (f 0)) (f 1)) (f 2)) (f 3)) (f 4)) (f 5))))) 3 ((f 3) / (-(z5_common (z5_common (z5_common (z5_common (z5_common (z5_common 0 (f 0)) (f 1)) (f 2)) (f 3)) (f 4)) (f 5)))))] H := hP
          have hD : va_D A [kJ h cJ 6 (vp_updL (vp_updL (vp_updL (vp_updL f 0 ((f 0) / (-(z5_common (z5_common (z5_common (z5_common (z5_common (z5_common 0 (f 0)) (f 1)) (f 2)) (f 3)) (f 4)) (f 5))))) 1 ((f 1) / (-(z5_common (z5_common (z5_common (z5_common (z5_common (z5_common 0 (f 0)) (f 1)) (f 2)) (f 3)) (f 4)) (f 5))))) 2 ((f 2) / (-(z5_common (z5_common (z5_common (z5_common (z5_common (z5_common 0 (f 0)) (f 1)) (f 2)) (f 3)) (f 4)) (f 5))))) 3 ((f 3) / (-(z5_common (z5_common (z5_common (z5_common (z5_common (z5_common 0 (f 0)) (f 1)) (f 2)) (f 3)) (f 4)) (f 5)))))] := hD
          refine lv_iinc (v := 4) (lv' := [(5, .int 4), (2, .long (-(z5_common (z5_common (z5_common (z5_common (z5_common (z5_common 0 (f 0)) (f 1)) (f 2)) (f 3)) (f 4)) (f 5)))), (4, .int 1), (0, .ref h), (1, .int 6)]) hx hb dX5_norm_87 hl (k := 0) rfl (by decide) (by decide) rfl (fun ls hl => ?_)
          refine lv_goto (tgt := 71) hx hb dX5_norm_90 (by decide) ?_
          refine lv_iload hx hb dX5_norm_71 (lv_at hl 0 rfl) ?_
          refine lv_iload_n hx hb dX5_norm_73 rfl (lv_at hl 4 rfl) ?_
          refine lv_icmp_ge (tgt := 93) hx hb dX5_norm_74 (by decide) (fun h => absurd h (by decide)) (fun _ => ?_)
          refine lv_aload_n hx hb dX5_norm_77 rfl (lv_at hl 3 rfl) ?_
          refine lv_iload hx hb dX5_norm_78 (lv_at hl 0 rfl) ?_
          refine lv_aload_n hx hb dX5_norm_80 rfl (lv_at hl 3 rfl) ?_
          refine lv_iload hx hb dX5_norm_81 (lv_at hl 0 rfl) ?_
          refine ld_l hx hb hK.1 hP 0 1 rfl rfl (ix_lit (by decide)) 4 (by decide) (v := f 4) rfl dX5_norm_83 ?_
          refine lv_lload_n hx hb dX5_norm_84 rfl (lv_at hl 1 rfl) ?_
          refine lv_ldiv hx hb dX5_norm_85 (ng_ne c_1) ?_
          refine st_l hx hb hK.1 hP hD hS 0 1 rfl rfl (ix_lit (by decide)) 4 (by decide) dX5_norm_86 (fun H locs hP hD hS => ?_)
          have hP : va_P D vwCl [kJ h cJ 6 (vp_updL (vp_updL (vp_updL (vp_updL (vp_updL f 0 ((f 0) / (-(z5_common (z5_common (z5_common (z5_common (z5_common (z5_common 0 (f 0)) (f 1)) (f 2)) (f 3)) (f 4)) (f 5))))) 1 ((f 1) / (-(z5_common (z5_common (z5_common (z5_common (z5_common (z5_common 0 (f 0)) (f 1)) (f 2)) (f 3)) (f 4)) (f 5))))) 2 ((f 2) / (-(z5_common (z5_common (z5_common (z5_common (z5_common (z5_common 0 (f 0)) (f 1)) (f 2)) (f 3)) (f 4)) (f 5))))) 3 ((f 3) / (-(z5_common (z5_common (z5_common (z5_common (z5_common (z5_common 0 (f 0)) (f 1)) (f 2)) (f 3)) (f 4)) (f 5))))) 4 ((f 4) / (-(z5_common (z5_common (z5_common (z5_common (z5_common (z5_common 0 (f 0)) (f 1)) (f 2)) (f 3)) (f 4)) (f 5)))))] H := hP
          have hD : va_D A [kJ h cJ 6 (vp_updL (vp_updL (vp_updL (vp_updL (vp_updL f 0 ((f 0) / (-(z5_common (z5_common (z5_common (z5_common (z5_common (z5_common 0 (f 0)) (f 1)) (f 2)) (f 3)) (f 4)) (f 5))))) 1 ((f 1) / (-(z5_common (z5_common (z5_common (z5_common (z5_common (z5_common 0 (f 0)) (f 1)) (f 2)) (f 3)) (f 4)) (f 5))))) 2 ((f 2) / (-(z5_common (z5_common (z5_common (z5_common (z5_common (z5_common 0 (f 0)) (f 1)) (f 2)) (f 3)) (f 4)) (f 5))))) 3 ((f 3) / (-(z5_common (z5_common (z5_common (z5_common (z5_common (z5_common 0 (f 0)) (f 1)) (f 2)) (f 3)) (f 4)) (f 5))))) 4 ((f 4) / (-(z5_common (z5_common (z5_common (z5_common (z5_common (z5_common 0 (f 0)) (f 1)) (f 2)) (f 3)) (f 4)) (f 5)))))] := hD
          refine lv_iinc (v := 5) (lv' := [(5, .int 5), (2, .long (-(z5_common (z5_common (z5_common (z5_common (z5_common (z5_common 0 (f 0)) (f 1)) (f 2)) (f 3)) (f 4)) (f 5)))), (4, .int 1), (0, .ref h), (1, .int 6)]) hx hb dX5_norm_87 hl (k := 0) rfl (by decide) (by decide) rfl (fun ls hl => ?_)
          refine lv_goto (tgt := 71) hx hb dX5_norm_90 (by decide) ?_
          refine lv_iload hx hb dX5_norm_71 (lv_at hl 0 rfl) ?_
          refine lv_iload_n hx hb dX5_norm_73 rfl (lv_at hl 4 rfl) ?_
          refine lv_icmp_ge (tgt := 93) hx hb dX5_norm_74 (by decide) (fun h => absurd h (by decide)) (fun _ => ?_)
          refine lv_aload_n hx hb dX5_norm_77 rfl (lv_at hl 3 rfl) ?_
          refine lv_iload hx hb dX5_norm_78 (lv_at hl 0 rfl) ?_
          refine lv_aload_n hx hb dX5_norm_80 rfl (lv_at hl 3 rfl) ?_
          refine lv_iload hx hb dX5_norm_81 (lv_at hl 0 rfl) ?_
          refine ld_l hx hb hK.1 hP 0 1 rfl rfl (ix_lit (by decide)) 5 (by decide) (v := f 5) rfl dX5_norm_83 ?_
          refine lv_lload_n hx hb dX5_norm_84 rfl (lv_at hl 1 rfl) ?_
          refine lv_ldiv hx hb dX5_norm_85 (ng_ne c_1) ?_
          refine st_l hx hb hK.1 hP hD hS 0 1 rfl rfl (ix_lit (by decide)) 5 (by decide) dX5_norm_86 (fun H locs hP hD hS => ?_)
          have hP : va_P D vwCl [kJ h cJ 6 (vp_updL (vp_updL (vp_updL (vp_updL (vp_updL (vp_updL f 0 ((f 0) / (-(z5_common (z5_common (z5_common (z5_common (z5_common (z5_common 0 (f 0)) (f 1)) (f 2)) (f 3)) (f 4)) (f 5))))) 1 ((f 1) / (-(z5_common (z5_common (z5_common (z5_common (z5_common (z5_common 0 (f 0)) (f 1)) (f 2)) (f 3)) (f 4)) (f 5))))) 2 ((f 2) / (-(z5_common (z5_common (z5_common (z5_common (z5_common (z5_common 0 (f 0)) (f 1)) (f 2)) (f 3)) (f 4)) (f 5))))) 3 ((f 3) / (-(z5_common (z5_common (z5_common (z5_common (z5_common (z5_common 0 (f 0)) (f 1)) (f 2)) (f 3)) (f 4)) (f 5))))) 4 ((f 4) / (-(z5_common (z5_common (z5_common (z5_common (z5_common (z5_common 0 (f 0)) (f 1)) (f 2)) (f 3)) (f 4)) (f 5))))) 5 ((f 5) / (-(z5_common (z5_common (z5_common (z5_common (z5_common (z5_common 0 (f 0)) (f 1)) (f 2)) (f 3)) (f 4)) (f 5)))))] H := hP
          have hD : va_D A [kJ h cJ 6 (vp_updL (vp_updL (vp_updL (vp_updL (vp_updL (vp_updL f 0 ((f 0) / (-(z5_common (z5_common (z5_common (z5_common (z5_common (z5_common 0 (f 0)) (f 1)) (f 2)) (f 3)) (f 4)) (f 5))))) 1 ((f 1) / (-(z5_common (z5_common (z5_common (z5_common (z5_common (z5_common 0 (f 0)) (f 1)) (f 2)) (f 3)) (f 4)) (f 5))))) 2 ((f 2) / (-(z5_common (z5_common (z5_common (z5_common (z5_common (z5_common 0 (f 0)) (f 1)) (f 2)) (f 3)) (f 4)) (f 5))))) 3 ((f 3) / (-(z5_common (z5_common (z5_common (z5_common (z5_common (z5_common 0 (f 0)) (f 1)) (f 2)) (f 3)) (f 4)) (f 5))))) 4 ((f 4) / (-(z5_common (z5_common (z5_common (z5_common (z5_common (z5_common 0 (f 0)) (f 1)) (f 2)) (f 3)) (f 4)) (f 5))))) 5 ((f 5) / (-(z5_common (z5_common (z5_common (z5_common (z5_common (z5_common 0 (f 0)) (f 1)) (f 2)) (f 3)) (f 4)) (f 5)))))] := hD
          refine lv_iinc (v := 6) (lv' := [(5, .int 6), (2, .long (-(z5_common (z5_common (z5_common (z5_common (z5_common (z5_common 0 (f 0)) (f 1)) (f 2)) (f 3)) (f 4)) (f 5)))), (4, .int 1), (0, .ref h), (1, .int 6)]) hx hb dX5_norm_87 hl (k := 0) rfl (by decide) (by decide) rfl (fun ls hl => ?_)
          refine lv_goto (tgt := 71) hx hb dX5_norm_90 (by decide) ?_
          refine lv_iload hx hb dX5_norm_71 (lv_at hl 0 rfl) ?_
          refine lv_iload_n hx hb dX5_norm_73 rfl (lv_at hl 4 rfl) ?_
          refine lv_icmp_ge (tgt := 93) hx hb dX5_norm_74 (by decide) (fun _ => ?_) (fun h => absurd (by decide) h)
          refine lv_iconst (v := 1) hx hb dX5_norm_93 (by decide) ?_
          have he : z5_norm_6_6 f = (1, vp_updL (vp_updL (vp_updL (vp_updL (vp_updL (vp_updL f 0 ((f 0) / (-(z5_common (z5_common (z5_common (z5_common (z5_common (z5_common 0 (f 0)) (f 1)) (f 2)) (f 3)) (f 4)) (f 5))))) 1 ((f 1) / (-(z5_common (z5_common (z5_common (z5_common (z5_common (z5_common 0 (f 0)) (f 1)) (f 2)) (f 3)) (f 4)) (f 5))))) 2 ((f 2) / (-(z5_common (z5_common (z5_common (z5_common (z5_common (z5_common 0 (f 0)) (f 1)) (f 2)) (f 3)) (f 4)) (f 5))))) 3 ((f 3) / (-(z5_common (z5_common (z5_common (z5_common (z5_common (z5_common 0 (f 0)) (f 1)) (f 2)) (f 3)) (f 4)) (f 5))))) 4 ((f 4) / (-(z5_common (z5_common (z5_common (z5_common (z5_common (z5_common 0 (f 0)) (f 1)) (f 2)) (f 3)) (f 4)) (f 5))))) 5 ((f 5) / (-(z5_common (z5_common (z5_common (z5_common (z5_common (z5_common 0 (f 0)) (f 1)) (f 2)) (f 3)) (f 4)) (f 5))))) := by unfold z5_norm_6_6; rw [if_neg c_1, if_pos c_2, if_neg c_4, if_neg c_5]
          have he_0 : (z5_norm_6_6 f).1 = 1 := by rw [he]
          have he_1 : (z5_norm_6_6 f).2 = vp_updL (vp_updL (vp_updL (vp_updL (vp_updL (vp_updL f 0 ((f 0) / (-(z5_common (z5_common (z5_common (z5_common (z5_common (z5_common 0 (f 0)) (f 1)) (f 2)) (f 3)) (f 4)) (f 5))))) 1 ((f 1) / (-(z5_common (z5_common (z5_common (z5_common (z5_common (z5_common 0 (f 0)) (f 1)) (f 2)) (f 3)) (f 4)) (f 5))))) 2 ((f 2) / (-(z5_common (z5_common (z5_common (z5_common (z5_common (z5_common 0 (f 0)) (f 1)) (f 2)) (f 3)) (f 4)) (f 5))))) 3 ((f 3) / (-(z5_common (z5_common (z5_common (z5_common (z5_common (z5_common 0 (f 0)) (f 1)) (f 2)) (f 3)) (f 4)) (f 5))))) 4 ((f 4) / (-(z5_common (z5_common (z5_common (z5_common (z5_common (z5_common 0 (f 0)) (f 1)) (f 2)) (f 3)) (f 4)) (f 5))))) 5 ((f 5) / (-(z5_common (z5_common (z5_common (z5_common (z5_common (z5_common 0 (f 0)) (f 1)) (f 2)) (f 3)) (f 4)) (f 5)))) := by rw [he]
          exact rt_z (w1 := fun uu : Unit => [kJ h cJ 6 ((z5_norm_6_6 f).2)]) hx hb hr rfl hlk hS dX5_norm_94 (()) he_0.symm (by rw [he_1]; exact hP) (by rw [he_1]; exact hD)
      · skip
        refine lv_iinc (v := 2) (lv' := [(4, .int 2), (2, .long (z5_common (z5_common (z5_common (z5_common (z5_common (z5_common 0 (f 0)) (f 1)) (f 2)) (f 3)) (f 4)) (f 5))), (0, .ref h), (1, .int 6)]) hx hb dX5_norm_46 hl (k := 0) rfl (by decide) (by decide) rfl (fun ls hl => ?_)
        refine lv_goto (tgt := 37) hx hb dX5_norm_49 (by decide) ?_
        refine lv_aload_n hx hb dX5_norm_37 rfl (lv_at hl 2 rfl) ?_
        refine lv_iload hx hb dX5_norm_38 (lv_at hl 0 rfl) ?_
        refine ld_l hx hb hK.1 hP 0 1 rfl rfl (ix_lit (by decide)) 2 (by decide) (v := f 2) rfl dX5_norm_40 ?_
        refine lv_lconst (v := 0) hx hb dX5_norm_41 (by decide) ?_
        refine lb_ne (tgt := 52) hx hb dX5_norm_42 rfl dX5_norm_43 (by decide) (fun c_6 => ?_) (fun c_6 => ?_)
        · skip
          refine lv_aload_n hx hb dX5_norm_52 rfl (lv_at hl 2 rfl) ?_
          refine lv_iload hx hb dX5_norm_53 (lv_at hl 0 rfl) ?_
          refine ld_l hx hb hK.1 hP 0 1 rfl rfl (ix_lit (by decide)) 2 (by decide) (v := f 2) rfl dX5_norm_55 ?_
          refine lv_lconst (v := 0) hx hb dX5_norm_56 (by decide) ?_
          refine lb_ge (tgt := 66) hx hb dX5_norm_57 rfl dX5_norm_58 (by decide) (fun c_7 => ?_) (fun c_7 => ?_)
          · skip
            refine lv_lload_n hx hb dX5_norm_66 rfl (lv_at hl 1 rfl) ?_
            refine lv_lstore_n (lv' := [(2, .long (z5_common (z5_common (z5_common (z5_common (z5_common (z5_common 0 (f 0)) (f 1)) (f 2)) (f 3)) (f 4)) (f 5))), (4, .int 2), (0, .ref h), (1, .int 6)]) hx hb dX5_norm_67 rfl hl (by decide) rfl (fun ls hl => ?_)
            refine lv_iconst (v := 0) hx hb dX5_norm_68 (by decide) ?_
            refine lv_istore (lv' := [(5, .int 0), (2, .long (z5_common (z5_common (z5_common (z5_common (z5_common (z5_common 0 (f 0)) (f 1)) (f 2)) (f 3)) (f 4)) (f 5))), (4, .int 2), (0, .ref h), (1, .int 6)]) hx hb dX5_norm_69 hl (by decide) rfl (fun ls hl => ?_)
            refine lv_iload hx hb dX5_norm_71 (lv_at hl 0 rfl) ?_
            refine lv_iload_n hx hb dX5_norm_73 rfl (lv_at hl 4 rfl) ?_
            refine lv_icmp_ge (tgt := 93) hx hb dX5_norm_74 (by decide) (fun h => absurd h (by decide)) (fun _ => ?_)
            refine lv_aload_n hx hb dX5_norm_77 rfl (lv_at hl 3 rfl) ?_
            refine lv_iload hx hb dX5_norm_78 (lv_at hl 0 rfl) ?_
            refine lv_aload_n hx hb dX5_norm_80 rfl (lv_at hl 3 rfl) ?_
            refine lv_iload hx hb dX5_norm_81 (lv_at hl 0 rfl) ?_
            refine ld_l hx hb hK.1 hP 0 1 rfl rfl (ix_lit (by decide)) 0 (by decide) (v := f 0) rfl dX5_norm_83 ?_
            refine lv_lload_n hx hb dX5_norm_84 rfl (lv_at hl 1 rfl) ?_
            refine lv_ldiv hx hb dX5_norm_85 c_1 ?_
            refine st_l hx hb hK.1 hP hD hS 0 1 rfl rfl (ix_lit (by decide)) 0 (by decide) dX5_norm_86 (fun H locs hP hD hS => ?_)
            have hP : va_P D vwCl [kJ h cJ 6 (vp_updL f 0 ((f 0) / (z5_common (z5_common (z5_common (z5_common (z5_common (z5_common 0 (f 0)) (f 1)) (f 2)) (f 3)) (f 4)) (f 5))))] H := hP
            have hD : va_D A [kJ h cJ 6 (vp_updL f 0 ((f 0) / (z5_common (z5_common (z5_common (z5_common (z5_common (z5_common 0 (f 0)) (f 1)) (f 2)) (f 3)) (f 4)) (f 5))))] := hD
            refine lv_iinc (v := 1) (lv' := [(5, .int 1), (2, .long (z5_common (z5_common (z5_common (z5_common (z5_common (z5_common 0 (f 0)) (f 1)) (f 2)) (f 3)) (f 4)) (f 5))), (4, .int 2), (0, .ref h), (1, .int 6)]) hx hb dX5_norm_87 hl (k := 0) rfl (by decide) (by decide) rfl (fun ls hl => ?_)
            refine lv_goto (tgt := 71) hx hb dX5_norm_90 (by decide) ?_
            refine lv_iload hx hb dX5_norm_71 (lv_at hl 0 rfl) ?_
            refine lv_iload_n hx hb dX5_norm_73 rfl (lv_at hl 4 rfl) ?_
            refine lv_icmp_ge (tgt := 93) hx hb dX5_norm_74 (by decide) (fun h => absurd h (by decide)) (fun _ => ?_)
            refine lv_aload_n hx hb dX5_norm_77 rfl (lv_at hl 3 rfl) ?_
            refine lv_iload hx hb dX5_norm_78 (lv_at hl 0 rfl) ?_
            refine lv_aload_n hx hb dX5_norm_80 rfl (lv_at hl 3 rfl) ?_
            refine lv_iload hx hb dX5_norm_81 (lv_at hl 0 rfl) ?_
            refine ld_l hx hb hK.1 hP 0 1 rfl rfl (ix_lit (by decide)) 1 (by decide) (v := f 1) rfl dX5_norm_83 ?_
            refine lv_lload_n hx hb dX5_norm_84 rfl (lv_at hl 1 rfl) ?_
            refine lv_ldiv hx hb dX5_norm_85 c_1 ?_
            refine st_l hx hb hK.1 hP hD hS 0 1 rfl rfl (ix_lit (by decide)) 1 (by decide) dX5_norm_86 (fun H locs hP hD hS => ?_)
            have hP : va_P D vwCl [kJ h cJ 6 (vp_updL (vp_updL f 0 ((f 0) / (z5_common (z5_common (z5_common (z5_common (z5_common (z5_common 0 (f 0)) (f 1)) (f 2)) (f 3)) (f 4)) (f 5)))) 1 ((f 1) / (z5_common (z5_common (z5_common (z5_common (z5_common (z5_common 0 (f 0)) (f 1)) (f 2)) (f 3)) (f 4)) (f 5))))] H := hP
            have hD : va_D A [kJ h cJ 6 (vp_updL (vp_updL f 0 ((f 0) / (z5_common (z5_common (z5_common (z5_common (z5_common (z5_common 0 (f 0)) (f 1)) (f 2)) (f 3)) (f 4)) (f 5)))) 1 ((f 1) / (z5_common (z5_common (z5_common (z5_common (z5_common (z5_common 0 (f 0)) (f 1)) (f 2)) (f 3)) (f 4)) (f 5))))] := hD
            refine lv_iinc (v := 2) (lv' := [(5, .int 2), (2, .long (z5_common (z5_common (z5_common (z5_common (z5_common (z5_common 0 (f 0)) (f 1)) (f 2)) (f 3)) (f 4)) (f 5))), (4, .int 2), (0, .ref h), (1, .int 6)]) hx hb dX5_norm_87 hl (k := 0) rfl (by decide) (by decide) rfl (fun ls hl => ?_)
            refine lv_goto (tgt := 71) hx hb dX5_norm_90 (by decide) ?_
            refine lv_iload hx hb dX5_norm_71 (lv_at hl 0 rfl) ?_
            refine lv_iload_n hx hb dX5_norm_73 rfl (lv_at hl 4 rfl) ?_
            refine lv_icmp_ge (tgt := 93) hx hb dX5_norm_74 (by decide) (fun h => absurd h (by decide)) (fun _ => ?_)
            refine lv_aload_n hx hb dX5_norm_77 rfl (lv_at hl 3 rfl) ?_
            refine lv_iload hx hb dX5_norm_78 (lv_at hl 0 rfl) ?_
            refine lv_aload_n hx hb dX5_norm_80 rfl (lv_at hl 3 rfl) ?_
            refine lv_iload hx hb dX5_norm_81 (lv_at hl 0 rfl) ?_
            refine ld_l hx hb hK.1 hP 0 1 rfl rfl (ix_lit (by decide)) 2 (by decide) (v := f 2) rfl dX5_norm_83 ?_
            refine lv_lload_n hx hb dX5_norm_84 rfl (lv_at hl 1 rfl) ?_
            refine lv_ldiv hx hb dX5_norm_85 c_1 ?_
            refine st_l hx hb hK.1 hP hD hS 0 1 rfl rfl (ix_lit (by decide)) 2 (by decide) dX5_norm_86 (fun H locs hP hD hS => ?_)
            have hP : va_P D vwCl [kJ h cJ 6 (vp_updL (vp_updL (vp_updL f 0 ((f 0) / (z5_common (z5_common (z5_common (z5_common (z5_common (z5_common 0 (f 0)) (f 1)) (f 2)) (f 3)) (f 4)) (f 5)))) 1 ((f 1) / (z5_common (z5_common (z5_common (z5_common (z5_common (z5_common 0 (f 0)) (f 1)) (f 2)) (f 3)) (f 4)) (f 5)))) 2 ((f 2) / (z5_common (z5_common (z5_common (z5_common (z5_common (z5_common 0 (f 0)) (f 1)) (f 2)) (f 3)) (f 4)) (f 5))))] H := hP
            have hD : va_D A [kJ h cJ 6 (vp_updL (vp_updL (vp_updL f 0 ((f 0) / (z5_common (z5_common (z5_common (z5_common (z5_common (z5_common 0 (f 0)) (f 1)) (f 2)) (f 3)) (f 4)) (f 5)))) 1 ((f 1) / (z5_common (z5_common (z5_common (z5_common (z5_common (z5_common 0 (f 0)) (f 1)) (f 2)) (f 3)) (f 4)) (f 5)))) 2 ((f 2) / (z5_common (z5_common (z5_common (z5_common (z5_common (z5_common 0 (f 0)) (f 1)) (f 2)) (f 3)) (f 4)) (f 5))))] := hD
            refine lv_iinc (v := 3) (lv' := [(5, .int 3), (2, .long (z5_common (z5_common (z5_common (z5_common (z5_common (z5_common 0 (f 0)) (f 1)) (f 2)) (f 3)) (f 4)) (f 5))), (4, .int 2), (0, .ref h), (1, .int 6)]) hx hb dX5_norm_87 hl (k := 0) rfl (by decide) (by decide) rfl (fun ls hl => ?_)
            refine lv_goto (tgt := 71) hx hb dX5_norm_90 (by decide) ?_
            refine lv_iload hx hb dX5_norm_71 (lv_at hl 0 rfl) ?_
            refine lv_iload_n hx hb dX5_norm_73 rfl (lv_at hl 4 rfl) ?_
            refine lv_icmp_ge (tgt := 93) hx hb dX5_norm_74 (by decide) (fun h => absurd h (by decide)) (fun _ => ?_)
            refine lv_aload_n hx hb dX5_norm_77 rfl (lv_at hl 3 rfl) ?_
            refine lv_iload hx hb dX5_norm_78 (lv_at hl 0 rfl) ?_
            refine lv_aload_n hx hb dX5_norm_80 rfl (lv_at hl 3 rfl) ?_
            refine lv_iload hx hb dX5_norm_81 (lv_at hl 0 rfl) ?_
            refine ld_l hx hb hK.1 hP 0 1 rfl rfl (ix_lit (by decide)) 3 (by decide) (v := f 3) rfl dX5_norm_83 ?_
            refine lv_lload_n hx hb dX5_norm_84 rfl (lv_at hl 1 rfl) ?_
            refine lv_ldiv hx hb dX5_norm_85 c_1 ?_
            refine st_l hx hb hK.1 hP hD hS 0 1 rfl rfl (ix_lit (by decide)) 3 (by decide) dX5_norm_86 (fun H locs hP hD hS => ?_)
            have hP : va_P D vwCl [kJ h cJ 6 (vp_updL (vp_updL (vp_updL (vp_updL f 0 ((f 0) / (z5_common (z5_common (z5_common (z5_common (z5_common (z5_common 0 (f 0)) (f 1)) (f 2)) (f 3)) (f 4)) (f 5)))) 1 ((f 1) / (z5_common (z5_common (z5_common (z5_common (z5_common (z5_common 0 (f 0)) (f 1)) (f 2)) (f 3)) (f 4)) (f 5)))) 2 ((f 2) / (z5_common (z5_common (z5_common (z5_common (z5_common (z5_common 0 (f 0)) (f 1)) (f 2)) (f 3)) (f 4)) (f 5)))) 3 ((f 3) / (z5_common (z5_common (z5_common (z5_common (z5_common (z5_common 0 (f 0)) (f 1)) (f 2)) (f 3)) (f 4)) (f 5))))] H := hP
            have hD : va_D A [kJ h cJ 6 (vp_updL (vp_updL (vp_updL (vp_updL f 0 ((f 0) / (z5_common (z5_common (z5_common (z5_common (z5_common (z5_common 0 (f 0)) (f 1)) (f 2)) (f 3)) (f 4)) (f 5)))) 1 ((f 1) / (z5_common (z5_common (z5_common (z5_common (z5_common (z5_common 0 (f 0)) (f 1)) (f 2)) (f 3)) (f 4)) (f 5)))) 2 ((f 2) / (z5_common (z5_common (z5_common (z5_common (z5_common (z5_common 0 (f 0)) (f 1)) (f 2)) (f 3)) (f 4)) (f 5)))) 3 ((f 3) / (z5_common (z5_common (z5_common (z5_common (z5_common (z5_common 0 (f 0)) (f 1)) (f 2)) (f 3)) (f 4)) (f 5))))] := hD
            refine lv_iinc (v := 4) (lv' := [(5, .int 4), (2, .long (z5_common (z5_common (z5_common (z5_common (z5_common (z5_common 0 (f 0)) (f 1)) (f 2)) (f 3)) (f 4)) (f 5))), (4, .int 2), (0, .ref h), (1, .int 6)]) hx hb dX5_norm_87 hl (k := 0) rfl (by decide) (by decide) rfl (fun ls hl => ?_)
            refine lv_goto (tgt := 71) hx hb dX5_norm_90 (by decide) ?_
            refine lv_iload hx hb dX5_norm_71 (lv_at hl 0 rfl) ?_
            refine lv_iload_n hx hb dX5_norm_73 rfl (lv_at hl 4 rfl) ?_
            refine lv_icmp_ge (tgt := 93) hx hb dX5_norm_74 (by decide) (fun h => absurd h (by decide)) (fun _ => ?_)
            refine lv_aload_n hx hb dX5_norm_77 rfl (lv_at hl 3 rfl) ?_
            refine lv_iload hx hb dX5_norm_78 (lv_at hl 0 rfl) ?_
            refine lv_aload_n hx hb dX5_norm_80 rfl (lv_at hl 3 rfl) ?_
            refine lv_iload hx hb dX5_norm_81 (lv_at hl 0 rfl) ?_
            refine ld_l hx hb hK.1 hP 0 1 rfl rfl (ix_lit (by decide)) 4 (by decide) (v := f 4) rfl dX5_norm_83 ?_
            refine lv_lload_n hx hb dX5_norm_84 rfl (lv_at hl 1 rfl) ?_
            refine lv_ldiv hx hb dX5_norm_85 c_1 ?_
            refine st_l hx hb hK.1 hP hD hS 0 1 rfl rfl (ix_lit (by decide)) 4 (by decide) dX5_norm_86 (fun H locs hP hD hS => ?_)
            have hP : va_P D vwCl [kJ h cJ 6 (vp_updL (vp_updL (vp_updL (vp_updL (vp_updL f 0 ((f 0) / (z5_common (z5_common (z5_common (z5_common (z5_common (z5_common 0 (f 0)) (f 1)) (f 2)) (f 3)) (f 4)) (f 5)))) 1 ((f 1) / (z5_common (z5_common (z5_common (z5_common (z5_common (z5_common 0 (f 0)) (f 1)) (f 2)) (f 3)) (f 4)) (f 5)))) 2 ((f 2) / (z5_common (z5_common (z5_common (z5_common (z5_common (z5_common 0 (f 0)) (f 1)) (f 2)) (f 3)) (f 4)) (f 5)))) 3 ((f 3) / (z5_common (z5_common (z5_common (z5_common (z5_common (z5_common 0 (f 0)) (f 1)) (f 2)) (f 3)) (f 4)) (f 5)))) 4 ((f 4) / (z5_common (z5_common (z5_common (z5_common (z5_common (z5_common 0 (f 0)) (f 1)) (f 2)) (f 3)) (f 4)) (f 5))))] H := hP
            have hD : va_D A [kJ h cJ 6 (vp_updL (vp_updL (vp_updL (vp_updL (vp_updL f 0 ((f 0) / (z5_common (z5_common (z5_common (z5_common (z5_common (z5_common 0 (f 0)) (f 1)) (f 2)) (f 3)) (f 4)) (f 5)))) 1 ((f 1) / (z5_common (z5_common (z5_common (z5_common (z5_common (z5_common 0 (f 0)) (f 1)) (f 2)) (f 3)) (f 4)) (f 5)))) 2 ((f 2) / (z5_common (z5_common (z5_common (z5_common (z5_common (z5_common 0 (f 0)) (f 1)) (f 2)) (f 3)) (f 4)) (f 5)))) 3 ((f 3) / (z5_common (z5_common (z5_common (z5_common (z5_common (z5_common 0 (f 0)) (f 1)) (f 2)) (f 3)) (f 4)) (f 5)))) 4 ((f 4) / (z5_common (z5_common (z5_common (z5_common (z5_common (z5_common 0 (f 0)) (f 1)) (f 2)) (f 3)) (f 4)) (f 5))))] := hD
            refine lv_iinc (v := 5) (lv' := [(5, .int 5), (2, .long (z5_common (z5_common (z5_common (z5_common (z5_common (z5_common 0 (f 0)) (f 1)) (f 2)) (f 3)) (f 4)) (f 5))), (4, .int 2), (0, .ref h), (1, .int 6)]) hx hb dX5_norm_87 hl (k := 0) rfl (by decide) (by decide) rfl (fun ls hl => ?_)
            refine lv_goto (tgt := 71) hx hb dX5_norm_90 (by decide) ?_
            refine lv_iload hx hb dX5_norm_71 (lv_at hl 0 rfl) ?_
            refine lv_iload_n hx hb dX5_norm_73 rfl (lv_at hl 4 rfl) ?_
            refine lv_icmp_ge (tgt := 93) hx hb dX5_norm_74 (by decide) (fun h => absurd h (by decide)) (fun _ => ?_)
            refine lv_aload_n hx hb dX5_norm_77 rfl (lv_at hl 3 rfl) ?_
            refine lv_iload hx hb dX5_norm_78 (lv_at hl 0 rfl) ?_
            refine lv_aload_n hx hb dX5_norm_80 rfl (lv_at hl 3 rfl) ?_
            refine lv_iload hx hb dX5_norm_81 (lv_at hl 0 rfl) ?_
            refine ld_l hx hb hK.1 hP 0 1 rfl rfl (ix_lit (by decide)) 5 (by decide) (v := f 5) rfl dX5_norm_83 ?_
            refine lv_lload_n hx hb dX5_norm_84 rfl (lv_at hl 1 rfl) ?_
            refine lv_ldiv hx hb dX5_norm_85 c_1 ?_
            refine st_l hx hb hK.1 hP hD hS 0 1 rfl rfl (ix_lit (by decide)) 5 (by decide) dX5_norm_86 (fun H locs hP hD hS => ?_)
            have hP : va_P D vwCl [kJ h cJ 6 (vp_updL (vp_updL (vp_updL (vp_updL (vp_updL (vp_updL f 0 ((f 0) / (z5_common (z5_common (z5_common (z5_common (z5_common (z5_common 0 (f 0)) (f 1)) (f 2)) (f 3)) (f 4)) (f 5)))) 1 ((f 1) / (z5_common (z5_common (z5_common (z5_common (z5_common (z5_common 0 (f 0)) (f 1)) (f 2)) (f 3)) (f 4)) (f 5)))) 2 ((f 2) / (z5_common (z5_common (z5_common (z5_common (z5_common (z5_common 0 (f 0)) (f 1)) (f 2)) (f 3)) (f 4)) (f 5)))) 3 ((f 3) / (z5_common (z5_common (z5_common (z5_common (z5_common (z5_common 0 (f 0)) (f 1)) (f 2)) (f 3)) (f 4)) (f 5)))) 4 ((f 4) / (z5_common (z5_common (z5_common (z5_common (z5_common (z5_common 0 (f 0)) (f 1)) (f 2)) (f 3)) (f 4)) (f 5)))) 5 ((f 5) / (z5_common (z5_common (z5_common (z5_common (z5_common (z5_common 0 (f 0)) (f 1)) (f 2)) (f 3)) (f 4)) (f 5))))] H := hP
            have hD : va_D A [kJ h cJ 6 (vp_updL (vp_updL (vp_updL (vp_updL (vp_updL (vp_updL f 0 ((f 0) / (z5_common (z5_common (z5_common (z5_common (z5_common (z5_common 0 (f 0)) (f 1)) (f 2)) (f 3)) (f 4)) (f 5)))) 1 ((f 1) / (z5_common (z5_common (z5_common (z5_common (z5_common (z5_common 0 (f 0)) (f 1)) (f 2)) (f 3)) (f 4)) (f 5)))) 2 ((f 2) / (z5_common (z5_common (z5_common (z5_common (z5_common (z5_common 0 (f 0)) (f 1)) (f 2)) (f 3)) (f 4)) (f 5)))) 3 ((f 3) / (z5_common (z5_common (z5_common (z5_common (z5_common (z5_common 0 (f 0)) (f 1)) (f 2)) (f 3)) (f 4)) (f 5)))) 4 ((f 4) / (z5_common (z5_common (z5_common (z5_common (z5_common (z5_common 0 (f 0)) (f 1)) (f 2)) (f 3)) (f 4)) (f 5)))) 5 ((f 5) / (z5_common (z5_common (z5_common (z5_common (z5_common (z5_common 0 (f 0)) (f 1)) (f 2)) (f 3)) (f 4)) (f 5))))] := hD
            refine lv_iinc (v := 6) (lv' := [(5, .int 6), (2, .long (z5_common (z5_common (z5_common (z5_common (z5_common (z5_common 0 (f 0)) (f 1)) (f 2)) (f 3)) (f 4)) (f 5))), (4, .int 2), (0, .ref h), (1, .int 6)]) hx hb dX5_norm_87 hl (k := 0) rfl (by decide) (by decide) rfl (fun ls hl => ?_)
            refine lv_goto (tgt := 71) hx hb dX5_norm_90 (by decide) ?_
            refine lv_iload hx hb dX5_norm_71 (lv_at hl 0 rfl) ?_
            refine lv_iload_n hx hb dX5_norm_73 rfl (lv_at hl 4 rfl) ?_
            refine lv_icmp_ge (tgt := 93) hx hb dX5_norm_74 (by decide) (fun _ => ?_) (fun h => absurd (by decide) h)
            refine lv_iconst (v := 1) hx hb dX5_norm_93 (by decide) ?_
            have he : z5_norm_6_6 f = (1, vp_updL (vp_updL (vp_updL (vp_updL (vp_updL (vp_updL f 0 ((f 0) / (z5_common (z5_common (z5_common (z5_common (z5_common (z5_common 0 (f 0)) (f 1)) (f 2)) (f 3)) (f 4)) (f 5)))) 1 ((f 1) / (z5_common (z5_common (z5_common (z5_common (z5_common (z5_common 0 (f 0)) (f 1)) (f 2)) (f 3)) (f 4)) (f 5)))) 2 ((f 2) / (z5_common (z5_common (z5_common (z5_common (z5_common (z5_common 0 (f 0)) (f 1)) (f 2)) (f 3)) (f 4)) (f 5)))) 3 ((f 3) / (z5_common (z5_common (z5_common (z5_common (z5_common (z5_common 0 (f 0)) (f 1)) (f 2)) (f 3)) (f 4)) (f 5)))) 4 ((f 4) / (z5_common (z5_common (z5_common (z5_common (z5_common (z5_common 0 (f 0)) (f 1)) (f 2)) (f 3)) (f 4)) (f 5)))) 5 ((f 5) / (z5_common (z5_common (z5_common (z5_common (z5_common (z5_common 0 (f 0)) (f 1)) (f 2)) (f 3)) (f 4)) (f 5)))) := by unfold z5_norm_6_6; rw [if_neg c_1, if_pos c_2, if_pos c_4, if_neg c_6, if_pos c_7]
            have he_0 : (z5_norm_6_6 f).1 = 1 := by rw [he]
            have he_1 : (z5_norm_6_6 f).2 = vp_updL (vp_updL (vp_updL (vp_updL (vp_updL (vp_updL f 0 ((f 0) / (z5_common (z5_common (z5_common (z5_common (z5_common (z5_common 0 (f 0)) (f 1)) (f 2)) (f 3)) (f 4)) (f 5)))) 1 ((f 1) / (z5_common (z5_common (z5_common (z5_common (z5_common (z5_common 0 (f 0)) (f 1)) (f 2)) (f 3)) (f 4)) (f 5)))) 2 ((f 2) / (z5_common (z5_common (z5_common (z5_common (z5_common (z5_common 0 (f 0)) (f 1)) (f 2)) (f 3)) (f 4)) (f 5)))) 3 ((f 3) / (z5_common (z5_common (z5_common (z5_common (z5_common (z5_common 0 (f 0)) (f 1)) (f 2)) (f 3)) (f 4)) (f 5)))) 4 ((f 4) / (z5_common (z5_common (z5_common (z5_common (z5_common (z5_common 0 (f 0)) (f 1)) (f 2)) (f 3)) (f 4)) (f 5)))) 5 ((f 5) / (z5_common (z5_common (z5_common (z5_common (z5_common (z5_common 0 (f 0)) (f 1)) (f 2)) (f 3)) (f 4)) (f 5))) := by rw [he]
            exact rt_z (w1 := fun uu : Unit => [kJ h cJ 6 ((z5_norm_6_6 f).2)]) hx hb hr rfl hlk hS dX5_norm_94 (()) he_0.symm (by rw [he_1]; exact hP) (by rw [he_1]; exact hD)
          · skip
            refine lv_lload_n hx hb dX5_norm_61 rfl (lv_at hl 1 rfl) ?_
            refine lv_lneg hx hb dX5_norm_62 ?_
            refine lv_goto (tgt := 67) hx hb dX5_norm_63 (by decide) ?_
            refine lv_lstore_n (lv' := [(2, .long (-(z5_common (z5_common (z5_common (z5_common (z5_common (z5_common 0 (f 0)) (f 1)) (f 2)) (f 3)) (f 4)) (f 5)))), (4, .int 2), (0, .ref h), (1, .int 6)]) hx hb dX5_norm_67 rfl hl (by decide) rfl (fun ls hl => ?_)
            refine lv_iconst (v := 0) hx hb dX5_norm_68 (by decide) ?_
            refine lv_istore (lv' := [(5, .int 0), (2, .long (-(z5_common (z5_common (z5_common (z5_common (z5_common (z5_common 0 (f 0)) (f 1)) (f 2)) (f 3)) (f 4)) (f 5)))), (4, .int 2), (0, .ref h), (1, .int 6)]) hx hb dX5_norm_69 hl (by decide) rfl (fun ls hl => ?_)
            refine lv_iload hx hb dX5_norm_71 (lv_at hl 0 rfl) ?_
            refine lv_iload_n hx hb dX5_norm_73 rfl (lv_at hl 4 rfl) ?_
            refine lv_icmp_ge (tgt := 93) hx hb dX5_norm_74 (by decide) (fun h => absurd h (by decide)) (fun _ => ?_)
            refine lv_aload_n hx hb dX5_norm_77 rfl (lv_at hl 3 rfl) ?_
            refine lv_iload hx hb dX5_norm_78 (lv_at hl 0 rfl) ?_
            refine lv_aload_n hx hb dX5_norm_80 rfl (lv_at hl 3 rfl) ?_
            refine lv_iload hx hb dX5_norm_81 (lv_at hl 0 rfl) ?_
            refine ld_l hx hb hK.1 hP 0 1 rfl rfl (ix_lit (by decide)) 0 (by decide) (v := f 0) rfl dX5_norm_83 ?_
            refine lv_lload_n hx hb dX5_norm_84 rfl (lv_at hl 1 rfl) ?_
            refine lv_ldiv hx hb dX5_norm_85 (ng_ne c_1) ?_
            refine st_l hx hb hK.1 hP hD hS 0 1 rfl rfl (ix_lit (by decide)) 0 (by decide) dX5_norm_86 (fun H locs hP hD hS => ?_)
            have hP : va_P D vwCl [kJ h cJ 6 (vp_updL f 0 ((f 0) / (-(z5_common (z5_common (z5_common (z5_common (z5_common (z5_common 0 (f 0)) (f 1)) (f 2)) (f 3)) (f 4)) (f 5)))))] H := hP
            have hD : va_D A [kJ h cJ 6 (vp_updL f 0 ((f 0) / (-(z5_common (z5_common (z5_common (z5_common (z5_common (z5_common 0 (f 0)) (f 1)) (f 2)) (f 3)) (f 4)) (f 5)))))] := hD
            refine lv_iinc (v := 1) (lv' := [(5, .int 1), (2, .long (-(z5_common (z5_common (z5_common (z5_common (z5_common (z5_common 0 (f 0)) (f 1)) (f 2)) (f 3)) (f 4)) (f 5)))), (4, .int 2), (0, .ref h), (1, .int 6)]) hx hb dX5_norm_87 hl (k := 0) rfl (by decide) (by decide) rfl (fun ls hl => ?_)
            refine lv_goto (tgt := 71) hx hb dX5_norm_90 (by decide) ?_
            refine lv_iload hx hb dX5_norm_71 (lv_at hl 0 rfl) ?_
            refine lv_iload_n hx hb dX5_norm_73 rfl (lv_at hl 4 rfl) ?_
            refine lv_icmp_ge (tgt := 93) hx hb dX5_norm_74 (by decide) (fun h => absurd h (by decide)) (fun _ => ?_)
            refine lv_aload_n hx hb dX5_norm_77 rfl (lv_at hl 3 rfl) ?_
            refine lv_iload hx hb dX5_norm_78 (lv_at hl 0 rfl) ?_
            refine lv_aload_n hx hb dX5_norm_80 rfl (lv_at hl 3 rfl) ?_
            refine lv_iload hx hb dX5_norm_81 (lv_at hl 0 rfl) ?_
            refine ld_l hx hb hK.1 hP 0 1 rfl rfl (ix_lit (by decide)) 1 (by decide) (v := f 1) rfl dX5_norm_83 ?_
            refine lv_lload_n hx hb dX5_norm_84 rfl (lv_at hl 1 rfl) ?_
            refine lv_ldiv hx hb dX5_norm_85 (ng_ne c_1) ?_
            refine st_l hx hb hK.1 hP hD hS 0 1 rfl rfl (ix_lit (by decide)) 1 (by decide) dX5_norm_86 (fun H locs hP hD hS => ?_)
            have hP : va_P D vwCl [kJ h cJ 6 (vp_updL (vp_updL f 0 ((f 0) / (-(z5_common (z5_common (z5_common (z5_common (z5_common (z5_common 0 (f 0)) (f 1)) (f 2)) (f 3)) (f 4)) (f 5))))) 1 ((f 1) / (-(z5_common (z5_common (z5_common (z5_common (z5_common (z5_common 0 (f 0)) (f 1)) (f 2)) (f 3)) (f 4)) (f 5)))))] H := hP
            have hD : va_D A [kJ h cJ 6 (vp_updL (vp_updL f 0 ((f 0) / (-(z5_common (z5_common (z5_common (z5_common (z5_common (z5_common 0 (f 0)) (f 1)) (f 2)) (f 3)) (f 4)) (f 5))))) 1 ((f 1) / (-(z5_common (z5_common (z5_common (z5_common (z5_common (z5_common 0 (f 0)) (f 1)) (f 2)) (f 3)) (f 4)) (f 5)))))] := hD
            refine lv_iinc (v := 2) (lv' := [(5, .int 2), (2, .long (-(z5_common (z5_common (z5_common (z5_common (z5_common (z5_common 0 (f 0)) (f 1)) (f 2)) (f 3)) (f 4)) (f 5)))), (4, .int 2), (0, .ref h), (1, .int 6)]) hx hb dX5_norm_87 hl (k := 0) rfl (by decide) (by decide) rfl (fun ls hl => ?_)
            refine lv_goto (tgt := 71) hx hb dX5_norm_90 (by decide) ?_
            refine lv_iload hx hb dX5_norm_71 (lv_at hl 0 rfl) ?_
            refine lv_iload_n hx hb dX5_norm_73 rfl (lv_at hl 4 rfl) ?_
            refine lv_icmp_ge (tgt := 93) hx hb dX5_norm_74 (by decide) (fun h => absurd h (by decide)) (fun _ => ?_)
            refine lv_aload_n hx hb dX5_norm_77 rfl (lv_at hl 3 rfl) ?_
            refine lv_iload hx hb dX5_norm_78 (lv_at hl 0 rfl) ?_
            refine lv_aload_n hx hb dX5_norm_80 rfl (lv_at hl 3 rfl) ?_
            refine lv_iload hx hb dX5_norm_81 (lv_at hl 0 rfl) ?_
            refine ld_l hx hb hK.1 hP 0 1 rfl rfl (ix_lit (by decide)) 2 (by decide) (v := f 2) rfl dX5_norm_83 ?_
            refine lv_lload_n hx hb dX5_norm_84 rfl (lv_at hl 1 rfl) ?_
            refine lv_ldiv hx hb dX5_norm_85 (ng_ne c_1) ?_
            refine st_l hx hb hK.1 hP hD hS 0 1 rfl rfl (ix_lit (by decide)) 2 (by decide) dX5_norm_86 (fun H locs hP hD hS => ?_)
            have hP : va_P D vwCl [kJ h cJ 6 (vp_updL (vp_updL (vp_updL f 0 ((f 0) / (-(z5_common (z5_common (z5_common (z5_common (z5_common (z5_common 0 (f 0)) (f 1)) (f 2)) (f 3)) (f 4)) (f 5))))) 1 ((f 1) / (-(z5_common (z5_common (z5_common (z5_common (z5_common (z5_common 0 (f 0)) (f 1)) (f 2)) (f 3)) (f 4)) (f 5))))) 2 ((f 2) / (-(z5_common (z5_common (z5_common (z5_common (z5_common (z5_common 0 (f 0)) (f 1)) (f 2)) (f 3)) (f 4)) (f 5)))))] H := hP
            have hD : va_D A [kJ h cJ 6 (vp_updL (vp_updL (vp_updL f 0 ((f 0) / (-(z5_common (z5_common (z5_common (z5_common (z5_common (z5_common 0 (f 0)) (f 1)) (f 2)) (f 3)) (f 4)) (f 5))))) 1 ((f 1) / (-(z5_common (z5_common (z5_common (z5_common (z5_common (z5_common 0 (f 0)) (f 1)) (f 2)) (f 3)) (f 4)) (f 5))))) 2 ((f 2) / (-(z5_common (z5_common (z5_common (z5_common (z5_common (z5_common 0 (f 0)) (f 1)) (f 2)) (f 3)) (f 4)) (f 5)))))] := hD
            refine lv_iinc (v := 3) (lv' := [(5, .int 3), (2, .long (-(z5_common (z5_common (z5_common (z5_common (z5_common (z5_common 0 (f 0)) (f 1)) (f 2)) (f 3)) (f 4)) (f 5)))), (4, .int 2), (0, .ref h), (1, .int 6)]) hx hb dX5_norm_87 hl (k := 0) rfl (by decide) (by decide) rfl (fun ls hl => ?_)
            refine lv_goto (tgt := 71) hx hb dX5_norm_90 (by decide) ?_
            refine lv_iload hx hb dX5_norm_71 (lv_at hl 0 rfl) ?_
            refine lv_iload_n hx hb dX5_norm_73 rfl (lv_at hl 4 rfl) ?_
            refine lv_icmp_ge (tgt := 93) hx hb dX5_norm_74 (by decide) (fun h => absurd h (by decide)) (fun _ => ?_)
            refine lv_aload_n hx hb dX5_norm_77 rfl (lv_at hl 3 rfl) ?_
            refine lv_iload hx hb dX5_norm_78 (lv_at hl 0 rfl) ?_
            refine lv_aload_n hx hb dX5_norm_80 rfl (lv_at hl 3 rfl) ?_
            refine lv_iload hx hb dX5_norm_81 (lv_at hl 0 rfl) ?_
            refine ld_l hx hb hK.1 hP 0 1 rfl rfl (ix_lit (by decide)) 3 (by decide) (v := f 3) rfl dX5_norm_83 ?_
            refine lv_lload_n hx hb dX5_norm_84 rfl (lv_at hl 1 rfl) ?_
            refine lv_ldiv hx hb dX5_norm_85 (ng_ne c_1) ?_
            refine st_l hx hb hK.1 hP hD hS 0 1 rfl rfl (ix_lit (by decide)) 3 (by decide) dX5_norm_86 (fun H locs hP hD hS => ?_)
            have hP : va_P D vwCl [kJ h cJ 6 (vp_updL (vp_updL (vp_updL (vp_updL f 0 ((f 0) / (-(z5_common (z5_common (z5_common (z5_common (z5_common (z5_common 0 (f 0)) (f 1)) (f 2)) (f 3)) (f 4)) (f 5))))) 1 ((f 1) / (-(z5_common (z5_common (z5_common (z5_common (z5_common (z5_common 0 (f 0)) (f 1)) (f 2)) (f 3)) (f 4)) (f 5))))) 2 ((f 2) / (-(z5_common (z5_common (z5_common (z5_common (z5_common (z5_common 0 (f 0)) (f 1)) (f 2)) (f 3)) (f 4)) (f 5))))) 3 ((f 3) / (-(z5_common (z5_common (z5_common (z5_common (z5_common (z5_common 0 (f 0)) (f 1)) (f 2)) (f 3)) (f 4)) (f 5)))))] H := hP
            have hD : va_D A [kJ h cJ 6 (vp_updL (vp_updL (vp_updL (vp_updL f 0 ((f 0) / (-(z5_common (z5_common (z5_common (z5_common (z5_common (z5_common 0 (f 0)) (f 1)) (f 2)) (f 3)) (f 4)) (f 5))))) 1 ((f 1) / (-(z5_common (z5_common (z5_common (z5_common (z5_common (z5_common 0 (f 0)) (f 1)) (f 2)) (f 3)) (f 4)) (f 5))))) 2 ((f 2) / (-(z5_common (z5_common (z5_common (z5_common (z5_common (z5_common 0 (f 0)) (f 1)) (f 2)) (f 3)) (f 4)) (f 5))))) 3 ((f 3) / (-(z5_common (z5_common (z5_common (z5_common (z5_common (z5_common 0 (f 0)) (f 1)) (f 2)) (f 3)) (f 4)) (f 5)))))] := hD
            refine lv_iinc (v := 4) (lv' := [(5, .int 4), (2, .long (-(z5_common (z5_common (z5_common (z5_common (z5_common (z5_common 0 (f 0)) (f 1)) (f 2)) (f 3)) (f 4)) (f 5)))), (4, .int 2), (0, .ref h), (1, .int 6)]) hx hb dX5_norm_87 hl (k := 0) rfl (by decide) (by decide) rfl (fun ls hl => ?_)
            refine lv_goto (tgt := 71) hx hb dX5_norm_90 (by decide) ?_
            refine lv_iload hx hb dX5_norm_71 (lv_at hl 0 rfl) ?_
            refine lv_iload_n hx hb dX5_norm_73 rfl (lv_at hl 4 rfl) ?_
            refine lv_icmp_ge (tgt := 93) hx hb dX5_norm_74 (by decide) (fun h => absurd h (by decide)) (fun _ => ?_)
            refine lv_aload_n hx hb dX5_norm_77 rfl (lv_at hl 3 rfl) ?_
            refine lv_iload hx hb dX5_norm_78 (lv_at hl 0 rfl) ?_
            refine lv_aload_n hx hb dX5_norm_80 rfl (lv_at hl 3 rfl) ?_
            refine lv_iload hx hb dX5_norm_81 (lv_at hl 0 rfl) ?_
            refine ld_l hx hb hK.1 hP 0 1 rfl rfl (ix_lit (by decide)) 4 (by decide) (v := f 4) rfl dX5_norm_83 ?_
            refine lv_lload_n hx hb dX5_norm_84 rfl (lv_at hl 1 rfl) ?_
            refine lv_ldiv hx hb dX5_norm_85 (ng_ne c_1) ?_
            refine st_l hx hb hK.1 hP hD hS 0 1 rfl rfl (ix_lit (by decide)) 4 (by decide) dX5_norm_86 (fun H locs hP hD hS => ?_)
            have hP : va_P D vwCl [kJ h cJ 6 (vp_updL (vp_updL (vp_updL (vp_updL (vp_updL f 0 ((f 0) / (-(z5_common (z5_common (z5_common (z5_common (z5_common (z5_common 0 (f 0)) (f 1)) (f 2)) (f 3)) (f 4)) (f 5))))) 1 ((f 1) / (-(z5_common (z5_common (z5_common (z5_common (z5_common (z5_common 0 (f 0)) (f 1)) (f 2)) (f 3)) (f 4)) (f 5))))) 2 ((f 2) / (-(z5_common (z5_common (z5_common (z5_common (z5_common (z5_common 0 (f 0)) (f 1)) (f 2)) (f 3)) (f 4)) (f 5))))) 3 ((f 3) / (-(z5_common (z5_common (z5_common (z5_common (z5_common (z5_common 0 (f 0)) (f 1)) (f 2)) (f 3)) (f 4)) (f 5))))) 4 ((f 4) / (-(z5_common (z5_common (z5_common (z5_common (z5_common (z5_common 0 (f 0)) (f 1)) (f 2)) (f 3)) (f 4)) (f 5)))))] H := hP
            have hD : va_D A [kJ h cJ 6 (vp_updL (vp_updL (vp_updL (vp_updL (vp_updL f 0 ((f 0) / (-(z5_common (z5_common (z5_common (z5_common (z5_common (z5_common 0 (f 0)) (f 1)) (f 2)) (f 3)) (f 4)) (f 5))))) 1 ((f 1) / (-(z5_common (z5_common (z5_common (z5_common (z5_common (z5_common 0 (f 0)) (f 1)) (f 2)) (f 3)) (f 4)) (f 5))))) 2 ((f 2) / (-(z5_common (z5_common (z5_common (z5_common (z5_common (z5_common 0 (f 0)) (f 1)) (f 2)) (f 3)) (f 4)) (f 5))))) 3 ((f 3) / (-(z5_common (z5_common (z5_common (z5_common (z5_common (z5_common 0 (f 0)) (f 1)) (f 2)) (f 3)) (f 4)) (f 5))))) 4 ((f 4) / (-(z5_common (z5_common (z5_common (z5_common (z5_common (z5_common 0 (f 0)) (f 1)) (f 2)) (f 3)) (f 4)) (f 5)))))] := hD
            refine lv_iinc (v := 5) (lv' := [(5, .int 5), (2, .long (-(z5_common (z5_common (z5_common (z5_common (z5_common (z5_common 0 (f 0)) (f 1)) (f 2)) (f 3)) (f 4)) (f 5)))), (4, .int 2), (0, .ref h), (1, .int 6)]) hx hb dX5_norm_87 hl (k := 0) rfl (by decide) (by decide) rfl (fun ls hl => ?_)
            refine lv_goto (tgt := 71) hx hb dX5_norm_90 (by decide) ?_
            refine lv_iload hx hb dX5_norm_71 (lv_at hl 0 rfl) ?_
            refine lv_iload_n hx hb dX5_norm_73 rfl (lv_at hl 4 rfl) ?_
            refine lv_icmp_ge (tgt := 93) hx hb dX5_norm_74 (by decide) (fun h => absurd h (by decide)) (fun _ => ?_)
            refine lv_aload_n hx hb dX5_norm_77 rfl (lv_at hl 3 rfl) ?_
            refine lv_iload hx hb dX5_norm_78 (lv_at hl 0 rfl) ?_
            refine lv_aload_n hx hb dX5_norm_80 rfl (lv_at hl 3 rfl) ?_
            refine lv_iload hx hb dX5_norm_81 (lv_at hl 0 rfl) ?_
            refine ld_l hx hb hK.1 hP 0 1 rfl rfl (ix_lit (by decide)) 5 (by decide) (v := f 5) rfl dX5_norm_83 ?_
            refine lv_lload_n hx hb dX5_norm_84 rfl (lv_at hl 1 rfl) ?_
            refine lv_ldiv hx hb dX5_norm_85 (ng_ne c_1) ?_
            refine st_l hx hb hK.1 hP hD hS 0 1 rfl rfl (ix_lit (by decide)) 5 (by decide) dX5_norm_86 (fun H locs hP hD hS => ?_)
            have hP : va_P D vwCl [kJ h cJ 6 (vp_updL (vp_updL (vp_updL (vp_updL (vp_updL (vp_updL f 0 ((f 0) / (-(z5_common (z5_common (z5_common (z5_common (z5_common (z5_common 0 (f 0)) (f 1)) (f 2)) (f 3)) (f 4)) (f 5))))) 1 ((f 1) / (-(z5_common (z5_common (z5_common (z5_common (z5_common (z5_common 0 (f 0)) (f 1)) (f 2)) (f 3)) (f 4)) (f 5))))) 2 ((f 2) / (-(z5_common (z5_common (z5_common (z5_common (z5_common (z5_common 0 (f 0)) (f 1)) (f 2)) (f 3)) (f 4)) (f 5))))) 3 ((f 3) / (-(z5_common (z5_common (z5_common (z5_common (z5_common (z5_common 0 (f 0)) (f 1)) (f 2)) (f 3)) (f 4)) (f 5))))) 4 ((f 4) / (-(z5_common (z5_common (z5_common (z5_common (z5_common (z5_common 0 (f 0)) (f 1)) (f 2)) (f 3)) (f 4)) (f 5))))) 5 ((f 5) / (-(z5_common (z5_common (z5_common (z5_common (z5_common (z5_common 0 (f 0)) (f 1)) (f 2)) (f 3)) (f 4)) (f 5)))))] H := hP
            have hD : va_D A [kJ h cJ 6 (vp_updL (vp_updL (vp_updL (vp_updL (vp_updL (vp_updL f 0 ((f 0) / (-(z5_common (z5_common (z5_common (z5_common (z5_common (z5_common 0 (f 0)) (f 1)) (f 2)) (f 3)) (f 4)) (f 5))))) 1 ((f 1) / (-(z5_common (z5_common (z5_common (z5_common (z5_common (z5_common 0 (f 0)) (f 1)) (f 2)) (f 3)) (f 4)) (f 5))))) 2 ((f 2) / (-(z5_common (z5_common (z5_common (z5_common (z5_common (z5_common 0 (f 0)) (f 1)) (f 2)) (f 3)) (f 4)) (f 5))))) 3 ((f 3) / (-(z5_common (z5_common (z5_common (z5_common (z5_common (z5_common 0 (f 0)) (f 1)) (f 2)) (f 3)) (f 4)) (f 5))))) 4 ((f 4) / (-(z5_common (z5_common (z5_common (z5_common (z5_common (z5_common 0 (f 0)) (f 1)) (f 2)) (f 3)) (f 4)) (f 5))))) 5 ((f 5) / (-(z5_common (z5_common (z5_common (z5_common (z5_common (z5_common 0 (f 0)) (f 1)) (f 2)) (f 3)) (f 4)) (f 5)))))] := hD
            refine lv_iinc (v := 6) (lv' := [(5, .int 6), (2, .long (-(z5_common (z5_common (z5_common (z5_common (z5_common (z5_common 0 (f 0)) (f 1)) (f 2)) (f 3)) (f 4)) (f 5)))), (4, .int 2), (0, .ref h), (1, .int 6)]) hx hb dX5_norm_87 hl (k := 0) rfl (by decide) (by decide) rfl (fun ls hl => ?_)
            refine lv_goto (tgt := 71) hx hb dX5_norm_90 (by decide) ?_
            refine lv_iload hx hb dX5_norm_71 (lv_at hl 0 rfl) ?_
            refine lv_iload_n hx hb dX5_norm_73 rfl (lv_at hl 4 rfl) ?_
            refine lv_icmp_ge (tgt := 93) hx hb dX5_norm_74 (by decide) (fun _ => ?_) (fun h => absurd (by decide) h)
            refine lv_iconst (v := 1) hx hb dX5_norm_93 (by decide) ?_
            have he : z5_norm_6_6 f = (1, vp_updL (vp_updL (vp_updL (vp_updL (vp_updL (vp_updL f 0 ((f 0) / (-(z5_common (z5_common (z5_common (z5_common (z5_common (z5_common 0 (f 0)) (f 1)) (f 2)) (f 3)) (f 4)) (f 5))))) 1 ((f 1) / (-(z5_common (z5_common (z5_common (z5_common (z5_common (z5_common 0 (f 0)) (f 1)) (f 2)) (f 3)) (f 4)) (f 5))))) 2 ((f 2) / (-(z5_common (z5_common (z5_common (z5_common (z5_common (z5_common 0 (f 0)) (f 1)) (f 2)) (f 3)) (f 4)) (f 5))))) 3 ((f 3) / (-(z5_common (z5_common (z5_common (z5_common (z5_common (z5_common 0 (f 0)) (f 1)) (f 2)) (f 3)) (f 4)) (f 5))))) 4 ((f 4) / (-(z5_common (z5_common (z5_common (z5_common (z5_common (z5_common 0 (f 0)) (f 1)) (f 2)) (f 3)) (f 4)) (f 5))))) 5 ((f 5) / (-(z5_common (z5_common (z5_common (z5_common (z5_common (z5_common 0 (f 0)) (f 1)) (f 2)) (f 3)) (f 4)) (f 5))))) := by unfold z5_norm_6_6; rw [if_neg c_1, if_pos c_2, if_pos c_4, if_neg c_6, if_neg c_7]
            have he_0 : (z5_norm_6_6 f).1 = 1 := by rw [he]
            have he_1 : (z5_norm_6_6 f).2 = vp_updL (vp_updL (vp_updL (vp_updL (vp_updL (vp_updL f 0 ((f 0) / (-(z5_common (z5_common (z5_common (z5_common (z5_common (z5_common 0 (f 0)) (f 1)) (f 2)) (f 3)) (f 4)) (f 5))))) 1 ((f 1) / (-(z5_common (z5_common (z5_common (z5_common (z5_common (z5_common 0 (f 0)) (f 1)) (f 2)) (f 3)) (f 4)) (f 5))))) 2 ((f 2) / (-(z5_common (z5_common (z5_common (z5_common (z5_common (z5_common 0 (f 0)) (f 1)) (f 2)) (f 3)) (f 4)) (f 5))))) 3 ((f 3) / (-(z5_common (z5_common (z5_common (z5_common (z5_common (z5_common 0 (f 0)) (f 1)) (f 2)) (f 3)) (f 4)) (f 5))))) 4 ((f 4) / (-(z5_common (z5_common (z5_common (z5_common (z5_common (z5_common 0 (f 0)) (f 1)) (f 2)) (f 3)) (f 4)) (f 5))))) 5 ((f 5) / (-(z5_common (z5_common (z5_common (z5_common (z5_common (z5_common 0 (f 0)) (f 1)) (f 2)) (f 3)) (f 4)) (f 5)))) := by rw [he]
            exact rt_z (w1 := fun uu : Unit => [kJ h cJ 6 ((z5_norm_6_6 f).2)]) hx hb hr rfl hlk hS dX5_norm_94 (()) he_0.symm (by rw [he_1]; exact hP) (by rw [he_1]; exact hD)
        · skip
          refine lv_iinc (v := 3) (lv' := [(4, .int 3), (2, .long (z5_common (z5_common (z5_common (z5_common (z5_common (z5_common 0 (f 0)) (f 1)) (f 2)) (f 3)) (f 4)) (f 5))), (0, .ref h), (1, .int 6)]) hx hb dX5_norm_46 hl (k := 0) rfl (by decide) (by decide) rfl (fun ls hl => ?_)
          refine lv_goto (tgt := 37) hx hb dX5_norm_49 (by decide) ?_
          refine lv_aload_n hx hb dX5_norm_37 rfl (lv_at hl 2 rfl) ?_
          refine lv_iload hx hb dX5_norm_38 (lv_at hl 0 rfl) ?_
          refine ld_l hx hb hK.1 hP 0 1 rfl rfl (ix_lit (by decide)) 3 (by decide) (v := f 3) rfl dX5_norm_40 ?_
          refine lv_lconst (v := 0) hx hb dX5_norm_41 (by decide) ?_
          refine lb_ne (tgt := 52) hx hb dX5_norm_42 rfl dX5_norm_43 (by decide) (fun c_8 => ?_) (fun c_8 => ?_)
          · skip
            refine lv_aload_n hx hb dX5_norm_52 rfl (lv_at hl 2 rfl) ?_
            refine lv_iload hx hb dX5_norm_53 (lv_at hl 0 rfl) ?_
            refine ld_l hx hb hK.1 hP 0 1 rfl rfl (ix_lit (by decide)) 3 (by decide) (v := f 3) rfl dX5_norm_55 ?_
            refine lv_lconst (v := 0) hx hb dX5_norm_56 (by decide) ?_
            refine lb_ge (tgt := 66) hx hb dX5_norm_57 rfl dX5_norm_58 (by decide) (fun c_9 => ?_) (fun c_9 => ?_)
            · skip
              refine lv_lload_n hx hb dX5_norm_66 rfl (lv_at hl 1 rfl) ?_
              refine lv_lstore_n (lv' := [(2, .long (z5_common (z5_common (z5_common (z5_common (z5_common (z5_common 0 (f 0)) (f 1)) (f 2)) (f 3)) (f 4)) (f 5))), (4, .int 3), (0, .ref h), (1, .int 6)]) hx hb dX5_norm_67 rfl hl (by decide) rfl (fun ls hl => ?_)
              refine lv_iconst (v := 0) hx hb dX5_norm_68 (by decide) ?_
              refine lv_istore (lv' := [(5, .int 0), (2, .long (z5_common (z5_common (z5_common (z5_common (z5_common (z5_common 0 (f 0)) (f 1)) (f 2)) (f 3)) (f 4)) (f 5))), (4, .int 3), (0, .ref h), (1, .int 6)]) hx hb dX5_norm_69 hl (by decide) rfl (fun ls hl => ?_)
              refine lv_iload hx hb dX5_norm_71 (lv_at hl 0 rfl) ?_
              refine lv_iload_n hx hb dX5_norm_73 rfl (lv_at hl 4 rfl) ?_
              refine lv_icmp_ge (tgt := 93) hx hb dX5_norm_74 (by decide) (fun h => absurd h (by decide)) (fun _ => ?_)
              refine lv_aload_n hx hb dX5_norm_77 rfl (lv_at hl 3 rfl) ?_
              refine lv_iload hx hb dX5_norm_78 (lv_at hl 0 rfl) ?_
              refine lv_aload_n hx hb dX5_norm_80 rfl (lv_at hl 3 rfl) ?_
              refine lv_iload hx hb dX5_norm_81 (lv_at hl 0 rfl) ?_
              refine ld_l hx hb hK.1 hP 0 1 rfl rfl (ix_lit (by decide)) 0 (by decide) (v := f 0) rfl dX5_norm_83 ?_
              refine lv_lload_n hx hb dX5_norm_84 rfl (lv_at hl 1 rfl) ?_
              refine lv_ldiv hx hb dX5_norm_85 c_1 ?_
              refine st_l hx hb hK.1 hP hD hS 0 1 rfl rfl (ix_lit (by decide)) 0 (by decide) dX5_norm_86 (fun H locs hP hD hS => ?_)
              have hP : va_P D vwCl [kJ h cJ 6 (vp_updL f 0 ((f 0) / (z5_common (z5_common (z5_common (z5_common (z5_common (z5_common 0 (f 0)) (f 1)) (f 2)) (f 3)) (f 4)) (f 5))))] H := hP
              have hD : va_D A [kJ h cJ 6 (vp_updL f 0 ((f 0) / (z5_common (z5_common (z5_common (z5_common (z5_common (z5_common 0 (f 0)) (f 1)) (f 2)) (f 3)) (f 4)) (f 5))))] := hD
              refine lv_iinc (v := 1) (lv' := [(5, .int 1), (2, .long (z5_common (z5_common (z5_common (z5_common (z5_common (z5_common 0 (f 0)) (f 1)) (f 2)) (f 3)) (f 4)) (f 5))), (4, .int 3), (0, .ref h), (1, .int 6)]) hx hb dX5_norm_87 hl (k := 0) rfl (by decide) (by decide) rfl (fun ls hl => ?_)
              refine lv_goto (tgt := 71) hx hb dX5_norm_90 (by decide) ?_
              refine lv_iload hx hb dX5_norm_71 (lv_at hl 0 rfl) ?_
              refine lv_iload_n hx hb dX5_norm_73 rfl (lv_at hl 4 rfl) ?_
              refine lv_icmp_ge (tgt := 93) hx hb dX5_norm_74 (by decide) (fun h => absurd h (by decide)) (fun _ => ?_)
              refine lv_aload_n hx hb dX5_norm_77 rfl (lv_at hl 3 rfl) ?_
              refine lv_iload hx hb dX5_norm_78 (lv_at hl 0 rfl) ?_
              refine lv_aload_n hx hb dX5_norm_80 rfl (lv_at hl 3 rfl) ?_
              refine lv_iload hx hb dX5_norm_81 (lv_at hl 0 rfl) ?_
              refine ld_l hx hb hK.1 hP 0 1 rfl rfl (ix_lit (by decide)) 1 (by decide) (v := f 1) rfl dX5_norm_83 ?_
              refine lv_lload_n hx hb dX5_norm_84 rfl (lv_at hl 1 rfl) ?_
              refine lv_ldiv hx hb dX5_norm_85 c_1 ?_
              refine st_l hx hb hK.1 hP hD hS 0 1 rfl rfl (ix_lit (by decide)) 1 (by decide) dX5_norm_86 (fun H locs hP hD hS => ?_)
              have hP : va_P D vwCl [kJ h cJ 6 (vp_updL (vp_updL f 0 ((f 0) / (z5_common (z5_common (z5_common (z5_common (z5_common (z5_common 0 (f 0)) (f 1)) (f 2)) (f 3)) (f 4)) (f 5)))) 1 ((f 1) / (z5_common (z5_common (z5_common (z5_common (z5_common (z5_common 0 (f 0)) (f 1)) (f 2)) (f 3)) (f 4)) (f 5))))] H := hP
              have hD : va_D A [kJ h cJ 6 (vp_updL (vp_updL f 0 ((f 0) / (z5_common (z5_common (z5_common (z5_common (z5_common (z5_common 0 (f 0)) (f 1)) (f 2)) (f 3)) (f 4)) (f 5)))) 1 ((f 1) / (z5_common (z5_common (z5_common (z5_common (z5_common (z5_common 0 (f 0)) (f 1)) (f 2)) (f 3)) (f 4)) (f 5))))] := hD
              refine lv_iinc (v := 2) (lv' := [(5, .int 2), (2, .long (z5_common (z5_common (z5_common (z5_common (z5_common (z5_common 0 (f 0)) (f 1)) (f 2)) (f 3)) (f 4)) (f 5))), (4, .int 3), (0, .ref h), (1, .int 6)]) hx hb dX5_norm_87 hl (k := 0) rfl (by decide) (by decide) rfl (fun ls hl => ?_)
              refine lv_goto (tgt := 71) hx hb dX5_norm_90 (by decide) ?_
              refine lv_iload hx hb dX5_norm_71 (lv_at hl 0 rfl) ?_
              refine lv_iload_n hx hb dX5_norm_73 rfl (lv_at hl 4 rfl) ?_
              refine lv_icmp_ge (tgt := 93) hx hb dX5_norm_74 (by decide) (fun h => absurd h (by decide)) (fun _ => ?_)
              refine lv_aload_n hx hb dX5_norm_77 rfl (lv_at hl 3 rfl) ?_
              refine lv_iload hx hb dX5_norm_78 (lv_at hl 0 rfl) ?_
              refine lv_aload_n hx hb dX5_norm_80 rfl (lv_at hl 3 rfl) ?_
              refine lv_iload hx hb dX5_norm_81 (lv_at hl 0 rfl) ?_
              refine ld_l hx hb hK.1 hP 0 1 rfl rfl (ix_lit (by decide)) 2 (by decide) (v := f 2) rfl dX5_norm_83 ?_
              refine lv_lload_n hx hb dX5_norm_84 rfl (lv_at hl 1 rfl) ?_
              refine lv_ldiv hx hb dX5_norm_85 c_1 ?_
              refine st_l hx hb hK.1 hP hD hS 0 1 rfl rfl (ix_lit (by decide)) 2 (by decide) dX5_norm_86 (fun H locs hP hD hS => ?_)
              have hP : va_P D vwCl [kJ h cJ 6 (vp_updL (vp_updL (vp_updL f 0 ((f 0) / (z5_common (z5_common (z5_common (z5_common (z5_common (z5_common 0 (f 0)) (f 1)) (f 2)) (f 3)) (f 4)) (f 5)))) 1 ((f 1) / (z5_common (z5_common (z5_common (z5_common (z5_common (z5_common 0 (f 0)) (f 1)) (f 2)) (f 3)) (f 4)) (f 5)))) 2 ((f 2) / (z5_common (z5_common (z5_common (z5_common (z5_common (z5_common 0 (f 0)) (f 1)) (f 2)) (f 3)) (f 4)) (f 5))))] H := hP
              have hD : va_D A [kJ h cJ 6 (vp_updL (vp_updL (vp_updL f 0 ((f 0) / (z5_common (z5_common (z5_common (z5_common (z5_common (z5_common 0 (f 0)) (f 1)) (f 2)) (f 3)) (f 4)) (f 5)))) 1 ((f 1) / (z5_common (z5_common (z5_common (z5_common (z5_common (z5_common 0 (f 0)) (f 1)) (f 2)) (f 3)) (f 4)) (f 5)))) 2 ((f 2) / (z5_common (z5_common (z5_common (z5_common (z5_common (z5_common 0 (f 0)) (f 1)) (f 2)) (f 3)) (f 4)) (f 5))))] := hD
              refine lv_iinc (v := 3) (lv' := [(5, .int 3), (2, .long (z5_common (z5_common (z5_common (z5_common (z5_common (z5_common 0 (f 0)) (f 1)) (f 2)) (f 3)) (f 4)) (f 5))), (4, .int 3), (0, .ref h), (1, .int 6)]) hx hb dX5_norm_87 hl (k := 0) rfl (by decide) (by decide) rfl (fun ls hl => ?_)
              refine lv_goto (tgt := 71) hx hb dX5_norm_90 (by decide) ?_
              refine lv_iload hx hb dX5_norm_71 (lv_at hl 0 rfl) ?_
              refine lv_iload_n hx hb dX5_norm_73 rfl (lv_at hl 4 rfl) ?_
              refine lv_icmp_ge (tgt := 93) hx hb dX5_norm_74 (by decide) (fun h => absurd h (by decide)) (fun _ => ?_)
              refine lv_aload_n hx hb dX5_norm_77 rfl (lv_at hl 3 rfl) ?_
              refine lv_iload hx hb dX5_norm_78 (lv_at hl 0 rfl) ?_
              refine lv_aload_n hx hb dX5_norm_80 rfl (lv_at hl 3 rfl) ?_
              refine lv_iload hx hb dX5_norm_81 (lv_at hl 0 rfl) ?_
              refine ld_l hx hb hK.1 hP 0 1 rfl rfl (ix_lit (by decide)) 3 (by decide) (v := f 3) rfl dX5_norm_83 ?_
              refine lv_lload_n hx hb dX5_norm_84 rfl (lv_at hl 1 rfl) ?_
              refine lv_ldiv hx hb dX5_norm_85 c_1 ?_
              refine st_l hx hb hK.1 hP hD hS 0 1 rfl rfl (ix_lit (by decide)) 3 (by decide) dX5_norm_86 (fun H locs hP hD hS => ?_)
              have hP : va_P D vwCl [kJ h cJ 6 (vp_updL (vp_updL (vp_updL (vp_updL f 0 ((f 0) / (z5_common (z5_common (z5_common (z5_common (z5_common (z5_common 0 (f 0)) (f 1)) (f 2)) (f 3)) (f 4)) (f 5)))) 1 ((f 1) / (z5_common (z5_common (z5_common (z5_common (z5_common (z5_common 0 (f 0)) (f 1)) (f 2)) (f 3)) (f 4)) (f 5)))) 2 ((f 2) / (z5_common (z5_common (z5_common (z5_common (z5_common (z5_common 0 (f 0)) (f 1)) (f 2)) (f 3)) (f 4)) (f 5)))) 3 ((f 3) / (z5_common (z5_common (z5_common (z5_common (z5_common (z5_common 0 (f 0)) (f 1)) (f 2)) (f 3)) (f 4)) (f 5))))] H := hP
              have hD : va_D A [kJ h cJ 6 (vp_updL (vp_updL (vp_updL (vp_updL f 0 ((f 0) / (z5_common (z5_common (z5_common (z5_common (z5_common (z5_common 0 (f 0)) (f 1)) (f 2)) (f 3)) (f 4)) (f 5)))) 1 ((f 1) / (z5_common (z5_common (z5_common (z5_common (z5_common (z5_common 0 (f 0)) (f 1)) (f 2)) (f 3)) (f 4)) (f 5)))) 2 ((f 2) / (z5_common (z5_common (z5_common (z5_common (z5_common (z5_common 0 (f 0)) (f 1)) (f 2)) (f 3)) (f 4)) (f 5)))) 3 ((f 3) / (z5_common (z5_common (z5_common (z5_common (z5_common (z5_common 0 (f 0)) (f 1)) (f 2)) (f 3)) (f 4)) (f 5))))] := hD
              refine lv_iinc (v := 4) (lv' := [(5, .int 4), (2, .long (z5_common (z5_common (z5_common (z5_common (z5_common (z5_common 0 (f 0)) (f 1)) (f 2)) (f 3)) (f 4)) (f 5))), (4, .int 3), (0, .ref h), (1, .int 6)]) hx hb dX5_norm_87 hl (k := 0) rfl (by decide) (by decide) rfl (fun ls hl => ?_)
              refine lv_goto (tgt := 71) hx hb dX5_norm_90 (by decide) ?_
              refine lv_iload hx hb dX5_norm_71 (lv_at hl 0 rfl) ?_
              refine lv_iload_n hx hb dX5_norm_73 rfl (lv_at hl 4 rfl) ?_
              refine lv_icmp_ge (tgt := 93) hx hb dX5_norm_74 (by decide) (fun h => absurd h (by decide)) (fun _ => ?_)
              refine lv_aload_n hx hb dX5_norm_77 rfl (lv_at hl 3 rfl) ?_
              refine lv_iload hx hb dX5_norm_78 (lv_at hl 0 rfl) ?_
              refine lv_aload_n hx hb dX5_norm_80 rfl (lv_at hl 3 rfl) ?_
              refine lv_iload hx hb dX5_norm_81 (lv_at hl 0 rfl) ?_
              refine ld_l hx hb hK.1 hP 0 1 rfl rfl (ix_lit (by decide)) 4 (by decide) (v := f 4) rfl dX5_norm_83 ?_
              refine lv_lload_n hx hb dX5_norm_84 rfl (lv_at hl 1 rfl) ?_
              refine lv_ldiv hx hb dX5_norm_85 c_1 ?_
              refine st_l hx hb hK.1 hP hD hS 0 1 rfl rfl (ix_lit (by decide)) 4 (by decide) dX5_norm_86 (fun H locs hP hD hS => ?_)
              have hP : va_P D vwCl [kJ h cJ 6 (vp_updL (vp_updL (vp_updL (vp_updL (vp_updL f 0 ((f 0) / (z5_common (z5_common (z5_common (z5_common (z5_common (z5_common 0 (f 0)) (f 1)) (f 2)) (f 3)) (f 4)) (f 5)))) 1 ((f 1) / (z5_common (z5_common (z5_common (z5_common (z5_common (z5_common 0 (f 0)) (f 1)) (f 2)) (f 3)) (f 4)) (f 5)))) 2 ((f 2) / (z5_common (z5_common (z5_common (z5_common (z5_common (z5_common 0 (f 0)) (f 1)) (f 2)) (f 3)) (f 4)) (f 5)))) 3 ((f 3) / (z5_common (z5_common (z5_common (z5_common (z5_common (z5_common 0 (f 0)) (f 1)) (f 2)) (f 3)) (f 4)) (f 5)))) 4 ((f 4) / (z5_common (z5_common (z5_common (z5_common (z5_common (z5_common 0 (f 0)) (f 1)) (f 2)) (f 3)) (f 4)) (f 5))))] H := hP
              have hD : va_D A [kJ h cJ 6 (vp_updL (vp_updL (vp_updL (vp_updL (vp_updL f 0 ((f 0) / (z5_common (z5_common (z5_common (z5_common (z5_common (z5_common 0 (f 0)) (f 1)) (f 2)) (f 3)) (f 4)) (f 5)))) 1 ((f 1) / (z5_common (z5_common (z5_common (z5_common (z5_common (z5_common 0 (f 0)) (f 1)) (f 2)) (f 3)) (f 4)) (f 5)))) 2 ((f 2) / (z5_common (z5_common (z5_common (z5_common (z5_common (z5_common 0 (f 0)) (f 1)) (f 2)) (f 3)) (f 4)) (f 5)))) 3 ((f 3) / (z5_common (z5_common (z5_common (z5_common (z5_common (z5_common 0 (f 0)) (f 1)) (f 2)) (f 3)) (f 4)) (f 5)))) 4 ((f 4) / (z5_common (z5_common (z5_common (z5_common (z5_common (z5_common 0 (f 0)) (f 1)) (f 2)) (f 3)) (f 4)) (f 5))))] := hD
              refine lv_iinc (v := 5) (lv' := [(5, .int 5), (2, .long (z5_common (z5_common (z5_common (z5_common (z5_common (z5_common 0 (f 0)) (f 1)) (f 2)) (f 3)) (f 4)) (f 5))), (4, .int 3), (0, .ref h), (1, .int 6)]) hx hb dX5_norm_87 hl (k := 0) rfl (by decide) (by decide) rfl (fun ls hl => ?_)
              refine lv_goto (tgt := 71) hx hb dX5_norm_90 (by decide) ?_
              refine lv_iload hx hb dX5_norm_71 (lv_at hl 0 rfl) ?_
              refine lv_iload_n hx hb dX5_norm_73 rfl (lv_at hl 4 rfl) ?_
              refine lv_icmp_ge (tgt := 93) hx hb dX5_norm_74 (by decide) (fun h => absurd h (by decide)) (fun _ => ?_)
              refine lv_aload_n hx hb dX5_norm_77 rfl (lv_at hl 3 rfl) ?_
              refine lv_iload hx hb dX5_norm_78 (lv_at hl 0 rfl) ?_
              refine lv_aload_n hx hb dX5_norm_80 rfl (lv_at hl 3 rfl) ?_
              refine lv_iload hx hb dX5_norm_81 (lv_at hl 0 rfl) ?_
              refine ld_l hx hb hK.1 hP 0 1 rfl rfl (ix_lit (by decide)) 5 (by decide) (v := f 5) rfl dX5_norm_83 ?_
              refine lv_lload_n hx hb dX5_norm_84 rfl (lv_at hl 1 rfl) ?_
              refine lv_ldiv hx hb dX5_norm_85 c_1 ?_
              refine st_l hx hb hK.1 hP hD hS 0 1 rfl rfl (ix_lit (by decide)) 5 (by decide) dX5_norm_86 (fun H locs hP hD hS => ?_)
              have hP : va_P D vwCl [kJ h cJ 6 (vp_updL (vp_updL (vp_updL (vp_updL (vp_updL (vp_updL f 0 ((f 0) / (z5_common (z5_common (z5_common (z5_common (z5_common (z5_common 0 (f 0)) (f 1)) (f 2)) (f 3)) (f 4)) (f 5)))) 1 ((f 1) / (z5_common (z5_common (z5_common (z5_common (z5_common (z5_common 0 (f 0)) (f 1)) (f 2)) (f 3)) (f 4)) (f 5)))) 2 ((f 2) / (z5_common (z5_common (z5_common (z5_common (z5_common (z5_common 0 (f 0)) (f 1)) (f 2)) (f 3)) (f 4)) (f 5)))) 3 ((f 3) / (z5_common (z5_common (z5_common (z5_common (z5_common (z5_common 0 (f 0)) (f 1)) (f 2)) (f 3)) (f 4)) (f 5)))) 4 ((f 4) / (z5_common (z5_common (z5_common (z5_common (z5_common (z5_common 0 (f 0)) (f 1)) (f 2)) (f 3)) (f 4)) (f 5)))) 5 ((f 5) / (z5_common (z5_common (z5_common (z5_common (z5_common (z5_common 0 (f 0)) (f 1)) (f 2)) (f 3)) (f 4)) (f 5))))] H := hP
              have hD : va_D A [kJ h cJ 6 (vp_updL (vp_updL (vp_updL (vp_updL (vp_updL (vp_updL f 0 ((f 0) / (z5_common (z5_common (z5_common (z5_common (z5_common (z5_common 0 (f 0)) (f 1)) (f 2)) (f 3)) (f 4)) (f 5)))) 1 ((f 1) / (z5_common (z5_common (z5_common (z5_common (z5_common (z5_common 0 (f 0)) (f 1)) (f 2)) (f 3)) (f 4)) (f 5)))) 2 ((f 2) / (z5_common (z5_common (z5_common (z5_common (z5_common (z5_common 0 (f 0)) (f 1)) (f 2)) (f 3)) (f 4)) (f 5)))) 3 ((f 3) / (z5_common (z5_common (z5_common (z5_common (z5_common (z5_common 0 (f 0)) (f 1)) (f 2)) (f 3)) (f 4)) (f 5)))) 4 ((f 4) / (z5_common (z5_common (z5_common (z5_common (z5_common (z5_common 0 (f 0)) (f 1)) (f 2)) (f 3)) (f 4)) (f 5)))) 5 ((f 5) / (z5_common (z5_common (z5_common (z5_common (z5_common (z5_common 0 (f 0)) (f 1)) (f 2)) (f 3)) (f 4)) (f 5))))] := hD
              refine lv_iinc (v := 6) (lv' := [(5, .int 6), (2, .long (z5_common (z5_common (z5_common (z5_common (z5_common (z5_common 0 (f 0)) (f 1)) (f 2)) (f 3)) (f 4)) (f 5))), (4, .int 3), (0, .ref h), (1, .int 6)]) hx hb dX5_norm_87 hl (k := 0) rfl (by decide) (by decide) rfl (fun ls hl => ?_)
              refine lv_goto (tgt := 71) hx hb dX5_norm_90 (by decide) ?_
              refine lv_iload hx hb dX5_norm_71 (lv_at hl 0 rfl) ?_
              refine lv_iload_n hx hb dX5_norm_73 rfl (lv_at hl 4 rfl) ?_
              refine lv_icmp_ge (tgt := 93) hx hb dX5_norm_74 (by decide) (fun _ => ?_) (fun h => absurd (by decide) h)
              refine lv_iconst (v := 1) hx hb dX5_norm_93 (by decide) ?_
              have he : z5_norm_6_6 f = (1, vp_updL (vp_updL (vp_updL (vp_updL (vp_updL (vp_updL f 0 ((f 0) / (z5_common (z5_common (z5_common (z5_common (z5_common (z5_common 0 (f 0)) (f 1)) (f 2)) (f 3)) (f 4)) (f 5)))) 1 ((f 1) / (z5_common (z5_common (z5_common (z5_common (z5_common (z5_common 0 (f 0)) (f 1)) (f 2)) (f 3)) (f 4)) (f 5)))) 2 ((f 2) / (z5_common (z5_common (z5_common (z5_common (z5_common (z5_common 0 (f 0)) (f 1)) (f 2)) (f 3)) (f 4)) (f 5)))) 3 ((f 3) / (z5_common (z5_common (z5_common (z5_common (z5_common (z5_common 0 (f 0)) (f 1)) (f 2)) (f 3)) (f 4)) (f 5)))) 4 ((f 4) / (z5_common (z5_common (z5_common (z5_common (z5_common (z5_common 0 (f 0)) (f 1)) (f 2)) (f 3)) (f 4)) (f 5)))) 5 ((f 5) / (z5_common (z5_common (z5_common (z5_common (z5_common (z5_common 0 (f 0)) (f 1)) (f 2)) (f 3)) (f 4)) (f 5)))) := by unfold z5_norm_6_6; rw [if_neg c_1, if_pos c_2, if_pos c_4, if_pos c_6, if_neg c_8, if_pos c_9]
              have he_0 : (z5_norm_6_6 f).1 = 1 := by rw [he]
              have he_1 : (z5_norm_6_6 f).2 = vp_updL (vp_updL (vp_updL (vp_updL (vp_updL (vp_updL f 0 ((f 0) / (z5_common (z5_common (z5_common (z5_common (z5_common (z5_common 0 (f 0)) (f 1)) (f 2)) (f 3)) (f 4)) (f 5)))) 1 ((f 1) / (z5_common (z5_common (z5_common (z5_common (z5_common (z5_common 0 (f 0)) (f 1)) (f 2)) (f 3)) (f 4)) (f 5)))) 2 ((f 2) / (z5_common (z5_common (z5_common (z5_common (z5_common (z5_common 0 (f 0)) (f 1)) (f 2)) (f 3)) (f 4)) (f 5)))) 3 ((f 3) / (z5_common (z5_common (z5_common (z5_common (z5_common (z5_common 0 (f 0)) (f 1)) (f 2)) (f 3)) (f 4)) (f 5)))) 4 ((f 4) / (z5_common (z5_common (z5_common (z5_common (z5_common (z5_common 0 (f 0)) (f 1)) (f 2)) (f 3)) (f 4)) (f 5)))) 5 ((f 5) / (z5_common (z5_common (z5_common (z5_common (z5_common (z5_common 0 (f 0)) (f 1)) (f 2)) (f 3)) (f 4)) (f 5))) := by rw [he]
              exact rt_z (w1 := fun uu : Unit => [kJ h cJ 6 ((z5_norm_6_6 f).2)]) hx hb hr rfl hlk hS dX5_norm_94 (()) he_0.symm (by rw [he_1]; exact hP) (by rw [he_1]; exact hD)
            · skip
              refine lv_lload_n hx hb dX5_norm_61 rfl (lv_at hl 1 rfl) ?_
              refine lv_lneg hx hb dX5_norm_62 ?_
              refine lv_goto (tgt := 67) hx hb dX5_norm_63 (by decide) ?_
              refine lv_lstore_n (lv' := [(2, .long (-(z5_common (z5_common (z5_common (z5_common (z5_common (z5_common 0 (f 0)) (f 1)) (f 2)) (f 3)) (f 4)) (f 5)))), (4, .int 3), (0, .ref h), (1, .int 6)]) hx hb dX5_norm_67 rfl hl (by decide) rfl (fun ls hl => ?_)
              refine lv_iconst (v := 0) hx hb dX5_norm_68 (by decide) ?_
              refine lv_istore (lv' := [(5, .int 0), (2, .long (-(z5_common (z5_common (z5_common (z5_common (z5_common (z5_common 0 (f 0)) (f 1)) (f 2)) (f 3)) (f 4)) (f 5)))), (4, .int 3), (0, .ref h), (1, .int 6)]) hx hb dX5_norm_69 hl (by decide) rfl (fun ls hl => ?_)
              refine lv_iload hx hb dX5_norm_71 (lv_at hl 0 rfl) ?_
              refine lv_iload_n hx hb dX5_norm_73 rfl (lv_at hl 4 rfl) ?_
              refine lv_icmp_ge (tgt := 93) hx hb dX5_norm_74 (by decide) (fun h => absurd h (by decide)) (fun _ => ?_)
              refine lv_aload_n hx hb dX5_norm_77 rfl (lv_at hl 3 rfl) ?_
              refine lv_iload hx hb dX5_norm_78 (lv_at hl 0 rfl) ?_
              refine lv_aload_n hx hb dX5_norm_80 rfl (lv_at hl 3 rfl) ?_
              refine lv_iload hx hb dX5_norm_81 (lv_at hl 0 rfl) ?_
              refine ld_l hx hb hK.1 hP 0 1 rfl rfl (ix_lit (by decide)) 0 (by decide) (v := f 0) rfl dX5_norm_83 ?_
              refine lv_lload_n hx hb dX5_norm_84 rfl (lv_at hl 1 rfl) ?_
              refine lv_ldiv hx hb dX5_norm_85 (ng_ne c_1) ?_
              refine st_l hx hb hK.1 hP hD hS 0 1 rfl rfl (ix_lit (by decide)) 0 (by decide) dX5_norm_86 (fun H locs hP hD hS => ?_)
              have hP : va_P D vwCl [kJ h cJ 6 (vp_updL f 0 ((f 0) / (-(z5_common (z5_common (z5_common (z5_common (z5_common (z5_common 0 (f 0)) (f 1)) (f 2)) (f 3)) (f 4)) (f 5)))))] H := hP
              have hD : va_D A [kJ h cJ 6 (vp_updL f 0 ((f 0) / (-(z5_common (z5_common (z5_common (z5_common (z5_common (z5_common 0 (f 0)) (f 1)) (f 2)) (f 3)) (f 4)) (f 5)))))] := hD
              refine lv_iinc (v := 1) (lv' := [(5, .int 1), (2, .long (-(z5_common (z5_common (z5_common (z5_common (z5_common (z5_common 0 (f 0)) (f 1)) (f 2)) (f 3)) (f 4)) (f 5)))), (4, .int 3), (0, .ref h), (1, .int 6)]) hx hb dX5_norm_87 hl (k := 0) rfl (by decide) (by decide) rfl (fun ls hl => ?_)
              refine lv_goto (tgt := 71) hx hb dX5_norm_90 (by decide) ?_
              refine lv_iload hx hb dX5_norm_71 (lv_at hl 0 rfl) ?_
              refine lv_iload_n hx hb dX5_norm_73 rfl (lv_at hl 4 rfl) ?_
              refine lv_icmp_ge (tgt := 93) hx hb dX5_norm_74 (by decide) (fun h => absurd h (by decide)) (fun _ => ?_)
              refine lv_aload_n hx hb dX5_norm_77 rfl (lv_at hl 3 rfl) ?_
              refine lv_iload hx hb dX5_norm_78 (lv_at hl 0 rfl) ?_
              refine lv_aload_n hx hb dX5_norm_80 rfl (lv_at hl 3 rfl) ?_
              refine lv_iload hx hb dX5_norm_81 (lv_at hl 0 rfl) ?_
              refine ld_l hx hb hK.1 hP 0 1 rfl rfl (ix_lit (by decide)) 1 (by decide) (v := f 1) rfl dX5_norm_83 ?_
              refine lv_lload_n hx hb dX5_norm_84 rfl (lv_at hl 1 rfl) ?_
              refine lv_ldiv hx hb dX5_norm_85 (ng_ne c_1) ?_
              refine st_l hx hb hK.1 hP hD hS 0 1 rfl rfl (ix_lit (by decide)) 1 (by decide) dX5_norm_86 (fun H locs hP hD hS => ?_)
              have hP : va_P D vwCl [kJ h cJ 6 (vp_updL (vp_updL f 0 ((f 0) / (-(z5_common (z5_common (z5_common (z5_common (z5_common (z5_common 0 (f 0)) (f 1)) (f 2)) (f 3)) (f 4)) (f 5))))) 1 ((f 1) / (-(z5_common (z5_common (z5_common (z5_common (z5_common (z5_common 0 (f 0)) (f 1)) (f 2)) (f 3)) (f 4)) (f 5)))))] H := hP
              have hD : va_D A [kJ h cJ 6 (vp_updL (vp_updL f 0 ((f 0) / (-(z5_common (z5_common (z5_common (z5_common (z5_common (z5_common 0 (f 0)) (f 1)) (f 2)) (f 3)) (f 4)) (f 5))))) 1 ((f 1) / (-(z5_common (z5_common (z5_common (z5_common (z5_common (z5_common 0 (f 0)) (f 1)) (f 2)) (f 3)) (f 4)) (f 5)))))] := hD
              refine lv_iinc (v := 2) (lv' := [(5, .int 2), (2, .long (-(z5_common (z5_common (z5_common (z5_common (z5_common (z5_common 0 (f 0)) (f 1)) (f 2)) (f 3)) (f 4)) (f 5)))), (4, .int 3), (0, .ref h), (1, .int 6)]) hx hb dX5_norm_87 hl (k := 0) rfl (by decide) (by decide) rfl (fun ls hl => ?_)
              refine lv_goto (tgt := 71) hx hb dX5_norm_90 (by decide) ?_
              refine lv_iload hx hb dX5_norm_71 (lv_at hl 0 rfl) ?_
              refine lv_iload_n hx hb dX5_norm_73 rfl (lv_at hl 4 rfl) ?_
              refine lv_icmp_ge (tgt := 93) hx hb dX5_norm_74 (by decide) (fun h => absurd h (by decide)) (fun _ => ?_)
              refine lv_aload_n hx hb dX5_norm_77 rfl (lv_at hl 3 rfl) ?_
              refine lv_iload hx hb dX5_norm_78 (lv_at hl 0 rfl) ?_
              refine lv_aload_n hx hb dX5_norm_80 rfl (lv_at hl 3 rfl) ?_
              refine lv_iload hx hb dX5_norm_81 (lv_at hl 0 rfl) ?_
              refine ld_l hx hb hK.1 hP 0 1 rfl rfl (ix_lit (by decide)) 2 (by decide) (v := f 2) rfl dX5_norm_83 ?_
              refine lv_lload_n hx hb dX5_norm_84 rfl (lv_at hl 1 rfl) ?_
              refine lv_ldiv hx hb dX5_norm_85 (ng_ne c_1) ?_
              refine st_l hx hb hK.1 hP hD hS 0 1 rfl rfl (ix_lit (by decide)) 2 (by decide) dX5_norm_86 (fun H locs hP hD hS => ?_)
              have hP : va_P D vwCl [kJ h cJ 6 (vp_updL (vp_updL (vp_updL f 0 ((f 0) / (-(z5_common (z5_common (z5_common (z5_common (z5_common (z5_common 0 (f 0)) (f 1)) (f 2)) (f 3)) (f 4)) (f 5))))) 1 ((f 1) / (-(z5_common (z5_common (z5_common (z5_common (z5_common (z5_common 0 (f 0)) (f 1)) (f 2)) (f 3)) (f 4)) (f 5))))) 2 ((f 2) / (-(z5_common (z5_common (z5_common (z5_common (z5_common (z5_common 0 (f 0)) (f 1)) (f 2)) (f 3)) (f 4)) (f 5)))))] H := hP
              have hD : va_D A [kJ h cJ 6 (vp_updL (vp_updL (vp_updL f 0 ((f 0) / (-(z5_common (z5_common (z5_common (z5_common (z5_common (z5_common 0 (f 0)) (f 1)) (f 2)) (f 3)) (f 4)) (f 5))))) 1 ((f 1) / (-(z5_common (z5_common (z5_common (z5_common (z5_common (z5_common 0 (f 0)) (f 1)) (f 2)) (f 3)) (f 4)) (f 5))))) 2 ((f 2) / (-(z5_common (z5_common (z5_common (z5_common (z5_common (z5_common 0 (f 0)) (f 1)) (f 2)) (f 3)) (f 4)) (f 5)))))] := hD
              refine lv_iinc (v := 3) (lv' := [(5, .int 3), (2, .long (-(z5_common (z5_common (z5_common (z5_common (z5_common (z5_common 0 (f 0)) (f 1)) (f 2)) (f 3)) (f 4)) (f 5)))), (4, .int 3), (0, .ref h), (1, .int 6)]) hx hb dX5_norm_87 hl (k := 0) rfl (by decide) (by decide) rfl (fun ls hl => ?_)
              refine lv_goto (tgt := 71) hx hb dX5_norm_90 (by decide) ?_
              refine lv_iload hx hb dX5_norm_71 (lv_at hl 0 rfl) ?_
              refine lv_iload_n hx hb dX5_norm_73 rfl (lv_at hl 4 rfl) ?_
              refine lv_icmp_ge (tgt := 93) hx hb dX5_norm_74 (by decide) (fun h => absurd h (by decide)) (fun _ => ?_)
              refine lv_aload_n hx hb dX5_norm_77 rfl (lv_at hl 3 rfl) ?_
              refine lv_iload hx hb dX5_norm_78 (lv_at hl 0 rfl) ?_
              refine lv_aload_n hx hb dX5_norm_80 rfl (lv_at hl 3 rfl) ?_
              refine lv_iload hx hb dX5_norm_81 (lv_at hl 0 rfl) ?_
              refine ld_l hx hb hK.1 hP 0 1 rfl rfl (ix_lit (by decide)) 3 (by decide) (v := f 3) rfl dX5_norm_83 ?_
              refine lv_lload_n hx hb dX5_norm_84 rfl (lv_at hl 1 rfl) ?_
              refine lv_ldiv hx hb dX5_norm_85 (ng_ne c_1) ?_
              refine st_l hx hb hK.1 hP hD hS 0 1 rfl rfl (ix_lit (by decide)) 3 (by decide) dX5_norm_86 (fun H locs hP hD hS => ?_)
              have hP : va_P D vwCl [kJ h cJ 6 (vp_updL (vp_updL (vp_updL (vp_updL f 0 ((f 0) / (-(z5_common (z5_common (z5_common (z5_common (z5_common (z5_common 0 (f 0)) (f 1)) (f 2)) (f 3)) (f 4)) (f 5))))) 1 ((f 1) / (-(z5_common (z5_common (z5_common (z5_common (z5_common (z5_common 0 (f 0)) (f 1)) (f 2)) (f 3)) (f 4)) (f 5))))) 2 ((f 2) / (-(z5_common (z5_common (z5_common (z5_common (z5_common (z5_common 0 (f 0)) (f 1)) (f 2)) (f 3)) (f 4)) (f 5))))) 3 ((f 3) / (-(z5_common (z5_common (z5_common (z5_common (z5_common (z5_common 0 (f 0)) (f 1)) (f 2)) (f 3)) (f 4)) (f 5)))))] H := hP
              have hD : va_D A [kJ h cJ 6 (vp_updL (vp_updL (vp_updL (vp_updL f 0 ((f 0) / (-(z5_common (z5_common (z5_common (z5_common (z5_common (z5_common 0 (f 0)) (f 1)) (f 2)) (f 3)) (f 4)) (f 5))))) 1 ((f 1) / (-(z5_common (z5_common (z5_common (z5_common (z5_common (z5_common 0 (f 0)) (f 1)) (f 2)) (f 3)) (f 4)) (f 5))))) 2 ((f 2) / (-(z5_common (z5_common (z5_common (z5_common (z5_common (z5_common 0 (f 0)) (f 1)) (f 2)) (f 3)) (f 4)) (f 5))))) 3 ((f 3) / (-(z5_common (z5_common (z5_common (z5_common (z5_common (z5_common 0 (f 0)) (f 1)) (f 2)) (f 3)) (f 4)) (f 5)))))] := hD
              refine lv_iinc (v := 4) (lv' := [(5, .int 4), (2, .long (-(z5_common (z5_common (z5_common (z5_common (z5_common (z5_common 0 (f 0)) (f 1)) (f 2)) (f 3)) (f 4)) (f 5)))), (4, .int 3), (0, .ref h), (1, .int 6)]) hx hb dX5_norm_87 hl (k := 0) rfl (by decide) (by decide) rfl (fun ls hl => ?_)
              refine lv_goto (tgt := 71) hx hb dX5_norm_90 (by decide) ?_
              refine lv_iload hx hb dX5_norm_71 (lv_at hl 0 rfl) ?_
              refine lv_iload_n hx hb dX5_norm_73 rfl (lv_at hl 4 rfl) ?_
              refine lv_icmp_ge (tgt := 93) hx hb dX5_norm_74 (by decide) (fun h => absurd h (by decide)) (fun _ => ?_)
              refine lv_aload_n hx hb dX5_norm_77 rfl (lv_at hl 3 rfl) ?_
              refine lv_iload hx hb dX5_norm_78 (lv_at hl 0 rfl) ?_
              refine lv_aload_n hx hb dX5_norm_80 rfl (lv_at hl 3 rfl) ?_
              refine lv_iload hx hb dX5_norm_81 (lv_at hl 0 rfl) ?_
              refine ld_l hx hb hK.1 hP 0 1 rfl rfl (ix_lit (by decide)) 4 (by decide) (v := f 4) rfl dX5_norm_83 ?_
              refine lv_lload_n hx hb dX5_norm_84 rfl (lv_at hl 1 rfl) ?_
              refine lv_ldiv hx hb dX5_norm_85 (ng_ne c_1) ?_
              refine st_l hx hb hK.1 hP hD hS 0 1 rfl rfl (ix_lit (by decide)) 4 (by decide) dX5_norm_86 (fun H locs hP hD hS => ?_)
              have hP : va_P D vwCl [kJ h cJ 6 (vp_updL (vp_updL (vp_updL (vp_updL (vp_updL f 0 ((f 0) / (-(z5_common (z5_common (z5_common (z5_common (z5_common (z5_common 0 (f 0)) (f 1)) (f 2)) (f 3)) (f 4)) (f 5))))) 1 ((f 1) / (-(z5_common (z5_common (z5_common (z5_common (z5_common (z5_common 0 (f 0)) (f 1)) (f 2)) (f 3)) (f 4)) (f 5))))) 2 ((f 2) / (-(z5_common (z5_common (z5_common (z5_common (z5_common (z5_common 0 (f 0)) (f 1)) (f 2)) (f 3)) (f 4)) (f 5))))) 3 ((f 3) / (-(z5_common (z5_common (z5_common (z5_common (z5_common (z5_common 0 (f 0)) (f 1)) (f 2)) (f 3)) (f 4)) (f 5))))) 4 ((f 4) / (-(z5_common (z5_common (z5_common (z5_common (z5_common (z5_common 0 (f 0)) (f 1)) (f 2)) (f 3)) (f 4)) (f 5)))))] H := hP
              have hD : va_D A [kJ h cJ 6 (vp_updL (vp_updL (vp_updL (vp_updL (vp_updL f 0 ((f 0) / (-(z5_common (z5_common (z5_common (z5_common (z5_common (z5_common 0 (f 0)) (f 1)) (f 2)) (f 3)) (f 4)) (f 5))))) 1 ((f 1) / (-(z5_common (z5_common (z5_common (z5_common (z5_common (z5_common 0 (f 0)) (f 1)) (f 2)) (f 3)) (f 4)) (f 5))))) 2 ((f 2) / (-(z5_common (z5_common (z5_common (z5_common (z5_common (z5_common 0 (f 0)) (f 1)) (f 2)) (f 3)) (f 4)) (f 5))))) 3 ((f 3) / (-(z5_common (z5_common (z5_common (z5_common (z5_common (z5_common 0 (f 0)) (f 1)) (f 2)) (f 3)) (f 4)) (f 5))))) 4 ((f 4) / (-(z5_common (z5_common (z5_common (z5_common (z5_common (z5_common 0 (f 0)) (f 1)) (f 2)) (f 3)) (f 4)) (f 5)))))] := hD
              refine lv_iinc (v := 5) (lv' := [(5, .int 5), (2, .long (-(z5_common (z5_common (z5_common (z5_common (z5_common (z5_common 0 (f 0)) (f 1)) (f 2)) (f 3)) (f 4)) (f 5)))), (4, .int 3), (0, .ref h), (1, .int 6)]) hx hb dX5_norm_87 hl (k := 0) rfl (by decide) (by decide) rfl (fun ls hl => ?_)
              refine lv_goto (tgt := 71) hx hb dX5_norm_90 (by decide) ?_
              refine lv_iload hx hb dX5_norm_71 (lv_at hl 0 rfl) ?_
              refine lv_iload_n hx hb dX5_norm_73 rfl (lv_at hl 4 rfl) ?_
              refine lv_icmp_ge (tgt := 93) hx hb dX5_norm_74 (by decide) (fun h => absurd h (by decide)) (fun _ => ?_)
              refine lv_aload_n hx hb dX5_norm_77 rfl (lv_at hl 3 rfl) ?_
              refine lv_iload hx hb dX5_norm_78 (lv_at hl 0 rfl) ?_
              refine lv_aload_n hx hb dX5_norm_80 rfl (lv_at hl 3 rfl) ?_
              refine lv_iload hx hb dX5_norm_81 (lv_at hl 0 rfl) ?_
              refine ld_l hx hb hK.1 hP 0 1 rfl rfl (ix_lit (by decide)) 5 (by decide) (v := f 5) rfl dX5_norm_83 ?_
              refine lv_lload_n hx hb dX5_norm_84 rfl (lv_at hl 1 rfl) ?_
              refine lv_ldiv hx hb dX5_norm_85 (ng_ne c_1) ?_
              refine st_l hx hb hK.1 hP hD hS 0 1 rfl rfl (ix_lit (by decide)) 5 (by decide) dX5_norm_86 (fun H locs hP hD hS => ?_)
              have hP : va_P D vwCl [kJ h cJ 6 (vp_updL (vp_updL (vp_updL (vp_updL (vp_updL (vp_updL f 0 ((f 0) / (-(z5_common (z5_common (z5_common (z5_common (z5_common (z5_common 0 (f 0)) (f 1)) (f 2)) (f 3)) (f 4)) (f 5))))) 1 ((f 1) / (-(z5_common (z5_common (z5_common (z5_common (z5_common (z5_common 0 (f 0)) (f 1)) (f 2)) (f 3)) (f 4)) (f 5))))) 2 ((f 2) / (-(z5_common (z5_common (z5_common (z5_common (z5_common (z5_common 0 (f 0)) (f 1)) (f 2)) (f 3)) (f 4)) (f 5))))) 3 ((f 3) / (-(z5_common (z5_common (z5_common (z5_common (z5_common (z5_common 0 (f 0)) (f 1)) (f 2)) (f 3)) (f 4)) (f 5))))) 4 ((f 4) / (-(z5_common (z5_common (z5_common (z5_common (z5_common (z5_common 0 (f 0)) (f 1)) (f 2)) (f 3)) (f 4)) (f 5))))) 5 ((f 5) / (-(z5_common (z5_common (z5_common (z5_common (z5_common (z5_common 0 (f 0)) (f 1)) (f 2)) (f 3)) (f 4)) (f 5)))))] H := hP
              have hD : va_D A [kJ h cJ 6 (vp_updL (vp_updL (vp_updL (vp_updL (vp_updL (vp_updL f 0 ((f 0) / (-(z5_common (z5_common (z5_common (z5_common (z5_common (z5_common 0 (f 0)) (f 1)) (f 2)) (f 3)) (f 4)) (f 5))))) 1 ((f 1) / (-(z5_common (z5_common (z5_common (z5_common (z5_common (z5_common 0 (f 0)) (f 1)) (f 2)) (f 3)) (f 4)) (f 5))))) 2 ((f 2) / (-(z5_common (z5_common (z5_common (z5_common (z5_common (z5_common 0 (f 0)) (f 1)) (f 2)) (f 3)) (f 4)) (f 5))))) 3 ((f 3) / (-(z5_common (z5_common (z5_common (z5_common (z5_common (z5_common 0 (f 0)) (f 1)) (f 2)) (f 3)) (f 4)) (f 5))))) 4 ((f 4) / (-(z5_common (z5_common (z5_common (z5_common (z5_common (z5_common 0 (f 0)) (f 1)) (f 2)) (f 3)) (f 4)) (f 5))))) 5 ((f 5) / (-(z5_common (z5_common (z5_common (z5_common (z5_common (z5_common 0 (f 0)) (f 1)) (f 2)) (f 3)) (f 4)) (f 5)))))] := hD
              refine lv_iinc (v := 6) (lv' := [(5, .int 6), (2, .long (-(z5_common (z5_common (z5_common (z5_common (z5_common (z5_common 0 (f 0)) (f 1)) (f 2)) (f 3)) (f 4)) (f 5)))), (4, .int 3), (0, .ref h), (1, .int 6)]) hx hb dX5_norm_87 hl (k := 0) rfl (by decide) (by decide) rfl (fun ls hl => ?_)
              refine lv_goto (tgt := 71) hx hb dX5_norm_90 (by decide) ?_
              refine lv_iload hx hb dX5_norm_71 (lv_at hl 0 rfl) ?_
              refine lv_iload_n hx hb dX5_norm_73 rfl (lv_at hl 4 rfl) ?_
              refine lv_icmp_ge (tgt := 93) hx hb dX5_norm_74 (by decide) (fun _ => ?_) (fun h => absurd (by decide) h)
              refine lv_iconst (v := 1) hx hb dX5_norm_93 (by decide) ?_
              have he : z5_norm_6_6 f = (1, vp_updL (vp_updL (vp_updL (vp_updL (vp_updL (vp_updL f 0 ((f 0) / (-(z5_common (z5_common (z5_common (z5_common (z5_common (z5_common 0 (f 0)) (f 1)) (f 2)) (f 3)) (f 4)) (f 5))))) 1 ((f 1) / (-(z5_common (z5_common (z5_common (z5_common (z5_common (z5_common 0 (f 0)) (f 1)) (f 2)) (f 3)) (f 4)) (f 5))))) 2 ((f 2) / (-(z5_common (z5_common (z5_common (z5_common (z5_common (z5_common 0 (f 0)) (f 1)) (f 2)) (f 3)) (f 4)) (f 5))))) 3 ((f 3) / (-(z5_common (z5_common (z5_common (z5_common (z5_common (z5_common 0 (f 0)) (f 1)) (f 2)) (f 3)) (f 4)) (f 5))))) 4 ((f 4) / (-(z5_common (z5_common (z5_common (z5_common (z5_common (z5_common 0 (f 0)) (f 1)) (f 2)) (f 3)) (f 4)) (f 5))))) 5 ((f 5) / (-(z5_common (z5_common (z5_common (z5_common (z5_common (z5_common 0 (f 0)) (f 1)) (f 2)) (f 3)) (f 4)) (f 5))))) := by unfold z5_norm_6_6; rw [if_neg c_1, if_pos c_2, if_pos c_4, if_pos c_6, if_neg c_8, if_neg c_9]
              have he_0 : (z5_norm_6_6 f).1 = 1 := by rw [he]
              have he_1 : (z5_norm_6_6 f).2 = vp_updL (vp_updL (vp_updL (vp_updL (vp_updL (vp_updL f 0 ((f 0) / (-(z5_common (z5_common (z5_common (z5_common (z5_common (z5_common 0 (f 0)) (f 1)) (f 2)) (f 3)) (f 4)) (f 5))))) 1 ((f 1) / (-(z5_common (z5_common (z5_common (z5_common (z5_common (z5_common 0 (f 0)) (f 1)) (f 2)) (f 3)) (f 4)) (f 5))))) 2 ((f 2) / (-(z5_common (z5_common (z5_common (z5_common (z5_common (z5_common 0 (f 0)) (f 1)) (f 2)) (f 3)) (f 4)) (f 5))))) 3 ((f 3) / (-(z5_common (z5_common (z5_common (z5_common (z5_common (z5_common 0 (f 0)) (f 1)) (f 2)) (f 3)) (f 4)) (f 5))))) 4 ((f 4) / (-(z5_common (z5_common (z5_common (z5_common (z5_common (z5_common 0 (f 0)) (f 1)) (f 2)) (f 3)) (f 4)) (f 5))))) 5 ((f 5) / (-(z5_common (z5_common (z5_common (z5_common (z5_common (z5_common 0 (f 0)) (f 1)) (f 2)) (f 3)) (f 4)) (f 5)))) := by rw [he]
              exact rt_z (w1 := fun uu : Unit => [kJ h cJ 6 ((z5_norm_6_6 f).2)]) hx hb hr rfl hlk hS dX5_norm_94 (()) he_0.symm (by rw [he_1]; exact hP) (by rw [he_1]; exact hD)
          · skip
            refine lv_iinc (v := 4) (lv' := [(4, .int 4), (2, .long (z5_common (z5_common (z5_common (z5_common (z5_common (z5_common 0 (f 0)) (f 1)) (f 2)) (f 3)) (f 4)) (f 5))), (0, .ref h), (1, .int 6)]) hx hb dX5_norm_46 hl (k := 0) rfl (by decide) (by decide) rfl (fun ls hl => ?_)
            refine lv_goto (tgt := 37) hx hb dX5_norm_49 (by decide) ?_
            refine lv_aload_n hx hb dX5_norm_37 rfl (lv_at hl 2 rfl) ?_
            refine lv_iload hx hb dX5_norm_38 (lv_at hl 0 rfl) ?_
            refine ld_l hx hb hK.1 hP 0 1 rfl rfl (ix_lit (by decide)) 4 (by decide) (v := f 4) rfl dX5_norm_40 ?_
            refine lv_lconst (v := 0) hx hb dX5_norm_41 (by decide) ?_
            refine lb_ne (tgt := 52) hx hb dX5_norm_42 rfl dX5_norm_43 (by decide) (fun c_10 => ?_) (fun c_10 => ?_)
            · skip
              refine lv_aload_n hx hb dX5_norm_52 rfl (lv_at hl 2 rfl) ?_
              refine lv_iload hx hb dX5_norm_53 (lv_at hl 0 rfl) ?_
              refine ld_l hx hb hK.1 hP 0 1 rfl rfl (ix_lit (by decide)) 4 (by decide) (v := f 4) rfl dX5_norm_55 ?_
              refine lv_lconst (v := 0) hx hb dX5_norm_56 (by decide) ?_
              refine lb_ge (tgt := 66) hx hb dX5_norm_57 rfl dX5_norm_58 (by decide) (fun c_11 => ?_) (fun c_11 => ?_)
              · skip
                refine lv_lload_n hx hb dX5_norm_66 rfl (lv_at hl 1 rfl) ?_
                refine lv_lstore_n (lv' := [(2, .long (z5_common (z5_common (z5_common (z5_common (z5_common (z5_common 0 (f 0)) (f 1)) (f 2)) (f 3)) (f 4)) (f 5))), (4, .int 4), (0, .ref h), (1, .int 6)]) hx hb dX5_norm_67 rfl hl (by decide) rfl (fun ls hl => ?_)
                refine lv_iconst (v := 0) hx hb dX5_norm_68 (by decide) ?_
                refine lv_istore (lv' := [(5, .int 0), (2, .long (z5_common (z5_common (z5_common (z5_common (z5_common (z5_common 0 (f 0)) (f 1)) (f 2)) (f 3)) (f 4)) (f 5))), (4, .int 4), (0, .ref h), (1, .int 6)]) hx hb dX5_norm_69 hl (by decide) rfl (fun ls hl => ?_)
                refine lv_iload hx hb dX5_norm_71 (lv_at hl 0 rfl) ?_
                refine lv_iload_n hx hb dX5_norm_73 rfl (lv_at hl 4 rfl) ?_
                refine lv_icmp_ge (tgt := 93) hx hb dX5_norm_74 (by decide) (fun h => absurd h (by decide)) (fun _ => ?_)
                refine lv_aload_n hx hb dX5_norm_77 rfl (lv_at hl 3 rfl) ?_
                refine lv_iload hx hb dX5_norm_78 (lv_at hl 0 rfl) ?_
                refine lv_aload_n hx hb dX5_norm_80 rfl (lv_at hl 3 rfl) ?_
                refine lv_iload hx hb dX5_norm_81 (lv_at hl 0 rfl) ?_
                refine ld_l hx hb hK.1 hP 0 1 rfl rfl (ix_lit (by decide)) 0 (by decide) (v := f 0) rfl dX5_norm_83 ?_
                refine lv_lload_n hx hb dX5_norm_84 rfl (lv_at hl 1 rfl) ?_
                refine lv_ldiv hx hb dX5_norm_85 c_1 ?_
                refine st_l hx hb hK.1 hP hD hS 0 1 rfl rfl (ix_lit (by decide)) 0 (by decide) dX5_norm_86 (fun H locs hP hD hS => ?_)
                have hP : va_P D vwCl [kJ h cJ 6 (vp_updL f 0 ((f 0) / (z5_common (z5_common (z5_common (z5_common (z5_common (z5_common 0 (f 0)) (f 1)) (f 2)) (f 3)) (f 4)) (f 5))))] H := hP
                have hD : va_D A [kJ h cJ 6 (vp_updL f 0 ((f 0) / (z5_common (z5_common (z5_common (z5_common (z5_common (z5_common 0 (f 0)) (f 1)) (f 2)) (f 3)) (f 4)) (f 5))))] := hD
                refine lv_iinc (v := 1) (lv' := [(5, .int 1), (2, .long (z5_common (z5_common (z5_common (z5_common (z5_common (z5_common 0 (f 0)) (f 1)) (f 2)) (f 3)) (f 4)) (f 5))), (4, .int 4), (0, .ref h), (1, .int 6)]) hx hb dX5_norm_87 hl (k := 0) rfl (by decide) (by decide) rfl (fun ls hl => ?_)
                refine lv_goto (tgt := 71) hx hb dX5_norm_90 (by decide) ?_
                refine lv_iload hx hb dX5_norm_71 (lv_at hl 0 rfl) ?_
                refine lv_iload_n hx hb dX5_norm_73 rfl (lv_at hl 4 rfl) ?_
                refine lv_icmp_ge (tgt := 93) hx hb dX5_norm_74 (by decide) (fun h => absurd h (by decide)) (fun _ => ?_)
                refine lv_aload_n hx hb dX5_norm_77 rfl (lv_at hl 3 rfl) ?_
                refine lv_iload hx hb dX5_norm_78 (lv_at hl 0 rfl) ?_
                refine lv_aload_n hx hb dX5_norm_80 rfl (lv_at hl 3 rfl) ?_
                refine lv_iload hx hb dX5_norm_81 (lv_at hl 0 rfl) ?_
                refine ld_l hx hb hK.1 hP 0 1 rfl rfl (ix_lit (by decide)) 1 (by decide) (v := f 1) rfl dX5_norm_83 ?_
                refine lv_lload_n hx hb dX5_norm_84 rfl (lv_at hl 1 rfl) ?_
                refine lv_ldiv hx hb dX5_norm_85 c_1 ?_
                refine st_l hx hb hK.1 hP hD hS 0 1 rfl rfl (ix_lit (by decide)) 1 (by decide) dX5_norm_86 (fun H locs hP hD hS => ?_)
                have hP : va_P D vwCl [kJ h cJ 6 (vp_updL (vp_updL f 0 ((f 0) / (z5_common (z5_common (z5_common (z5_common (z5_common (z5_common 0 (f 0)) (f 1)) (f 2)) (f 3)) (f 4)) (f 5)))) 1 ((f 1) / (z5_common (z5_common (z5_common (z5_common (z5_common (z5_common 0 (f 0)) (f 1)) (f 2)) (f 3)) (f 4)) (f 5))))] H := hP
                have hD : va_D A [kJ h cJ 6 (vp_updL (vp_updL f 0 ((f 0) / (z5_common (z5_common (z5_common (z5_common (z5_common (z5_common 0 (f 0)) (f 1)) (f 2)) (f 3)) (f 4)) (f 5)))) 1 ((f 1) / (z5_common (z5_common (z5_common (z5_common (z5_common (z5_common 0 (f 0)) (f 1)) (f 2)) (f 3)) (f 4)) (f 5))))] := hD
                refine lv_iinc (v := 2) (lv' := [(5, .int 2), (2, .long (z5_common (z5_common (z5_common (z5_common (z5_common (z5_common 0 (f 0)) (f 1)) (f 2)) (f 3)) (f 4)) (f 5))), (4, .int 4), (0, .ref h), (1, .int 6)]) hx hb dX5_norm_87 hl (k := 0) rfl (by decide) (by decide) rfl (fun ls hl => ?_)
                refine lv_goto (tgt := 71) hx hb dX5_norm_90 (by decide) ?_
                refine lv_iload hx hb dX5_norm_71 (lv_at hl 0 rfl) ?_
                refine lv_iload_n hx hb dX5_norm_73 rfl (lv_at hl 4 rfl) ?_
                refine lv_icmp_ge (tgt := 93) hx hb dX5_norm_74 (by decide) (fun h => absurd h (by decide)) (fun _ => ?_)
                refine lv_aload_n hx hb dX5_norm_77 rfl (lv_at hl 3 rfl) ?_
                refine lv_iload hx hb dX5_norm_78 (lv_at hl 0 rfl) ?_
                refine lv_aload_n hx hb dX5_norm_80 rfl (lv_at hl 3 rfl) ?_
                refine lv_iload hx hb dX5_norm_81 (lv_at hl 0 rfl) ?_
                refine ld_l hx hb hK.1 hP 0 1 rfl rfl (ix_lit (by decide)) 2 (by decide) (v := f 2) rfl dX5_norm_83 ?_
                refine lv_lload_n hx hb dX5_norm_84 rfl (lv_at hl 1 rfl) ?_
                refine lv_ldiv hx hb dX5_norm_85 c_1 ?_
                refine st_l hx hb hK.1 hP hD hS 0 1 rfl rfl (ix_lit (by decide)) 2 (by decide) dX5_norm_86 (fun H locs hP hD hS => ?_)
                have hP : va_P D vwCl [kJ h cJ 6 (vp_updL (vp_updL (vp_updL f 0 ((f 0) / (z5_common (z5_common (z5_common (z5_common (z5_common (z5_common 0 (f 0)) (f 1)) (f 2)) (f 3)) (f 4)) (f 5)))) 1 ((f 1) / (z5_common (z5_common (z5_common (z5_common (z5_common (z5_common 0 (f 0)) (f 1)) (f 2)) (f 3)) (f 4)) (f 5)))) 2 ((f 2) / (z5_common (z5_common (z5_common (z5_common (z5_common (z5_common 0 (f 0)) (f 1)) (f 2)) (f 3)) (f 4)) (f 5))))] H := hP
                have hD : va_D A [kJ h cJ 6 (vp_updL (vp_updL (vp_updL f 0 ((f 0) / (z5_common (z5_common (z5_common (z5_common (z5_common (z5_common 0 (f 0)) (f 1)) (f 2)) (f 3)) (f 4)) (f 5)))) 1 ((f 1) / (z5_common (z5_common (z5_common (z5_common (z5_common (z5_common 0 (f 0)) (f 1)) (f 2)) (f 3)) (f 4)) (f 5)))) 2 ((f 2) / (z5_common (z5_common (z5_common (z5_common (z5_common (z5_common 0 (f 0)) (f 1)) (f 2)) (f 3)) (f 4)) (f 5))))] := hD
                refine lv_iinc (v := 3) (lv' := [(5, .int 3), (2, .long (z5_common (z5_common (z5_common (z5_common (z5_common (z5_common 0 (f 0)) (f 1)) (f 2)) (f 3)) (f 4)) (f 5))), (4, .int 4), (0, .ref h), (1, .int 6)]) hx hb dX5_norm_87 hl (k := 0) rfl (by decide) (by decide) rfl (fun ls hl => ?_)
                refine lv_goto (tgt := 71) hx hb dX5_norm_90 (by decide) ?_
                refine lv_iload hx hb dX5_norm_71 (lv_at hl 0 rfl) ?_
                refine lv_iload_n hx hb dX5_norm_73 rfl (lv_at hl 4 rfl) ?_
                refine lv_icmp_ge (tgt := 93) hx hb dX5_norm_74 (by decide) (fun h => absurd h (by decide)) (fun _ => ?_)
                refine lv_aload_n hx hb dX5_norm_77 rfl (lv_at hl 3 rfl) ?_
                refine lv_iload hx hb dX5_norm_78 (lv_at hl 0 rfl) ?_
                refine lv_aload_n hx hb dX5_norm_80 rfl (lv_at hl 3 rfl) ?_
                refine lv_iload hx hb dX5_norm_81 (lv_at hl 0 rfl) ?_
                refine ld_l hx hb hK.1 hP 0 1 rfl rfl (ix_lit (by decide)) 3 (by decide) (v := f 3) rfl dX5_norm_83 ?_
                refine lv_lload_n hx hb dX5_norm_84 rfl (lv_at hl 1 rfl) ?_
                refine lv_ldiv hx hb dX5_norm_85 c_1 ?_
                refine st_l hx hb hK.1 hP hD hS 0 1 rfl rfl (ix_lit (by decide)) 3 (by decide) dX5_norm_86 (fun H locs hP hD hS => ?_)
                have hP : va_P D vwCl [kJ h cJ 6 (vp_updL (vp_updL (vp_updL (vp_updL f 0 ((f 0) / (z5_common (z5_common (z5_common (z5_common (z5_common (z5_common 0 (f 0)) (f 1)) (f 2)) (f 3)) (f 4)) (f 5)))) 1 ((f 1) / (z5_common (z5_common (z5_common (z5_common (z5_common (z5_common 0 (f 0)) (f 1)) (f 2)) (f 3)) (f 4)) (f 5)))) 2 ((f 2) / (z5_common (z5_common (z5_common (z5_common (z5_common (z5_common 0 (f 0)) (f 1)) (f 2)) (f 3)) (f 4)) (f 5)))) 3 ((f 3) / (z5_common (z5_common (z5_common (z5_common (z5_common (z5_common 0 (f 0)) (f 1)) (f 2)) (f 3)) (f 4)) (f 5))))] H := hP
                have hD : va_D A [kJ h cJ 6 (vp_updL (vp_updL (vp_updL (vp_updL f 0 ((f 0) / (z5_common (z5_common (z5_common (z5_common (z5_common (z5_common 0 (f 0)) (f 1)) (f 2)) (f 3)) (f 4)) (f 5)))) 1 ((f 1) / (z5_common (z5_common (z5_common (z5_common (z5_common (z5_common 0 (f 0)) (f 1)) (f 2)) (f 3)) (f 4)) (f 5)))) 2 ((f 2) / (z5_common (z5_common (z5_common (z5_common (z5_common (z5_common 0 (f 0)) (f 1)) (f 2)) (f 3)) (f 4)) (f 5)))) 3 ((f 3) / (z5_common (z5_common (z5_common (z5_common (z5_common (z5_common 0 (f 0)) (f 1)) (f 2)) (f 3)) (f 4)) (f 5))))] := hD
                refine lv_iinc (v := 4) (lv' := [(5, .int 4), (2, .long (z5_common (z5_common (z5_common (z5_common (z5_common (z5_common 0 (f 0)) (f 1)) (f 2)) (f 3)) (f 4)) (f 5))), (4, .int 4), (0, .ref h), (1, .int 6)]) hx hb dX5_norm_87 hl (k := 0) rfl (by decide) (by decide) rfl (fun ls hl => ?_)
                refine lv_goto (tgt := 71) hx hb dX5_norm_90 (by decide) ?_
                refine lv_iload hx hb dX5_norm_71 (lv_at hl 0 rfl) ?_
                refine lv_iload_n hx hb dX5_norm_73 rfl (lv_at hl 4 rfl) ?_
                refine lv_icmp_ge (tgt := 93) hx hb dX5_norm_74 (by decide) (fun h => absurd h (by decide)) (fun _ => ?_)
                refine lv_aload_n hx hb dX5_norm_77 rfl (lv_at hl 3 rfl) ?_
                refine lv_iload hx hb dX5_norm_78 (lv_at hl 0 rfl) ?_
                refine lv_aload_n hx hb dX5_norm_80 rfl (lv_at hl 3 rfl) ?_
                refine lv_iload hx hb dX5_norm_81 (lv_at hl 0 rfl) ?_
                refine ld_l hx hb hK.1 hP 0 1 rfl rfl (ix_lit (by decide)) 4 (by decide) (v := f 4) rfl dX5_norm_83 ?_
                refine lv_lload_n hx hb dX5_norm_84 rfl (lv_at hl 1 rfl) ?_
                refine lv_ldiv hx hb dX5_norm_85 c_1 ?_
                refine st_l hx hb hK.1 hP hD hS 0 1 rfl rfl (ix_lit (by decide)) 4 (by decide) dX5_norm_86 (fun H locs hP hD hS => ?_)
                have hP : va_P D vwCl [kJ h cJ 6 (vp_updL (vp_updL (vp_updL (vp_updL (vp_updL f 0 ((f 0) / (z5_common (z5_common (z5_common (z5_common (z5_common (z5_common 0 (f 0)) (f 1)) (f 2)) (f 3)) (f 4)) (f 5)))) 1 ((f 1) / (z5_common (z5_common (z5_common (z5_common (z5_common (z5_common 0 (f 0)) (f 1)) (f 2)) (f 3)) (f 4)) (f 5)))) 2 ((f 2) / (z5_common (z5_common (z5_common (z5_common (z5_common (z5_common 0 (f 0)) (f 1)) (f 2)) (f 3)) (f 4)) (f 5)))) 3 ((f 3) / (z5_common (z5_common (z5_common (z5_common (z5_common (z5_common 0 (f 0)) (f 1)) (f 2)) (f 3)) (f 4)) (f 5)))) 4 ((f 4) / (z5_common (z5_common (z5_common (z5_common (z5_common (z5_common 0 (f 0)) (f 1)) (f 2)) (f 3)) (f 4)) (f 5))))] H := hP
                have hD : va_D A [kJ h cJ 6 (vp_updL (vp_updL (vp_updL (vp_updL (vp_updL f 0 ((f 0) / (z5_common (z5_common (z5_common (z5_common (z5_common (z5_common 0 (f 0)) (f 1)) (f 2)) (f 3)) (f 4)) (f 5)))) 1 ((f 1) / (z5_common (z5_common (z5_common (z5_common (z5_common (z5_common 0 (f 0)) (f 1)) (f 2)) (f 3)) (f 4)) (f 5)))) 2 ((f 2) / (z5_common (z5_common (z5_common (z5_common (z5_common (z5_common 0 (f 0)) (f 1)) (f 2)) (f 3)) (f 4)) (f 5)))) 3 ((f 3) / (z5_common (z5_common (z5_common (z5_common (z5_common (z5_common 0 (f 0)) (f 1)) (f 2)) (f 3)) (f 4)) (f 5)))) 4 ((f 4) / (z5_common (z5_common (z5_common (z5_common (z5_common (z5_common 0 (f 0)) (f 1)) (f 2)) (f 3)) (f 4)) (f 5))))] := hD
                refine lv_iinc (v := 5) (lv' := [(5, .int 5), (2, .long (z5_common (z5_common (z5_common (z5_common (z5_common (z5_common 0 (f 0)) (f 1)) (f 2)) (f 3)) (f 4)) (f 5))), (4, .int 4), (0, .ref h), (1, .int 6)]) hx hb dX5_norm_87 hl (k := 0) rfl (by decide) (by decide) rfl (fun ls hl => ?_)
                refine lv_goto (tgt := 71) hx hb dX5_norm_90 (by decide) ?_
                refine lv_iload hx hb dX5_norm_71 (lv_at hl 0 rfl) ?_
                refine lv_iload_n hx hb dX5_norm_73 rfl (lv_at hl 4 rfl) ?_
                refine lv_icmp_ge (tgt := 93) hx hb dX5_norm_74 (by decide) (fun h => absurd h (by decide)) (fun _ => ?_)
                refine lv_aload_n hx hb dX5_norm_77 rfl (lv_at hl 3 rfl) ?_
                refine lv_iload hx hb dX5_norm_78 (lv_at hl 0 rfl) ?_
                refine lv_aload_n hx hb dX5_norm_80 rfl (lv_at hl 3 rfl) ?_
                refine lv_iload hx hb dX5_norm_81 (lv_at hl 0 rfl) ?_
                refine ld_l hx hb hK.1 hP 0 1 rfl rfl (ix_lit (by decide)) 5 (by decide) (v := f 5) rfl dX5_norm_83 ?_
                refine lv_lload_n hx hb dX5_norm_84 rfl (lv_at hl 1 rfl) ?_
                refine lv_ldiv hx hb dX5_norm_85 c_1 ?_
                refine st_l hx hb hK.1 hP hD hS 0 1 rfl rfl (ix_lit (by decide)) 5 (by decide) dX5_norm_86 (fun H locs hP hD hS => ?_)
                have hP : va_P D vwCl [kJ h cJ 6 (vp_updL (vp_updL (vp_updL (vp_updL (vp_updL (vp_updL f 0 ((f 0) / (z5_common (z5_common (z5_common (z5_common (z5_common (z5_common 0 (f 0)) (f 1)) (f 2)) (f 3)) (f 4)) (f 5)))) 1 ((f 1) / (z5_common (z5_common (z5_common (z5_common (z5_common (z5_common 0 (f 0)) (f 1)) (f 2)) (f 3)) (f 4)) (f 5)))) 2 ((f 2) / (z5_common (z5_common (z5_common (z5_common (z5_common (z5_common 0 (f 0)) (f 1)) (f 2)) (f 3)) (f 4)) (f 5)))) 3 ((f 3) / (z5_common (z5_common (z5_common (z5_common (z5_common (z5_common 0 (f 0)) (f 1)) (f 2)) (f 3)) (f 4)) (f 5)))) 4 ((f 4) / (z5_common (z5_common (z5_common (z5_common (z5_common (z5_common 0 (f 0)) (f 1)) (f 2)) (f 3)) (f 4)) (f 5)))) 5 ((f 5) / (z5_common (z5_common (z5_common (z5_common (z5_common (z5_common 0 (f 0)) (f 1)) (f 2)) (f 3)) (f 4)) (f 5))))] H := hP
                have hD : va_D A [kJ h cJ 6 (vp_updL (vp_updL (vp_updL (vp_updL (vp_updL (vp_updL f 0 ((f 0) / (z5_common (z5_common (z5_common (z5_common (z5_common (z5_common 0 (f 0)) (f 1)) (f 2)) (f 3)) (f 4)) (f 5)))) 1 ((f 1) / (z5_common (z5_common (z5_common (z5_common (z5_common (z5_common 0 (f 0)) (f 1)) (f 2)) (f 3)) (f 4)) (f 5)))) 2 ((f 2) / (z5_common (z5_common (z5_common (z5_common (z5_common (z5_common 0 (f 0)) (f 1)) (f 2)) (f 3)) (f 4)) (f 5)))) 3 ((f 3) / (z5_common (z5_common (z5_common (z5_common (z5_common (z5_common 0 (f 0)) (f 1)) (f 2)) (f 3)) (f 4)) (f 5)))) 4 ((f 4) / (z5_common (z5_common (z5_common (z5_common (z5_common (z5_common 0 (f 0)) (f 1)) (f 2)) (f 3)) (f 4)) (f 5)))) 5 ((f 5) / (z5_common (z5_common (z5_common (z5_common (z5_common (z5_common 0 (f 0)) (f 1)) (f 2)) (f 3)) (f 4)) (f 5))))] := hD
                refine lv_iinc (v := 6) (lv' := [(5, .int 6), (2, .long (z5_common (z5_common (z5_common (z5_common (z5_common (z5_common 0 (f 0)) (f 1)) (f 2)) (f 3)) (f 4)) (f 5))), (4, .int 4), (0, .ref h), (1, .int 6)]) hx hb dX5_norm_87 hl (k := 0) rfl (by decide) (by decide) rfl (fun ls hl => ?_)
                refine lv_goto (tgt := 71) hx hb dX5_norm_90 (by decide) ?_
                refine lv_iload hx hb dX5_norm_71 (lv_at hl 0 rfl) ?_
                refine lv_iload_n hx hb dX5_norm_73 rfl (lv_at hl 4 rfl) ?_
                refine lv_icmp_ge (tgt := 93) hx hb dX5_norm_74 (by decide) (fun _ => ?_) (fun h => absurd (by decide) h)
                refine lv_iconst (v := 1) hx hb dX5_norm_93 (by decide) ?_
                have he : z5_norm_6_6 f = (1, vp_updL (vp_updL (vp_updL (vp_updL (vp_updL (vp_updL f 0 ((f 0) / (z5_common (z5_common (z5_common (z5_common (z5_common (z5_common 0 (f 0)) (f 1)) (f 2)) (f 3)) (f 4)) (f 5)))) 1 ((f 1) / (z5_common (z5_common (z5_common (z5_common (z5_common (z5_common 0 (f 0)) (f 1)) (f 2)) (f 3)) (f 4)) (f 5)))) 2 ((f 2) / (z5_common (z5_common (z5_common (z5_common (z5_common (z5_common 0 (f 0)) (f 1)) (f 2)) (f 3)) (f 4)) (f 5)))) 3 ((f 3) / (z5_common (z5_common (z5_common (z5_common (z5_common (z5_common 0 (f 0)) (f 1)) (f 2)) (f 3)) (f 4)) (f 5)))) 4 ((f 4) / (z5_common (z5_common (z5_common (z5_common (z5_common (z5_common 0 (f 0)) (f 1)) (f 2)) (f 3)) (f 4)) (f 5)))) 5 ((f 5) / (z5_common (z5_common (z5_common (z5_common (z5_common (z5_common 0 (f 0)) (f 1)) (f 2)) (f 3)) (f 4)) (f 5)))) := by unfold z5_norm_6_6; rw [if_neg c_1, if_pos c_2, if_pos c_4, if_pos c_6, if_pos c_8, if_neg c_10, if_pos c_11]
                have he_0 : (z5_norm_6_6 f).1 = 1 := by rw [he]
                have he_1 : (z5_norm_6_6 f).2 = vp_updL (vp_updL (vp_updL (vp_updL (vp_updL (vp_updL f 0 ((f 0) / (z5_common (z5_common (z5_common (z5_common (z5_common (z5_common 0 (f 0)) (f 1)) (f 2)) (f 3)) (f 4)) (f 5)))) 1 ((f 1) / (z5_common (z5_common (z5_common (z5_common (z5_common (z5_common 0 (f 0)) (f 1)) (f 2)) (f 3)) (f 4)) (f 5)))) 2 ((f 2) / (z5_common (z5_common (z5_common (z5_common (z5_common (z5_common 0 (f 0)) (f 1)) (f 2)) (f 3)) (f 4)) (f 5)))) 3 ((f 3) / (z5_common (z5_common (z5_common (z5_common (z5_common (z5_common 0 (f 0)) (f 1)) (f 2)) (f 3)) (f 4)) (f 5)))) 4 ((f 4) / (z5_common (z5_common (z5_common (z5_common (z5_common (z5_common 0 (f 0)) (f 1)) (f 2)) (f 3)) (f 4)) (f 5)))) 5 ((f 5) / (z5_common (z5_common (z5_common (z5_common (z5_common (z5_common 0 (f 0)) (f 1)) (f 2)) (f 3)) (f 4)) (f 5))) := by rw [he]
                exact rt_z (w1 := fun uu : Unit => [kJ h cJ 6 ((z5_norm_6_6 f).2)]) hx hb hr rfl hlk hS dX5_norm_94 (()) he_0.symm (by rw [he_1]; exact hP) (by rw [he_1]; exact hD)
              · skip
                refine lv_lload_n hx hb dX5_norm_61 rfl (lv_at hl 1 rfl) ?_
                refine lv_lneg hx hb dX5_norm_62 ?_
                refine lv_goto (tgt := 67) hx hb dX5_norm_63 (by decide) ?_
                refine lv_lstore_n (lv' := [(2, .long (-(z5_common (z5_common (z5_common (z5_common (z5_common (z5_common 0 (f 0)) (f 1)) (f 2)) (f 3)) (f 4)) (f 5)))), (4, .int 4), (0, .ref h), (1, .int 6)]) hx hb dX5_norm_67 rfl hl (by decide) rfl (fun ls hl => ?_)
                refine lv_iconst (v := 0) hx hb dX5_norm_68 (by decide) ?_
                refine lv_istore (lv' := [(5, .int 0), (2, .long (-(z5_common (z5_common (z5_common (z5_common (z5_common (z5_common 0 (f 0)) (f 1)) (f 2)) (f 3)) (f 4)) (f 5)))), (4, .int 4), (0, .ref h), (1, .int 6)]) hx hb dX5_norm_69 hl (by decide) rfl (fun ls hl => ?_)
                refine lv_iload hx hb dX5_norm_71 (lv_at hl 0 rfl) ?_
                refine lv_iload_n hx hb dX5_norm_73 rfl (lv_at hl 4 rfl) ?_
                refine lv_icmp_ge (tgt := 93) hx hb dX5_norm_74 (by decide) (fun h => absurd h (by decide)) (fun _ => ?_)
                refine lv_aload_n hx hb dX5_norm_77 rfl (lv_at hl 3 rfl) ?_
                refine lv_iload hx hb dX5_norm_78 (lv_at hl 0 rfl) ?_
                refine lv_aload_n hx hb dX5_norm_80 rfl (lv_at hl 3 rfl) ?_
                refine lv_iload hx hb dX5_norm_81 (lv_at hl 0 rfl) ?_
                refine ld_l hx hb hK.1 hP 0 1 rfl rfl (ix_lit (by decide)) 0 (by decide) (v := f 0) rfl dX5_norm_83 ?_
                refine lv_lload_n hx hb dX5_norm_84 rfl (lv_at hl 1 rfl) ?_
                refine lv_ldiv hx hb dX5_norm_85 (ng_ne c_1) ?_
                refine st_l hx hb hK.1 hP hD hS 0 1 rfl rfl (ix_lit (by decide)) 0 (by decide) dX5_norm_86 (fun H locs hP hD hS => ?_)
                have hP : va_P D vwCl [kJ h cJ 6 (vp_updL f 0 ((f 0) / (-(z5_common (z5_common (z5_common (z5_common (z5_common (z5_common 0 (f 0)) (f 1)) (f 2)) (f 3)) (f 4)) (f 5)))))] H := hP
                have hD : va_D A [kJ h cJ 6 (vp_updL f 0 ((f 0) / (-(z5_common (z5_common (z5_common (z5_common (z5_common (z5_common 0 (f 0)) (f 1)) (f 2)) (f 3)) (f 4)) (f 5)))))] := hD
                refine lv_iinc (v := 1) (lv' := [(5, .int 1), (2, .long (-(z5_common (z5_common (z5_common (z5_common (z5_common (z5_common 0 (f 0)) (f 1)) (f 2)) (f 3)) (f 4)) (f 5)))), (4, .int 4), (0, .ref h), (1, .int 6)]) hx hb dX5_norm_87 hl (k := 0) rfl (by decide) (by decide) rfl (fun ls hl => ?_)
                refine lv_goto (tgt := 71) hx hb dX5_norm_90 (by decide) ?_
                refine lv_iload hx hb dX5_norm_71 (lv_at hl 0 rfl) ?_
                refine lv_iload_n hx hb dX5_norm_73 rfl (lv_at hl 4 rfl) ?_
                refine lv_icmp_ge (tgt := 93) hx hb dX5_norm_74 (by decide) (fun h => absurd h (by decide)) (fun _ => ?_)
                refine lv_aload_n hx hb dX5_norm_77 rfl (lv_at hl 3 rfl) ?_
                refine lv_iload hx hb dX5_norm_78 (lv_at hl 0 rfl) ?_
                refine lv_aload_n hx hb dX5_norm_80 rfl (lv_at hl 3 rfl) ?_
                refine lv_iload hx hb dX5_norm_81 (lv_at hl 0 rfl) ?_
                refine ld_l hx hb hK.1 hP 0 1 rfl rfl (ix_lit (by decide)) 1 (by decide) (v := f 1) rfl dX5_norm_83 ?_
                refine lv_lload_n hx hb dX5_norm_84 rfl (lv_at hl 1 rfl) ?_
                refine lv_ldiv hx hb dX5_norm_85 (ng_ne c_1) ?_
                refine st_l hx hb hK.1 hP hD hS 0 1 rfl rfl (ix_lit (by decide)) 1 (by decide) dX5_norm_86 (fun H locs hP hD hS => ?_)
                have hP : va_P D vwCl [kJ h cJ 6 (vp_updL (vp_updL f 0 ((f 0) / (-(z5_common (z5_common (z5_common (z5_common (z5_common (z5_common 0 (f 0)) (f 1)) (f 2)) (f 3)) (f 4)) (f 5))))) 1 ((f 1) / (-(z5_common (z5_common (z5_common (z5_common (z5_common (z5_common 0 (f 0)) (f 1)) (f 2)) (f 3)) (f 4)) (f 5)))))] H := hP
                have hD : va_D A [kJ h cJ 6 (vp_updL (vp_updL f 0 ((f 0) / (-(z5_common (z5_common (z5_common (z5_common (z5_common (z5_common 0 (f 0)) (f 1)) (f 2)) (f 3)) (f 4)) (f 5))))) 1 ((f 1) / (-(z5_common (z5_common (z5_common (z5_common (z5_common (z5_common 0 (f 0)) (f 1)) (f 2)) (f 3)) (f 4)) (f 5)))))] := hD
                refine lv_iinc (v := 2) (lv' := [(5, .int 2), (2, .long (-(z5_common (z5_common (z5_common (z5_common (z5_common (z5_common 0 (f 0)) (f 1)) (f 2)) (f 3)) (f 4)) (f 5)))), (4, .int 4), (0, .ref h), (1, .int 6)]) hx hb dX5_norm_87 hl (k := 0) rfl (by decide) (by decide) rfl (fun ls hl => ?_)
                refine lv_goto (tgt := 71) hx hb dX5_norm_90 (by decide) ?_
                refine lv_iload hx hb dX5_norm_71 (lv_at hl 0 rfl) ?_
                refine lv_iload_n hx hb dX5_norm_73 rfl (lv_at hl 4 rfl) ?_
                refine lv_icmp_ge (tgt := 93) hx hb dX5_norm_74 (by decide) (fun h => absurd h (by decide)) (fun _ => ?_)
                refine lv_aload_n hx hb dX5_norm_77 rfl (lv_at hl 3 rfl) ?_
                refine lv_iload hx hb dX5_norm_78 (lv_at hl 0 rfl) ?_
                refine lv_aload_n hx hb dX5_norm_80 rfl (lv_at hl 3 rfl) ?_
                refine lv_iload hx hb dX5_norm_81 (lv_at hl 0 rfl) ?_
                refine ld_l hx hb hK.1 hP 0 1 rfl rfl (ix_lit (by decide)) 2 (by decide) (v := f 2) rfl dX5_norm_83 ?_
                refine lv_lload_n hx hb dX5_norm_84 rfl (lv_at hl 1 rfl) ?_
                refine lv_ldiv hx hb dX5_norm_85 (ng_ne c_1) ?_
                refine st_l hx hb hK.1 hP hD hS 0 1 rfl rfl (ix_lit (by decide)) 2 (by decide) dX5_norm_86 (fun H locs hP hD hS => ?_)
                have hP : va_P D vwCl [kJ h cJ 6 (vp_updL (vp_updL (vp_updL f 0 ((f 0) / (-(z5_common (z5_common (z5_common (z5_common (z5_common (z5_common 0 (f 0)) (f 1)) (f 2)) (f 3)) (f 4)) (f 5))))) 1 ((f 1) / (-(z5_common (z5_common (z5_common (z5_common (z5_common (z5_common 0 (f 0)) (f 1)) (f 2)) (f 3)) (f 4)) (f 5))))) 2 ((f 2) / (-(z5_common (z5_common (z5_common (z5_common (z5_common (z5_common 0 (f 0)) (f 1)) (f 2)) (f 3)) (f 4)) (f 5)))))] H := hP
                have hD : va_D A [kJ h cJ 6 (vp_updL (vp_updL (vp_updL f 0 ((f 0) / (-(z5_common (z5_common (z5_common (z5_common (z5_common (z5_common 0 (f 0)) (f 1)) (f 2)) (f 3)) (f 4)) (f 5))))) 1 ((f 1) / (-(z5_common (z5_common (z5_common (z5_common (z5_common (z5_common 0 (f 0)) (f 1)) (f 2)) (f 3)) (f 4)) (f 5))))) 2 ((f 2) / (-(z5_common (z5_common (z5_common (z5_common (z5_common (z5_common 0 (f 0)) (f 1)) (f 2)) (f 3)) (f 4)) (f 5)))))] := hD
                refine lv_iinc (v := 3) (lv' := [(5, .int 3), (2, .long (-(z5_common (z5_common (z5_common (z5_common (z5_common (z5_common 0 (f 0)) (f 1)) (f 2)) (f 3)) (f 4)) (f 5)))), (4, .int 4), (0, .ref h), (1, .int 6)]) hx hb dX5_norm_87 hl (k := 0) rfl (by decide) (by decide) rfl (fun ls hl => ?_)
                refine lv_goto (tgt := 71) hx hb dX5_norm_90 (by decide) ?_
                refine lv_iload hx hb dX5_norm_71 (lv_at hl 0 rfl) ?_
                refine lv_iload_n hx hb dX5_norm_73 rfl (lv_at hl 4 rfl) ?_
                refine lv_icmp_ge (tgt := 93) hx hb dX5_norm_74 (by decide) (fun h => absurd h (by decide)) (fun _ => ?_)
                refine lv_aload_n hx hb dX5_norm_77 rfl (lv_at hl 3 rfl) ?_
                refine lv_iload hx hb dX5_norm_78 (lv_at hl 0 rfl) ?_
                refine lv_aload_n hx hb dX5_norm_80 rfl (lv_at hl 3 rfl) ?_
                refine lv_iload hx hb dX5_norm_81 (lv_at hl 0 rfl) ?_
                refine ld_l hx hb hK.1 hP 0 1 rfl rfl (ix_lit (by decide)) 3 (by decide) (v := f 3) rfl dX5_norm_83 ?_
                refine lv_lload_n hx hb dX5_norm_84 rfl (lv_at hl 1 rfl) ?_
                refine lv_ldiv hx hb dX5_norm_85 (ng_ne c_1) ?_
                refine st_l hx hb hK.1 hP hD hS 0 1 rfl rfl (ix_lit (by decide)) 3 (by decide) dX5_norm_86 (fun H locs hP hD hS => ?_)
                have hP : va_P D vwCl [kJ h cJ 6 (vp_updL (vp_updL (vp_updL (vp_updL f 0 ((f 0) / (-(z5_common (z5_common (z5_common (z5_common (z5_common (z5_common 0 (f 0)) (f 1)) (f 2)) (f 3)) (f 4)) (f 5))))) 1 ((f 1) / (-(z5_common (z5_common (z5_common (z5_common (z5_common (z5_common 0 (f 0)) (f 1)) (f 2)) (f 3)) (f 4)) (f 5))))) 2 ((f 2) / (-(z5_common (z5_common (z5_common (z5_common (z5_common (z5_common 0 (f 0)) (f 1)) (f 2)) (f 3)) (f 4)) (f 5))))) 3 ((f 3) / (-(z5_common (z5_common (z5_common (z5_common (z5_common (z5_common 0 (f 0)) (f 1)) (f 2)) (f 3)) (f 4)) (f 5)))))] H := hP
                have hD : va_D A [kJ h cJ 6 (vp_updL (vp_updL (vp_updL (vp_updL f 0 ((f 0) / (-(z5_common (z5_common (z5_common (z5_common (z5_common (z5_common 0 (f 0)) (f 1)) (f 2)) (f 3)) (f 4)) (f 5))))) 1 ((f 1) / (-(z5_common (z5_common (z5_common (z5_common (z5_common (z5_common 0 (f 0)) (f 1)) (f 2)) (f 3)) (f 4)) (f 5))))) 2 ((f 2) / (-(z5_common (z5_common (z5_common (z5_common (z5_common (z5_common 0 (f 0)) (f 1)) (f 2)) (f 3)) (f 4)) (f 5))))) 3 ((f 3) / (-(z5_common (z5_common (z5_common (z5_common (z5_common (z5_common 0 (f 0)) (f 1)) (f 2)) (f 3)) (f 4)) (f 5)))))] := hD
                refine lv_iinc (v := 4) (lv' := [(5, .int 4), (2, .long (-(z5_common (z5_common (z5_common (z5_common (z5_common (z5_common 0 (f 0)) (f 1)) (f 2)) (f 3)) (f 4)) (f 5)))), (4, .int 4), (0, .ref h), (1, .int 6)]) hx hb dX5_norm_87 hl (k := 0) rfl (by decide) (by decide) rfl (fun ls hl => ?_)
                refine lv_goto (tgt := 71) hx hb dX5_norm_90 (by decide) ?_
                refine lv_iload hx hb dX5_norm_71 (lv_at hl 0 rfl) ?_
                refine lv_iload_n hx hb dX5_norm_73 rfl (lv_at hl 4 rfl) ?_
                refine lv_icmp_ge (tgt := 93) hx hb dX5_norm_74 (by decide) (fun h => absurd h (by decide)) (fun _ => ?_)
                refine lv_aload_n hx hb dX5_norm_77 rfl (lv_at hl 3 rfl) ?_
                refine lv_iload hx hb dX5_norm_78 (lv_at hl 0 rfl) ?_
                refine lv_aload_n hx hb dX5_norm_80 rfl (lv_at hl 3 rfl) ?_
                refine lv_iload hx hb dX5_norm_81 (lv_at hl 0 rfl) ?_
                refine ld_l hx hb hK.1 hP 0 1 rfl rfl (ix_lit (by decide)) 4 (by decide) (v := f 4) rfl dX5_norm_83 ?_
                refine lv_lload_n hx hb dX5_norm_84 rfl (lv_at hl 1 rfl) ?_
                refine lv_ldiv hx hb dX5_norm_85 (ng_ne c_1) ?_
                refine st_l hx hb hK.1 hP hD hS 0 1 rfl rfl (ix_lit (by decide)) 4 (by decide) dX5_norm_86 (fun H locs hP hD hS => ?_)
                have hP : va_P D vwCl [kJ h cJ 6 (vp_updL (vp_updL (vp_updL (vp_updL (vp_updL f 0 ((f 0) / (-(z5_common (z5_common (z5_common (z5_common (z5_common (z5_common 0 (f 0)) (f 1)) (f 2)) (f 3)) (f 4)) (f 5))))) 1 ((f 1) / (-(z5_common (z5_common (z5_common (z5_common (z5_common (z5_common 0 (f 0)) (f 1)) (f 2)) (f 3)) (f 4)) (f 5))))) 2 ((f 2) / (-(z5_common (z5_common (z5_common (z5_common (z5_common (z5_common 0 (f 0)) (f 1)) (f 2)) (f 3)) (f 4)) (f 5))))) 3 ((f 3) / (-(z5_common (z5_common (z5_common (z5_common (z5_common (z5_common 0 (f 0)) (f 1)) (f 2)) (f 3)) (f 4)) (f 5))))) 4 ((f 4) / (-(z5_common (z5_common (z5_common (z5_common (z5_common (z5_common 0 (f 0)) (f 1)) (f 2)) (f 3)) (f 4)) (f 5)))))] H := hP
                have hD : va_D A [kJ h cJ 6 (vp_updL (vp_updL (vp_updL (vp_updL (vp_updL f 0 ((f 0) / (-(z5_common (z5_common (z5_common (z5_common (z5_common (z5_common 0 (f 0)) (f 1)) (f 2)) (f 3)) (f 4)) (f 5))))) 1 ((f 1) / (-(z5_common (z5_common (z5_common (z5_common (z5_common (z5_common 0 (f 0)) (f 1)) (f 2)) (f 3)) (f 4)) (f 5))))) 2 ((f 2) / (-(z5_common (z5_common (z5_common (z5_common (z5_common (z5_common 0 (f 0)) (f 1)) (f 2)) (f 3)) (f 4)) (f 5))))) 3 ((f 3) / (-(z5_common (z5_common (z5_common (z5_common (z5_common (z5_common 0 (f 0)) (f 1)) (f 2)) (f 3)) (f 4)) (f 5))))) 4 ((f 4) / (-(z5_common (z5_common (z5_common (z5_common (z5_common (z5_common 0 (f 0)) (f 1)) (f 2)) (f 3)) (f 4)) (f 5)))))] := hD
                refine lv_iinc (v := 5) (lv' := [(5, .int 5), (2, .long (-(z5_common (z5_common (z5_common (z5_common (z5_common (z5_common 0 (f 0)) (f 1)) (f 2)) (f 3)) (f 4)) (f 5)))), (4, .int 4), (0, .ref h), (1, .int 6)]) hx hb dX5_norm_87 hl (k := 0) rfl (by decide) (by decide) rfl (fun ls hl => ?_)
                refine lv_goto (tgt := 71) hx hb dX5_norm_90 (by decide) ?_
                refine lv_iload hx hb dX5_norm_71 (lv_at hl 0 rfl) ?_
                refine lv_iload_n hx hb dX5_norm_73 rfl (lv_at hl 4 rfl) ?_
                refine lv_icmp_ge (tgt := 93) hx hb dX5_norm_74 (by decide) (fun h => absurd h (by decide)) (fun _ => ?_)
                refine lv_aload_n hx hb dX5_norm_77 rfl (lv_at hl 3 rfl) ?_
                refine lv_iload hx hb dX5_norm_78 (lv_at hl 0 rfl) ?_
                refine lv_aload_n hx hb dX5_norm_80 rfl (lv_at hl 3 rfl) ?_
                refine lv_iload hx hb dX5_norm_81 (lv_at hl 0 rfl) ?_
                refine ld_l hx hb hK.1 hP 0 1 rfl rfl (ix_lit (by decide)) 5 (by decide) (v := f 5) rfl dX5_norm_83 ?_
                refine lv_lload_n hx hb dX5_norm_84 rfl (lv_at hl 1 rfl) ?_
                refine lv_ldiv hx hb dX5_norm_85 (ng_ne c_1) ?_
                refine st_l hx hb hK.1 hP hD hS 0 1 rfl rfl (ix_lit (by decide)) 5 (by decide) dX5_norm_86 (fun H locs hP hD hS => ?_)
                have hP : va_P D vwCl [kJ h cJ 6 (vp_updL (vp_updL (vp_updL (vp_updL (vp_updL (vp_updL f 0 ((f 0) / (-(z5_common (z5_common (z5_common (z5_common (z5_common (z5_common 0 (f 0)) (f 1)) (f 2)) (f 3)) (f 4)) (f 5))))) 1 ((f 1) / (-(z5_common (z5_common (z5_common (z5_common (z5_common (z5_common 0 (f 0)) (f 1)) (f 2)) (f 3)) (f 4)) (f 5))))) 2 ((f 2) / (-(z5_common (z5_common (z5_common (z5_common (z5_common (z5_common 0 (f 0)) (f 1)) (f 2)) (f 3)) (f 4)) (f 5))))) 3 ((f 3) / (-(z5_common (z5_common (z5_common (z5_common (z5_common (z5_common 0 (f 0)) (f 1)) (f 2)) (f 3)) (f 4)) (f 5))))) 4 ((f 4) / (-(z5_common (z5_common (z5_common (z5_common (z5_common (z5_common 0 (f 0)) (f 1)) (f 2)) (f 3)) (f 4)) (f 5))))) 5 ((f 5) / (-(z5_common (z5_common (z5_common (z5_common (z5_common (z5_common 0 (f 0)) (f 1)) (f 2)) (f 3)) (f 4)) (f 5)))))] H := hP
                have hD : va_D A [kJ h cJ 6 (vp_updL (vp_updL (vp_updL (vp_updL (vp_updL (vp_updL f 0 ((f 0) / (-(z5_common (z5_common (z5_common (z5_common (z5_common (z5_common 0 (f 0)) (f 1)) (f 2)) (f 3)) (f 4)) (f 5))))) 1 ((f 1) / (-(z5_common (z5_common (z5_common (z5_common (z5_common (z5_common 0 (f 0)) (f 1)) (f 2)) (f 3)) (f 4)) (f 5))))) 2 ((f 2) / (-(z5_common (z5_common (z5_common (z5_common (z5_common (z5_common 0 (f 0)) (f 1)) (f 2)) (f 3)) (f 4)) (f 5))))) 3 ((f 3) / (-(z5_common (z5_common (z5_common (z5_common (z5_common (z5_common 0 (f 0)) (f 1)) (f 2)) (f 3)) (f 4)) (f 5))))) 4 ((f 4) / (-(z5_common (z5_common (z5_common (z5_common (z5_common (z5_common 0 (f 0)) (f 1)) (f 2)) (f 3)) (f 4)) (f 5))))) 5 ((f 5) / (-(z5_common (z5_common (z5_common (z5_common (z5_common (z5_common 0 (f 0)) (f 1)) (f 2)) (f 3)) (f 4)) (f 5)))))] := hD
                refine lv_iinc (v := 6) (lv' := [(5, .int 6), (2, .long (-(z5_common (z5_common (z5_common (z5_common (z5_common (z5_common 0 (f 0)) (f 1)) (f 2)) (f 3)) (f 4)) (f 5)))), (4, .int 4), (0, .ref h), (1, .int 6)]) hx hb dX5_norm_87 hl (k := 0) rfl (by decide) (by decide) rfl (fun ls hl => ?_)
                refine lv_goto (tgt := 71) hx hb dX5_norm_90 (by decide) ?_
                refine lv_iload hx hb dX5_norm_71 (lv_at hl 0 rfl) ?_
                refine lv_iload_n hx hb dX5_norm_73 rfl (lv_at hl 4 rfl) ?_
                refine lv_icmp_ge (tgt := 93) hx hb dX5_norm_74 (by decide) (fun _ => ?_) (fun h => absurd (by decide) h)
                refine lv_iconst (v := 1) hx hb dX5_norm_93 (by decide) ?_
                have he : z5_norm_6_6 f = (1, vp_updL (vp_updL (vp_updL (vp_updL (vp_updL (vp_updL f 0 ((f 0) / (-(z5_common (z5_common (z5_common (z5_common (z5_common (z5_common 0 (f 0)) (f 1)) (f 2)) (f 3)) (f 4)) (f 5))))) 1 ((f 1) / (-(z5_common (z5_common (z5_common (z5_common (z5_common (z5_common 0 (f 0)) (f 1)) (f 2)) (f 3)) (f 4)) (f 5))))) 2 ((f 2) / (-(z5_common (z5_common (z5_common (z5_common (z5_common (z5_common 0 (f 0)) (f 1)) (f 2)) (f 3)) (f 4)) (f 5))))) 3 ((f 3) / (-(z5_common (z5_common (z5_common (z5_common (z5_common (z5_common 0 (f 0)) (f 1)) (f 2)) (f 3)) (f 4)) (f 5))))) 4 ((f 4) / (-(z5_common (z5_common (z5_common (z5_common (z5_common (z5_common 0 (f 0)) (f 1)) (f 2)) (f 3)) (f 4)) (f 5))))) 5 ((f 5) / (-(z5_common (z5_common (z5_common (z5_common (z5_common (z5_common 0 (f 0)) (f 1)) (f 2)) (f 3)) (f 4)) (f 5))))) := by unfold z5_norm_6_6; rw [if_neg c_1, if_pos c_2, if_pos c_4, if_pos c_6, if_pos c_8, if_neg c_10, if_neg c_11]
                have he_0 : (z5_norm_6_6 f).1 = 1 := by rw [he]
                have he_1 : (z5_norm_6_6 f).2 = vp_updL (vp_updL (vp_updL (vp_updL (vp_updL (vp_updL f 0 ((f 0) / (-(z5_common (z5_common (z5_common (z5_common (z5_common (z5_common 0 (f 0)) (f 1)) (f 2)) (f 3)) (f 4)) (f 5))))) 1 ((f 1) / (-(z5_common (z5_common (z5_common (z5_common (z5_common (z5_common 0 (f 0)) (f 1)) (f 2)) (f 3)) (f 4)) (f 5))))) 2 ((f 2) / (-(z5_common (z5_common (z5_common (z5_common (z5_common (z5_common 0 (f 0)) (f 1)) (f 2)) (f 3)) (f 4)) (f 5))))) 3 ((f 3) / (-(z5_common (z5_common (z5_common (z5_common (z5_common (z5_common 0 (f 0)) (f 1)) (f 2)) (f 3)) (f 4)) (f 5))))) 4 ((f 4) / (-(z5_common (z5_common (z5_common (z5_common (z5_common (z5_common 0 (f 0)) (f 1)) (f 2)) (f 3)) (f 4)) (f 5))))) 5 ((f 5) / (-(z5_common (z5_common (z5_common (z5_common (z5_common (z5_common 0 (f 0)) (f 1)) (f 2)) (f 3)) (f 4)) (f 5)))) := by rw [he]
                exact rt_z (w1 := fun uu : Unit => [kJ h cJ 6 ((z5_norm_6_6 f).2)]) hx hb hr rfl hlk hS dX5_norm_94 (()) he_0.symm (by rw [he_1]; exact hP) (by rw [he_1]; exact hD)
            · skip
              refine lv_iinc (v := 5) (lv' := [(4, .int 5), (2, .long (z5_common (z5_common (z5_common (z5_common (z5_common (z5_common 0 (f 0)) (f 1)) (f 2)) (f 3)) (f 4)) (f 5))), (0, .ref h), (1, .int 6)]) hx hb dX5_norm_46 hl (k := 0) rfl (by decide) (by decide) rfl (fun ls hl => ?_)
              refine lv_goto (tgt := 37) hx hb dX5_norm_49 (by decide) ?_
              refine lv_aload_n hx hb dX5_norm_37 rfl (lv_at hl 2 rfl) ?_
              refine lv_iload hx hb dX5_norm_38 (lv_at hl 0 rfl) ?_
              refine ld_l hx hb hK.1 hP 0 1 rfl rfl (ix_lit (by decide)) 5 (by decide) (v := f 5) rfl dX5_norm_40 ?_
              refine lv_lconst (v := 0) hx hb dX5_norm_41 (by decide) ?_
              refine lb_ne (tgt := 52) hx hb dX5_norm_42 rfl dX5_norm_43 (by decide) (fun c_12 => ?_) (fun c_12 => ?_)
              · skip
                refine lv_aload_n hx hb dX5_norm_52 rfl (lv_at hl 2 rfl) ?_
                refine lv_iload hx hb dX5_norm_53 (lv_at hl 0 rfl) ?_
                refine ld_l hx hb hK.1 hP 0 1 rfl rfl (ix_lit (by decide)) 5 (by decide) (v := f 5) rfl dX5_norm_55 ?_
                refine lv_lconst (v := 0) hx hb dX5_norm_56 (by decide) ?_
                refine lb_ge (tgt := 66) hx hb dX5_norm_57 rfl dX5_norm_58 (by decide) (fun c_13 => ?_) (fun c_13 => ?_)
                · skip
                  refine lv_lload_n hx hb dX5_norm_66 rfl (lv_at hl 1 rfl) ?_
                  refine lv_lstore_n (lv' := [(2, .long (z5_common (z5_common (z5_common (z5_common (z5_common (z5_common 0 (f 0)) (f 1)) (f 2)) (f 3)) (f 4)) (f 5))), (4, .int 5), (0, .ref h), (1, .int 6)]) hx hb dX5_norm_67 rfl hl (by decide) rfl (fun ls hl => ?_)
                  refine lv_iconst (v := 0) hx hb dX5_norm_68 (by decide) ?_
                  refine lv_istore (lv' := [(5, .int 0), (2, .long (z5_common (z5_common (z5_common (z5_common (z5_common (z5_common 0 (f 0)) (f 1)) (f 2)) (f 3)) (f 4)) (f 5))), (4, .int 5), (0, .ref h), (1, .int 6)]) hx hb dX5_norm_69 hl (by decide) rfl (fun ls hl => ?_)
                  refine lv_iload hx hb dX5_norm_71 (lv_at hl 0 rfl) ?_
                  refine lv_iload_n hx hb dX5_norm_73 rfl (lv_at hl 4 rfl) ?_
                  refine lv_icmp_ge (tgt := 93) hx hb dX5_norm_74 (by decide) (fun h => absurd h (by decide)) (fun _ => ?_)
                  refine lv_aload_n hx hb dX5_norm_77 rfl (lv_at hl 3 rfl) ?_
                  refine lv_iload hx hb dX5_norm_78 (lv_at hl 0 rfl) ?_
                  refine lv_aload_n hx hb dX5_norm_80 rfl (lv_at hl 3 rfl) ?_
                  refine lv_iload hx hb dX5_norm_81 (lv_at hl 0 rfl) ?_
                  refine ld_l hx hb hK.1 hP 0 1 rfl rfl (ix_lit (by decide)) 0 (by decide) (v := f 0) rfl dX5_norm_83 ?_
                  refine lv_lload_n hx hb dX5_norm_84 rfl (lv_at hl 1 rfl) ?_
                  refine lv_ldiv hx hb dX5_norm_85 c_1 ?_
                  refine st_l hx hb hK.1 hP hD hS 0 1 rfl rfl (ix_lit (by decide)) 0 (by decide) dX5_norm_86 (fun H locs hP hD hS => ?_)
                  have hP : va_P D vwCl [kJ h cJ 6 (vp_updL f 0 ((f 0) / (z5_common (z5_common (z5_common (z5_common (z5_common (z5_common 0 (f 0)) (f 1)) (f 2)) (f 3)) (f 4)) (f 5))))] H := hP
                  have hD : va_D A [kJ h cJ 6 (vp_updL f 0 ((f 0) / (z5_common (z5_common (z5_common (z5_common (z5_common (z5_common 0 (f 0)) (f 1)) (f 2)) (f 3)) (f 4)) (f 5))))] := hD
                  refine lv_iinc (v := 1) (lv' := [(5, .int 1), (2, .long (z5_common (z5_common (z5_common (z5_common (z5_common (z5_common 0 (f 0)) (f 1)) (f 2)) (f 3)) (f 4)) (f 5))), (4, .int 5), (0, .ref h), (1, .int 6)]) hx hb dX5_norm_87 hl (k := 0) rfl (by decide) (by decide) rfl (fun ls hl => ?_)
                  refine lv_goto (tgt := 71) hx hb dX5_norm_90 (by decide) ?_
                  refine lv_iload hx hb dX5_norm_71 (lv_at hl 0 rfl) ?_
                  refine lv_iload_n hx hb dX5_norm_73 rfl (lv_at hl 4 rfl) ?_
                  refine lv_icmp_ge (tgt := 93) hx hb dX5_norm_74 (by decide) (fun h => absurd h (by decide)) (fun _ => ?_)
                  refine lv_aload_n hx hb dX5_norm_77 rfl (lv_at hl 3 rfl) ?_
                  refine lv_iload hx hb dX5_norm_78 (lv_at hl 0 rfl) ?_
                  refine lv_aload_n hx hb dX5_norm_80 rfl (lv_at hl 3 rfl) ?_
                  refine lv_iload hx hb dX5_norm_81 (lv_at hl 0 rfl) ?_
                  refine ld_l hx hb hK.1 hP 0 1 rfl rfl (ix_lit (by decide)) 1 (by decide) (v := f 1) rfl dX5_norm_83 ?_
                  refine lv_lload_n hx hb dX5_norm_84 rfl (lv_at hl 1 rfl) ?_
                  refine lv_ldiv hx hb dX5_norm_85 c_1 ?_
                  refine st_l hx hb hK.1 hP hD hS 0 1 rfl rfl (ix_lit (by decide)) 1 (by decide) dX5_norm_86 (fun H locs hP hD hS => ?_)
                  have hP : va_P D vwCl [kJ h cJ 6 (vp_updL (vp_updL f 0 ((f 0) / (z5_common (z5_common (z5_common (z5_common (z5_common (z5_common 0 (f 0)) (f 1)) (f 2)) (f 3)) (f 4)) (f 5)))) 1 ((f 1) / (z5_common (z5_common (z5_common (z5_common (z5_common (z5_common 0 (f 0)) (f 1)) (f 2)) (f 3)) (f 4)) (f 5))))] H := hP
                  have hD : va_D A [kJ h cJ 6 (vp_updL (vp_updL f 0 ((f 0) / (z5_common (z5_common (z5_common (z5_common (z5_common (z5_common 0 (f 0)) (f 1)) (f 2)) (f 3)) (f 4)) (f 5)))) 1 ((f 1) / (z5_common (z5_common (z5_common (z5_common (z5_common (z5_common 0 (f 0)) (f 1)) (f 2)) (f 3)) (f 4)) (f 5))))] := hD
                  refine lv_iinc (v := 2) (lv' := [(5, .int 2), (2, .long (z5_common (z5_common (z5_common (z5_common (z5_common (z5_common 0 (f 0)) (f 1)) (f 2)) (f 3)) (f 4)) (f 5))), (4, .int 5), (0, .ref h), (1, .int 6)]) hx hb dX5_norm_87 hl (k := 0) rfl (by decide) (by decide) rfl (fun ls hl => ?_)
                  refine lv_goto (tgt := 71) hx hb dX5_norm_90 (by decide) ?_
                  refine lv_iload hx hb dX5_norm_71 (lv_at hl 0 rfl) ?_
                  refine lv_iload_n hx hb dX5_norm_73 rfl (lv_at hl 4 rfl) ?_
                  refine lv_icmp_ge (tgt := 93) hx hb dX5_norm_74 (by decide) (fun h => absurd h (by decide)) (fun _ => ?_)
                  refine lv_aload_n hx hb dX5_norm_77 rfl (lv_at hl 3 rfl) ?_
                  refine lv_iload hx hb dX5_norm_78 (lv_at hl 0 rfl) ?_
                  refine lv_aload_n hx hb dX5_norm_80 rfl (lv_at hl 3 rfl) ?_
                  refine lv_iload hx hb dX5_norm_81 (lv_at hl 0 rfl) ?_
                  refine ld_l hx hb hK.1 hP 0 1 rfl rfl (ix_lit (by decide)) 2 (by decide) (v := f 2) rfl dX5_norm_83 ?_
                  refine lv_lload_n hx hb dX5_norm_84 rfl (lv_at hl 1 rfl) ?_
                  refine lv_ldiv hx hb dX5_norm_85 c_1 ?_
                  refine st_l hx hb hK.1 hP hD hS 0 1 rfl rfl (ix_lit (by decide)) 2 (by decide) dX5_norm_86 (fun H locs hP hD hS => ?_)
                  have hP : va_P D vwCl [kJ h cJ 6 (vp_updL (vp_updL (vp_updL f 0 ((f 0) / (z5_common (z5_common (z5_common (z5_common (z5_common (z5_common 0 (f 0)) (f 1)) (f 2)) (f 3)) (f 4)) (f 5)))) 1 ((f 1) / (z5_common (z5_common (z5_common (z5_common (z5_common (z5_common 0 (f 0)) (f 1)) (f 2)) (f 3)) (f 4)) (f 5)))) 2 ((f 2) / (z5_common (z5_common (z5_common (z5_common (z5_common (z5_common 0 (f 0)) (f 1)) (f 2)) (f 3)) (f 4)) (f 5))))] H := hP
                  have hD : va_D A [kJ h cJ 6 (vp_updL (vp_updL (vp_updL f 0 ((f 0) / (z5_common (z5_common (z5_common (z5_common (z5_common (z5_common 0 (f 0)) (f 1)) (f 2)) (f 3)) (f 4)) (f 5)))) 1 ((f 1) / (z5_common (z5_common (z5_common (z5_common (z5_common (z5_common 0 (f 0)) (f 1)) (f 2)) (f 3)) (f 4)) (f 5)))) 2 ((f 2) / (z5_common (z5_common (z5_common (z5_common (z5_common (z5_common 0 (f 0)) (f 1)) (f 2)) (f 3)) (f 4)) (f 5))))] := hD
                  refine lv_iinc (v := 3) (lv' := [(5, .int 3), (2, .long (z5_common (z5_common (z5_common (z5_common (z5_common (z5_common 0 (f 0)) (f 1)) (f 2)) (f 3)) (f 4)) (f 5))), (4, .int 5), (0, .ref h), (1, .int 6)]) hx hb dX5_norm_87 hl (k := 0) rfl (by decide) (by decide) rfl (fun ls hl => ?_)
                  refine lv_goto (tgt := 71) hx hb dX5_norm_90 (by decide) ?_
                  refine lv_iload hx hb dX5_norm_71 (lv_at hl 0 rfl) ?_
                  refine lv_iload_n hx hb dX5_norm_73 rfl (lv_at hl 4 rfl) ?_
                  refine lv_icmp_ge (tgt := 93) hx hb dX5_norm_74 (by decide) (fun h => absurd h (by decide)) (fun _ => ?_)
                  refine lv_aload_n hx hb dX5_norm_77 rfl (lv_at hl 3 rfl) ?_
                  refine lv_iload hx hb dX5_norm_78 (lv_at hl 0 rfl) ?_
                  refine lv_aload_n hx hb dX5_norm_80 rfl (lv_at hl 3 rfl) ?_
                  refine lv_iload hx hb dX5_norm_81 (lv_at hl 0 rfl) ?_
                  refine ld_l hx hb hK.1 hP 0 1 rfl rfl (ix_lit (by decide)) 3 (by decide) (v := f 3) rfl dX5_norm_83 ?_
                  refine lv_lload_n hx hb dX5_norm_84 rfl (lv_at hl 1 rfl) ?_
                  refine lv_ldiv hx hb dX5_norm_85 c_1 ?_
                  refine st_l hx hb hK.1 hP hD hS 0 1 rfl rfl (ix_lit (by decide)) 3 (by decide) dX5_norm_86 (fun H locs hP hD hS => ?_)
                  have hP : va_P D vwCl [kJ h cJ 6 (vp_updL (vp_updL (vp_updL (vp_updL f 0 ((f 0) / (z5_common (z5_common (z5_common (z5_common (z5_common (z5_common 0 (f 0)) (f 1)) (f 2)) (f 3)) (f 4)) (f 5)))) 1 ((f 1) / (z5_common (z5_common (z5_common (z5_common (z5_common (z5_common 0 (f 0)) (f 1)) (f 2)) (f 3)) (f 4)) (f 5)))) 2 ((f 2) / (z5_common (z5_common (z5_common (z5_common (z5_common (z5_common 0 (f 0)) (f 1)) (f 2)) (f 3)) (f 4)) (f 5)))) 3 ((f 3) / (z5_common (z5_common (z5_common (z5_common (z5_common (z5_common 0 (f 0)) (f 1)) (f 2)) (f 3)) (f 4)) (f 5))))] H := hP
                  have hD : va_D A [kJ h cJ 6 (vp_updL (vp_updL (vp_updL (vp_updL f 0 ((f 0) / (z5_common (z5_common (z5_common (z5_common (z5_common (z5_common 0 (f 0)) (f 1)) (f 2)) (f 3)) (f 4)) (f 5)))) 1 ((f 1) / (z5_common (z5_common (z5_common (z5_common (z5_common (z5_common 0 (f 0)) (f 1)) (f 2)) (f 3)) (f 4)) (f 5)))) 2 ((f 2) / (z5_common (z5_common (z5_common (z5_common (z5_common (z5_common 0 (f 0)) (f 1)) (f 2)) (f 3)) (f 4)) (f 5)))) 3 ((f 3) / (z5_common (z5_common (z5_common (z5_common (z5_common (z5_common 0 (f 0)) (f 1)) (f 2)) (f 3)) (f 4)) (f 5))))] := hD
                  refine lv_iinc (v := 4) (lv' := [(5, .int 4), (2, .long (z5_common (z5_common (z5_common (z5_common (z5_common (z5_common 0 (f 0)) (f 1)) (f 2)) (f 3)) (f 4)) (f 5))), (4, .int 5), (0, .ref h), (1, .int 6)]) hx hb dX5_norm_87 hl (k := 0) rfl (by decide) (by decide) rfl (fun ls hl => ?_)
                  refine lv_goto (tgt := 71) hx hb dX5_norm_90 (by decide) ?_
                  refine lv_iload hx hb dX5_norm_71 (lv_at hl 0 rfl) ?_
                  refine lv_iload_n hx hb dX5_norm_73 rfl (lv_at hl 4 rfl) ?_
                  refine lv_icmp_ge (tgt := 93) hx hb dX5_norm_74 (by decide) (fun h => absurd h (by decide)) (fun _ => ?_)
                  refine lv_aload_n hx hb dX5_norm_77 rfl (lv_at hl 3 rfl) ?_
                  refine lv_iload hx hb dX5_norm_78 (lv_at hl 0 rfl) ?_
                  refine lv_aload_n hx hb dX5_norm_80 rfl (lv_at hl 3 rfl) ?_
                  refine lv_iload hx hb dX5_norm_81 (lv_at hl 0 rfl) ?_
                  refine ld_l hx hb hK.1 hP 0 1 rfl rfl (ix_lit (by decide)) 4 (by decide) (v := f 4) rfl dX5_norm_83 ?_
                  refine lv_lload_n hx hb dX5_norm_84 rfl (lv_at hl 1 rfl) ?_
                  refine lv_ldiv hx hb dX5_norm_85 c_1 ?_
                  refine st_l hx hb hK.1 hP hD hS 0 1 rfl rfl (ix_lit (by decide)) 4 (by decide) dX5_norm_86 (fun H locs hP hD hS => ?_)
                  have hP : va_P D vwCl [kJ h cJ 6 (vp_updL (vp_updL (vp_updL (vp_updL (vp_updL f 0 ((f 0) / (z5_common (z5_common (z5_common (z5_common (z5_common (z5_common 0 (f 0)) (f 1)) (f 2)) (f 3)) (f 4)) (f 5)))) 1 ((f 1) / (z5_common (z5_common (z5_common (z5_common (z5_common (z5_common 0 (f 0)) (f 1)) (f 2)) (f 3)) (f 4)) (f 5)))) 2 ((f 2) / (z5_common (z5_common (z5_common (z5_common (z5_common (z5_common 0 (f 0)) (f 1)) (f 2)) (f 3)) (f 4)) (f 5)))) 3 ((f 3) / (z5_common (z5_common (z5_common (z5_common (z5_common (z5_common 0 (f 0)) (f 1)) (f 2)) (f 3)) (f 4)) (f 5)))) 4 ((f 4) / (z5_common (z5_common (z5_common (z5_common (z5_common (z5_common 0 (f 0)) (f 1)) (f 2)) (f 3)) (f 4)) (f 5))))] H := hP
                  have hD : va_D A [kJ h cJ 6 (vp_updL (vp_updL (vp_updL (vp_updL (vp_updL f 0 ((f 0) / (z5_common (z5_common (z5_common (z5_common (z5_common (z5_common 0 (f 0)) (f 1)) (f 2)) (f 3)) (f 4)) (f 5)))) 1 ((f 1) / (z5_common (z5_common (z5_common (z5_common (z5_common (z5_common 0 (f 0)) (f 1)) (f 2)) (f 3)) (f 4)) (f 5)))) 2 ((f 2) / (z5_common (z5_common (z5_common (z5_common (z5_common (z5_common 0 (f 0)) (f 1)) (f 2)) (f 3)) (f 4)) (f 5)))) 3 ((f 3) / (z5_common (z5_common (z5_common (z5_common (z5_common (z5_common 0 (f 0)) (f 1)) (f 2)) (f 3)) (f 4)) (f 5)))) 4 ((f 4) / (z5_common (z5_common (z5_common (z5_common (z5_common (z5_common 0 (f 0)) (f 1)) (f 2)) (f 3)) (f 4)) (f 5))))] := hD
                  refine lv_iinc (v := 5) (lv' := [(5, .int 5), (2, .long (z5_common (z5_common (z5_common (z5_common (z5_common (z5_common 0 (f 0)) (f 1)) (f 2)) (f 3)) (f 4)) (f 5))), (4, .int 5), (0, .ref h), (1, .int 6)]) hx hb dX5_norm_87 hl (k := 0) rfl (by decide) (by decide) rfl (fun ls hl => ?_)
                  refine lv_goto (tgt := 71) hx hb dX5_norm_90 (by decide) ?_
                  refine lv_iload hx hb dX5_norm_71 (lv_at hl 0 rfl) ?_
                  refine lv_iload_n hx hb dX5_norm_73 rfl (lv_at hl 4 rfl) ?_
                  refine lv_icmp_ge (tgt := 93) hx hb dX5_norm_74 (by decide) (fun h => absurd h (by decide)) (fun _ => ?_)
                  refine lv_aload_n hx hb dX5_norm_77 rfl (lv_at hl 3 rfl) ?_
                  refine lv_iload hx hb dX5_norm_78 (lv_at hl 0 rfl) ?_
                  refine lv_aload_n hx hb dX5_norm_80 rfl (lv_at hl 3 rfl) ?_
                  refine lv_iload hx hb dX5_norm_81 (lv_at hl 0 rfl) ?_
                  refine ld_l hx hb hK.1 hP 0 1 rfl rfl (ix_lit (by decide)) 5 (by decide) (v := f 5) rfl dX5_norm_83 ?_
                  refine lv_lload_n hx hb dX5_norm_84 rfl (lv_at hl 1 rfl) ?_
                  refine lv_ldiv hx hb dX5_norm_85 c_1 ?_
                  refine st_l hx hb hK.1 hP hD hS 0 1 rfl rfl (ix_lit (by decide)) 5 (by decide) dX5_norm_86 (fun H locs hP hD hS => ?_)
                  have hP : va_P D vwCl [kJ h cJ 6 (vp_updL (vp_updL (vp_updL (vp_updL (vp_updL (vp_updL f 0 ((f 0) / (z5_common (z5_common (z5_common (z5_common (z5_common (z5_common 0 (f 0)) (f 1)) (f 2)) (f 3)) (f 4)) (f 5)))) 1 ((f 1) / (z5_common (z5_common (z5_common (z5_common (z5_common (z5_common 0 (f 0)) (f 1)) (f 2)) (f 3)) (f 4)) (f 5)))) 2 ((f 2) / (z5_common (z5_common (z5_common (z5_common (z5_common (z5_common 0 (f 0)) (f 1)) (f 2)) (f 3)) (f 4)) (f 5)))) 3 ((f 3) / (z5_common (z5_common (z5_common (z5_common (z5_common (z5_common 0 (f 0)) (f 1)) (f 2)) (f 3)) (f 4)) (f 5)))) 4 ((f 4) / (z5_common (z5_common (z5_common (z5_common (z5_common (z5_common 0 (f 0)) (f 1)) (f 2)) (f 3)) (f 4)) (f 5)))) 5 ((f 5) / (z5_common (z5_common (z5_common (z5_common (z5_common (z5_common 0 (f 0)) (f 1)) (f 2)) (f 3)) (f 4)) (f 5))))] H := hP
                  have hD : va_D A [kJ h cJ 6 (vp_updL (vp_updL (vp_updL (vp_updL (vp_updL (vp_updL f 0 ((f 0) / (z5_common (z5_common (z5_common (z5_common (z5_common (z5_common 0 (f 0)) (f 1)) (f 2)) (f 3)) (f 4)) (f 5)))) 1 ((f 1) / (z5_common (z5_common (z5_common (z5_common (z5_common (z5_common 0 (f 0)) (f 1)) (f 2)) (f 3)) (f 4)) (f 5)))) 2 ((f 2) / (z5_common (z5_common (z5_common (z5_common (z5_common (z5_common 0 (f 0)) (f 1)) (f 2)) (f 3)) (f 4)) (f 5)))) 3 ((f 3) / (z5_common (z5_common (z5_common (z5_common (z5_common (z5_common 0 (f 0)) (f 1)) (f 2)) (f 3)) (f 4)) (f 5)))) 4 ((f 4) / (z5_common (z5_common (z5_common (z5_common (z5_common (z5_common 0 (f 0)) (f 1)) (f 2)) (f 3)) (f 4)) (f 5)))) 5 ((f 5) / (z5_common (z5_common (z5_common (z5_common (z5_common (z5_common 0 (f 0)) (f 1)) (f 2)) (f 3)) (f 4)) (f 5))))] := hD
                  refine lv_iinc (v := 6) (lv' := [(5, .int 6), (2, .long (z5_common (z5_common (z5_common (z5_common (z5_common (z5_common 0 (f 0)) (f 1)) (f 2)) (f 3)) (f 4)) (f 5))), (4, .int 5), (0, .ref h), (1, .int 6)]) hx hb dX5_norm_87 hl (k := 0) rfl (by decide) (by decide) rfl (fun ls hl => ?_)
                  refine lv_goto (tgt := 71) hx hb dX5_norm_90 (by decide) ?_
                  refine lv_iload hx hb dX5_norm_71 (lv_at hl 0 rfl) ?_
                  refine lv_iload_n hx hb dX5_norm_73 rfl (lv_at hl 4 rfl) ?_
                  refine lv_icmp_ge (tgt := 93) hx hb dX5_norm_74 (by decide) (fun _ => ?_) (fun h => absurd (by decide) h)
                  refine lv_iconst (v := 1) hx hb dX5_norm_93 (by decide) ?_
                  have he : z5_norm_6_6 f = (1, vp_updL (vp_updL (vp_updL (vp_updL (vp_updL (vp_updL f 0 ((f 0) / (z5_common (z5_common (z5_common (z5_common (z5_common (z5_common 0 (f 0)) (f 1)) (f 2)) (f 3)) (f 4)) (f 5)))) 1 ((f 1) / (z5_common (z5_common (z5_common (z5_common (z5_common (z5_common 0 (f 0)) (f 1)) (f 2)) (f 3)) (f 4)) (f 5)))) 2 ((f 2) / (z5_common (z5_common (z5_common (z5_common (z5_common (z5_common 0 (f 0)) (f 1)) (f 2)) (f 3)) (f 4)) (f 5)))) 3 ((f 3) / (z5_common (z5_common (z5_common (z5_common (z5_common (z5_common 0 (f 0)) (f 1)) (f 2)) (f 3)) (f 4)) (f 5)))) 4 ((f 4) / (z5_common (z5_common (z5_common (z5_common (z5_common (z5_common 0 (f 0)) (f 1)) (f 2)) (f 3)) (f 4)) (f 5)))) 5 ((f 5) / (z5_common (z5_common (z5_common (z5_common (z5_common (z5_common 0 (f 0)) (f 1)) (f 2)) (f 3)) (f 4)) (f 5)))) := by unfold z5_norm_6_6; rw [if_neg c_1, if_pos c_2, if_pos c_4, if_pos c_6, if_pos c_8, if_pos c_10, if_neg c_12, if_pos c_13]
                  have he_0 : (z5_norm_6_6 f).1 = 1 := by rw [he]
                  have he_1 : (z5_norm_6_6 f).2 = vp_updL (vp_updL (vp_updL (vp_updL (vp_updL (vp_updL f 0 ((f 0) / (z5_common (z5_common (z5_common (z5_common (z5_common (z5_common 0 (f 0)) (f 1)) (f 2)) (f 3)) (f 4)) (f 5)))) 1 ((f 1) / (z5_common (z5_common (z5_common (z5_common (z5_common (z5_common 0 (f 0)) (f 1)) (f 2)) (f 3)) (f 4)) (f 5)))) 2 ((f 2) / (z5_common (z5_common (z5_common (z5_common (z5_common (z5_common 0 (f 0)) (f 1)) (f 2)) (f 3)) (f 4)) (f 5)))) 3 ((f 3) / (z5_common (z5_common (z5_common (z5_common (z5_common (z5_common 0 (f 0)) (f 1)) (f 2)) (f 3)) (f 4)) (f 5)))) 4 ((f 4) / (z5_common (z5_common (z5_common (z5_common (z5_common (z5_common 0 (f 0)) (f 1)) (f 2)) (f 3)) (f 4)) (f 5)))) 5 ((f 5) / (z5_common (z5_common (z5_common (z5_common (z5_common (z5_common 0 (f 0)) (f 1)) (f 2)) (f 3)) (f 4)) (f 5))) := by rw [he]
                  exact rt_z (w1 := fun uu : Unit => [kJ h cJ 6 ((z5_norm_6_6 f).2)]) hx hb hr rfl hlk hS dX5_norm_94 (()) he_0.symm (by rw [he_1]; exact hP) (by rw [he_1]; exact hD)
                · skip
                  refine lv_lload_n hx hb dX5_norm_61 rfl (lv_at hl 1 rfl) ?_
                  refine lv_lneg hx hb dX5_norm_62 ?_
                  refine lv_goto (tgt := 67) hx hb dX5_norm_63 (by decide) ?_
                  refine lv_lstore_n (lv' := [(2, .long (-(z5_common (z5_common (z5_common (z5_common (z5_common (z5_common 0 (f 0)) (f 1)) (f 2)) (f 3)) (f 4)) (f 5)))), (4, .int 5), (0, .ref h), (1, .int 6)]) hx hb dX5_norm_67 rfl hl (by decide) rfl (fun ls hl => ?_)
                  refine lv_iconst (v := 0) hx hb dX5_norm_68 (by decide) ?_
                  refine lv_istore (lv' := [(5, .int 0), (2, .long (-(z5_common (z5_common (z5_common (z5_common (z5_common (z5_common 0 (f 0)) (f 1)) (f 2)) (f 3)) (f 4)) (f 5)))), (4, .int 5), (0, .ref h), (1, .int 6)]) hx hb dX5_norm_69 hl (by decide) rfl (fun ls hl => ?_)
                  refine lv_iload hx hb dX5_norm_71 (lv_at hl 0 rfl) ?_
                  refine lv_iload_n hx hb dX5_norm_73 rfl (lv_at hl 4 rfl) ?_
                  refine lv_icmp_ge (tgt := 93) hx hb dX5_norm_74 (by decide) (fun h => absurd h (by decide)) (fun _ => ?_)
                  refine lv_aload_n hx hb dX5_norm_77 rfl (lv_at hl 3 rfl) ?_
                  refine lv_iload hx hb dX5_norm_78 (lv_at hl 0 rfl) ?_
                  refine lv_aload_n hx hb dX5_norm_80 rfl (lv_at hl 3 rfl) ?_
                  refine lv_iload hx hb dX5_norm_81 (lv_at hl 0 rfl) ?_
                  refine ld_l hx hb hK.1 hP 0 1 rfl rfl (ix_lit (by decide)) 0 (by decide) (v := f 0) rfl dX5_norm_83 ?_
                  refine lv_lload_n hx hb dX5_norm_84 rfl (lv_at hl 1 rfl) ?_
                  refine lv_ldiv hx hb dX5_norm_85 (ng_ne c_1) ?_
                  refine st_l hx hb hK.1 hP hD hS 0 1 rfl rfl (ix_lit (by decide)) 0 (by decide) dX5_norm_86 (fun H locs hP hD hS => ?_)
                  have hP : va_P D vwCl [kJ h cJ 6 (vp_updL f 0 ((f 0) / (-(z5_common (z5_common (z5_common (z5_common (z5_common (z5_common 0 (f 0)) (f 1)) (f 2)) (f 3)) (f 4)) (f 5)))))] H := hP
                  have hD : va_D A [kJ h cJ 6 (vp_updL f 0 ((f 0) / (-(z5_common (z5_common (z5_common (z5_common (z5_common (z5_common 0 (f 0)) (f 1)) (f 2)) (f 3)) (f 4)) (f 5)))))] := hD
                  refine lv_iinc (v := 1) (lv' := [(5, .int 1), (2, .long (-(z5_common (z5_common (z5_common (z5_common (z5_common (z5_common 0 (f 0)) (f 1)) (f 2)) (f 3)) (f 4)) (f 5)))), (4, .int 5), (0, .ref h), (1, .int 6)]) hx hb dX5_norm_87 hl (k := 0) rfl (by decide) (by decide) rfl (fun ls hl => ?_)
                  refine lv_goto (tgt := 71) hx hb dX5_norm_90 (by decide) ?_
                  refine lv_iload hx hb dX5_norm_71 (lv_at hl 0 rfl) ?_
                  refine lv_iload_n hx hb dX5_norm_73 rfl (lv_at hl 4 rfl) ?_
                  refine lv_icmp_ge (tgt := 93) hx hb dX5_norm_74 (by decide) (fun h => absurd h (by decide)) (fun _ => ?_)
                  refine lv_aload_n hx hb dX5_norm_77 rfl (lv_at hl 3 rfl) ?_
                  refine lv_iload hx hb dX5_norm_78 (lv_at hl 0 rfl) ?_
                  refine lv_aload_n hx hb dX5_norm_80 rfl (lv_at hl 3 rfl) ?_
                  refine lv_iload hx hb dX5_norm_81 (lv_at hl 0 rfl) ?_
                  refine ld_l hx hb hK.1 hP 0 1 rfl rfl (ix_lit (by decide)) 1 (by decide) (v := f 1) rfl dX5_norm_83 ?_
                  refine lv_lload_n hx hb dX5_norm_84 rfl (lv_at hl 1 rfl) ?_
                  refine lv_ldiv hx hb dX5_norm_85 (ng_ne c_1) ?_
                  refine st_l hx hb hK.1 hP hD hS 0 1 rfl rfl (ix_lit (by decide)) 1 (by decide) dX5_norm_86 (fun H locs hP hD hS => ?_)
                  have hP : va_P D vwCl [kJ h cJ 6 (vp_updL (vp_updL f 0 ((f 0) / (-(z5_common (z5_common (z5_common (z5_common (z5_common (z5_common 0 (f 0)) (f 1)) (f 2)) (f 3)) (f 4)) (f 5))))) 1 ((f 1) / (-(z5_common (z5_common (z5_common (z5_common (z5_common (z5_common 0 (f 0)) (f 1)) (f 2)) (f 3)) (f 4)) (f 5)))))] H := hP
                  have hD : va_D A [kJ h cJ 6 (vp_updL (vp_updL f 0 ((f 0) / (-(z5_common (z5_common (z5_common (z5_common (z5_common (z5_common 0 (f 0)) (f 1)) (f 2)) (f 3)) (f 4)) (f 5))))) 1 ((f 1) / (-(z5_common (z5_common (z5_common (z5_common (z5_common (z5_common 0 (f 0)) (f 1)) (f 2)) (f 3)) (f 4)) (f 5)))))] := hD
                  refine lv_iinc (v := 2) (lv' := [(5, .int 2), (2, .long (-(z5_common (z5_common (z5_common (z5_common (z5_common (z5_common 0 (f 0)) (f 1)) (f 2)) (f 3)) (f 4)) (f 5)))), (4, .int 5), (0, .ref h), (1, .int 6)]) hx hb dX5_norm_87 hl (k := 0) rfl (by decide) (by decide) rfl (fun ls hl => ?_)
                  refine lv_goto (tgt := 71) hx hb dX5_norm_90 (by decide) ?_
                  refine lv_iload hx hb dX5_norm_71 (lv_at hl 0 rfl) ?_
                  refine lv_iload_n hx hb dX5_norm_73 rfl (lv_at hl 4 rfl) ?_
                  refine lv_icmp_ge (tgt := 93) hx hb dX5_norm_74 (by decide) (fun h => absurd h (by decide)) (fun _ => ?_)
                  refine lv_aload_n hx hb dX5_norm_77 rfl (lv_at hl 3 rfl) ?_
                  refine lv_iload hx hb dX5_norm_78 (lv_at hl 0 rfl) ?_
                  refine lv_aload_n hx hb dX5_norm_80 rfl (lv_at hl 3 rfl) ?_
                  refine lv_iload hx hb dX5_norm_81 (lv_at hl 0 rfl) ?_
                  refine ld_l hx hb hK.1 hP 0 1 rfl rfl (ix_lit (by decide)) 2 (by decide) (v := f 2) rfl dX5_norm_83 ?_
                  refine lv_lload_n hx hb dX5_norm_84 rfl (lv_at hl 1 rfl) ?_
                  refine lv_ldiv hx hb dX5_norm_85 (ng_ne c_1) ?_
                  refine st_l hx hb hK.1 hP hD hS 0 1 rfl rfl (ix_lit (by decide)) 2 (by decide) dX5_norm_86 (fun H locs hP hD hS => ?_)
                  have hP : va_P D vwCl [kJ h cJ 6 (vp_updL (vp_updL (vp_updL f 0 ((f 0) / (-(z5_common (z5_common (z5_common (z5_common (z5_common (z5_common 0 (f 0)) (f 1)) (f 2)) (f 3)) (f 4)) (f 5))))) 1 ((f 1) / (-(z5_common (z5_common (z5_common (z5_common (z5_common (z5_common 0 (f 0)) (f 1)) (f 2)) (f 3)) (f 4)) (f 5))))) 2 ((f 2) / (-(z5_common (z5_common (z5_common (z5_common (z5_common (z5_common 0 (f 0)) (f 1)) (f 2)) (f 3)) (f 4)) (f 5)))))] H := hP
                  have hD : va_D A [kJ h cJ 6 (vp_updL (vp_updL (vp_updL f 0 ((f 0) / (-(z5_common (z5_common (z5_common (z5_common (z5_common (z5_common 0 (f 0)) (f 1)) (f 2)) (f 3)) (f 4)) (f 5))))) 1 ((f 1) / (-(z5_common (z5_common (z5_common (z5_common (z5_common (z5_common 0 (f 0)) (f 1)) (f 2)) (f 3)) (f 4)) (f 5))))) 2 ((f 2) / (-(z5_common (z5_common (z5_common (z5_common (z5_common (z5_common 0 (f 0)) (f 1)) (f 2)) (f 3)) (f 4)) (f 5)))))] := hD
                  refine lv_iinc (v := 3) (lv' := [(5, .int 3), (2, .long (-(z5_common (z5_common (z5_common (z5_common (z5_common (z5_common 0 (f 0)) (f 1)) (f 2)) (f 3)) (f 4)) (f 5)))), (4, .int 5), (0, .ref h), (1, .int 6)]) hx hb dX5_norm_87 hl (k := 0) rfl (by decide) (by decide) rfl (fun ls hl => ?_)
                  refine lv_goto (tgt := 71) hx hb dX5_norm_90 (by decide) ?_
                  refine lv_iload hx hb dX5_norm_71 (lv_at hl 0 rfl) ?_
                  refine lv_iload_n hx hb dX5_norm_73 rfl (lv_at hl 4 rfl) ?_
                  refine lv_icmp_ge (tgt := 93) hx hb dX5_norm_74 (by decide) (fun h => absurd h (by decide)) (fun _ => ?_)
                  refine lv_aload_n hx hb dX5_norm_77 rfl (lv_at hl 3 rfl) ?_
                  refine lv_iload hx hb dX5_norm_78 (lv_at hl 0 rfl) ?_
                  refine lv_aload_n hx hb dX5_norm_80 rfl (lv_at hl 3 rfl) ?_
                  refine lv_iload hx hb dX5_norm_81 (lv_at hl 0 rfl) ?_
                  refine ld_l hx hb hK.1 hP 0 1 rfl rfl (ix_lit (by decide)) 3 (by decide) (v := f 3) rfl dX5_norm_83 ?_
                  refine lv_lload_n hx hb dX5_norm_84 rfl (lv_at hl 1 rfl) ?_
                  refine lv_ldiv hx hb dX5_norm_85 (ng_ne c_1) ?_
                  refine st_l hx hb hK.1 hP hD hS 0 1 rfl rfl (ix_lit (by decide)) 3 (by decide) dX5_norm_86 (fun H locs hP hD hS => ?_)
                  have hP : va_P D vwCl [kJ h cJ 6 (vp_updL (vp_updL (vp_updL (vp_updL f 0 ((f 0) / (-(z5_common (z5_common (z5_common (z5_common (z5_common (z5_common 0 (f 0)) (f 1)) (f 2)) (f 3)) (f 4)) (f 5))))) 1 ((f 1) / (-(z5_common (z5_common (z5_common (z5_common (z5_common (z5_common 0 (f 0)) (f 1)) (f 2)) (f 3)) (f 4)) (f 5))))) 2 ((f 2) / (-(z5_common (z5_common (z5_common (z5_common (z5_common (z5_common 0 (f 0)) (f 1)) (f 2)) (f 3)) (f 4)) (f 5))))) 3 ((f 3) / (-(z5_common (z5_common (z5_common (z5_common (z5_common (z5_common 0 (f 0)) (f 1)) (f 2)) (f 3)) (f 4)) (f 5)))))] H := hP
                  have hD : va_D A [kJ h cJ 6 (vp_updL (vp_updL (vp_updL (vp_updL f 0 ((f 0) / (-(z5_common (z5_common (z5_common (z5_common (z5_common (z5_common 0 (f 0)) (f 1)) (f 2)) (f 3)) (f 4)) (f 5))))) 1 ((f 1) / (-(z5_common (z5_common (z5_common (z5_common (z5_common (z5_common 0 (f 0)) (f 1)) (f 2)) (f 3)) (f 4)) (f 5))))) 2 ((f 2) / (-(z5_common (z5_common (z5_common (z5_common (z5_common (z5_common 0 (f 0)) (f 1)) (f 2)) (f 3)) (f 4)) (f 5))))) 3 ((f 3) / (-(z5_common (z5_common (z5_common (z5_common (z5_common (z5_common 0 (f 0)) (f 1)) (f 2)) (f 3)) (f 4)) (f 5)))))] := hD
                  refine lv_iinc (v := 4) (lv' := [(5, .int 4), (2, .long (-(z5_common (z5_common (z5_common (z5_common (z5_common (z5_common 0 (f 0)) (f 1)) (f 2)) (f 3)) (f 4)) (f 5)))), (4, .int 5), (0, .ref h), (1, .int 6)]) hx hb dX5_norm_87 hl (k := 0) rfl (by decide) (by decide) rfl (fun ls hl => ?_)
                  refine lv_goto (tgt := 71) hx hb dX5_norm_90 (by decide) ?_
                  refine lv_iload hx hb dX5_norm_71 (lv_at hl 0 rfl) ?_
                  refine lv_iload_n hx hb dX5_norm_73 rfl (lv_at hl 4 rfl) ?_
                  refine lv_icmp_ge (tgt := 93) hx hb dX5_norm_74 (by decide) (fun h => absurd h (by decide)) (fun _ => ?_)
                  refine lv_aload_n hx hb dX5_norm_77 rfl (lv_at hl 3 rfl) ?_
                  refine lv_iload hx hb dX5_norm_78 (lv_at hl 0 rfl) ?_
                  refine lv_aload_n hx hb dX5_norm_80 rfl (lv_at hl 3 rfl) ?_
                  refine lv_iload hx hb dX5_norm_81 (lv_at hl 0 rfl) ?_
                  refine ld_l hx hb hK.1 hP 0 1 rfl rfl (ix_lit (by decide)) 4 (by decide) (v := f 4) rfl dX5_norm_83 ?_
                  refine lv_lload_n hx hb dX5_norm_84 rfl (lv_at hl 1 rfl) ?_
                  refine lv_ldiv hx hb dX5_norm_85 (ng_ne c_1) ?_
                  refine st_l hx hb hK.1 hP hD hS 0 1 rfl rfl (ix_lit (by decide)) 4 (by decide) dX5_norm_86 (fun H locs hP hD hS => ?_)
                  have hP : va_P D vwCl [kJ h cJ 6 (vp_updL (vp_updL (vp_updL (vp_updL (vp_updL f 0 ((f 0) / (-(z5_common (z5_common (z5_common (z5_common (z5_common (z5_common 0 (f 0)) (f 1)) (f 2)) (f 3)) (f 4)) (f 5))))) 1 ((f 1) / (-(z5_common (z5_common (z5_common (z5_common (z5_common (z5_common 0 (f 0)) (f 1)) (f 2)) (f 3)) (f 4)) (f 5))))) 2 ((f 2) / (-(z5_common (z5_common (z5_common (z5_common (z5_common (z5_common 0 (f 0)) (f 1)) (f 2)) (f 3)) (f 4)) (f 5))))) 3 ((f 3) / (-(z5_common (z5_common (z5_common (z5_common (z5_common (z5_common 0 (f 0)) (f 1)) (f 2)) (f 3)) (f 4)) (f 5))))) 4 ((f 4) / (-(z5_common (z5_common (z5_common (z5_common (z5_common (z5_common 0 (f 0)) (f 1)) (f 2)) (f 3)) (f 4)) (f 5)))))] H := hP
                  have hD : va_D A [kJ h cJ 6 (vp_updL (vp_updL (vp_updL (vp_updL (vp_updL f 0 ((f 0) / (-(z5_common (z5_common (z5_common (z5_common (z5_common (z5_common 0 (f 0)) (f 1)) (f 2)) (f 3)) (f 4)) (f 5))))) 1 ((f 1) / (-(z5_common (z5_common (z5_common (z5_common (z5_common (z5_common 0 (f 0)) (f 1)) (f 2)) (f 3)) (f 4)) (f 5))))) 2 ((f 2) / (-(z5_common (z5_common (z5_common (z5_common (z5_common (z5_common 0 (f 0)) (f 1)) (f 2)) (f 3)) (f 4)) (f 5))))) 3 ((f 3) / (-(z5_common (z5_common (z5_common (z5_common (z5_common (z5_common 0 (f 0)) (f 1)) (f 2)) (f 3)) (f 4)) (f 5))))) 4 ((f 4) / (-(z5_common (z5_common (z5_common (z5_common (z5_common (z5_common 0 (f 0)) (f 1)) (f 2)) (f 3)) (f 4)) (f 5)))))] := hD
                  refine lv_iinc (v := 5) (lv' := [(5, .int 5), (2, .long (-(z5_common (z5_common (z5_common (z5_common (z5_common (z5_common 0 (f 0)) (f 1)) (f 2)) (f 3)) (f 4)) (f 5)))), (4, .int 5), (0, .ref h), (1, .int 6)]) hx hb dX5_norm_87 hl (k := 0) rfl (by decide) (by decide) rfl (fun ls hl => ?_)
                  refine lv_goto (tgt := 71) hx hb dX5_norm_90 (by decide) ?_
                  refine lv_iload hx hb dX5_norm_71 (lv_at hl 0 rfl) ?_
                  refine lv_iload_n hx hb dX5_norm_73 rfl (lv_at hl 4 rfl) ?_
                  refine lv_icmp_ge (tgt := 93) hx hb dX5_norm_74 (by decide) (fun h => absurd h (by decide)) (fun _ => ?_)
                  refine lv_aload_n hx hb dX5_norm_77 rfl (lv_at hl 3 rfl) ?_
                  refine lv_iload hx hb dX5_norm_78 (lv_at hl 0 rfl) ?_
                  refine lv_aload_n hx hb dX5_norm_80 rfl (lv_at hl 3 rfl) ?_
                  refine lv_iload hx hb dX5_norm_81 (lv_at hl 0 rfl) ?_
                  refine ld_l hx hb hK.1 hP 0 1 rfl rfl (ix_lit (by decide)) 5 (by decide) (v := f 5) rfl dX5_norm_83 ?_
                  refine lv_lload_n hx hb dX5_norm_84 rfl (lv_at hl 1 rfl) ?_
                  refine lv_ldiv hx hb dX5_norm_85 (ng_ne c_1) ?_
                  refine st_l hx hb hK.1 hP hD hS 0 1 rfl rfl (ix_lit (by decide)) 5 (by decide) dX5_norm_86 (fun H locs hP hD hS => ?_)
                  have hP : va_P D vwCl [kJ h cJ 6 (vp_updL (vp_updL (vp_updL (vp_updL (vp_updL (vp_updL f 0 ((f 0) / (-(z5_common (z5_common (z5_common (z5_common (z5_common (z5_common 0 (f 0)) (f 1)) (f 2)) (f 3)) (f 4)) (f 5))))) 1 ((f 1) / (-(z5_common (z5_common (z5_common (z5_common (z5_common (z5_common 0 (f 0)) (f 1)) (f 2)) (f 3)) (f 4)) (f 5))))) 2 ((f 2) / (-(z5_common (z5_common (z5_common (z5_common (z5_common (z5_common 0 (f 0)) (f 1)) (f 2)) (f 3)) (f 4)) (f 5))))) 3 ((f 3) / (-(z5_common (z5_common (z5_common (z5_common (z5_common (z5_common 0 (f 0)) (f 1)) (f 2)) (f 3)) (f 4)) (f 5))))) 4 ((f 4) / (-(z5_common (z5_common (z5_common (z5_common (z5_common (z5_common 0 (f 0)) (f 1)) (f 2)) (f 3)) (f 4)) (f 5))))) 5 ((f 5) / (-(z5_common (z5_common (z5_common (z5_common (z5_common (z5_common 0 (f 0)) (f 1)) (f 2)) (f 3)) (f 4)) (f 5)))))] H := hP
                  have hD : va_D A [kJ h cJ 6 (vp_updL (vp_updL (vp_updL (vp_updL (vp_updL (vp_updL f 0 ((f 0) / (-(z5_common (z5_common (z5_common (z5_common (z5_common (z5_common 0 (f 0)) (f 1)) (f 2)) (f 3)) (f 4)) (f 5))))) 1 ((f 1) / (-(z5_common (z5_common (z5_common (z5_common (z5_common (z5_common 0 (f 0)) (f 1)) (f 2)) (f 3)) (f 4)) (f 5))))) 2 ((f 2) / (-(z5_common (z5_common (z5_common (z5_common (z5_common (z5_common 0 (f 0)) (f 1)) (f 2)) (f 3)) (f 4)) (f 5))))) 3 ((f 3) / (-(z5_common (z5_common (z5_common (z5_common (z5_common (z5_common 0 (f 0)) (f 1)) (f 2)) (f 3)) (f 4)) (f 5))))) 4 ((f 4) / (-(z5_common (z5_common (z5_common (z5_common (z5_common (z5_common 0 (f 0)) (f 1)) (f 2)) (f 3)) (f 4)) (f 5))))) 5 ((f 5) / (-(z5_common (z5_common (z5_common (z5_common (z5_common (z5_common 0 (f 0)) (f 1)) (f 2)) (f 3)) (f 4)) (f 5)))))] := hD
                  refine lv_iinc (v := 6) (lv' := [(5, .int 6), (2, .long (-(z5_common (z5_common (z5_common (z5_common (z5_common (z5_common 0 (f 0)) (f 1)) (f 2)) (f 3)) (f 4)) (f 5)))), (4, .int 5), (0, .ref h), (1, .int 6)]) hx hb dX5_norm_87 hl (k := 0) rfl (by decide) (by decide) rfl (fun ls hl => ?_)
                  refine lv_goto (tgt := 71) hx hb dX5_norm_90 (by decide) ?_
                  refine lv_iload hx hb dX5_norm_71 (lv_at hl 0 rfl) ?_
                  refine lv_iload_n hx hb dX5_norm_73 rfl (lv_at hl 4 rfl) ?_
                  refine lv_icmp_ge (tgt := 93) hx hb dX5_norm_74 (by decide) (fun _ => ?_) (fun h => absurd (by decide) h)
                  refine lv_iconst (v := 1) hx hb dX5_norm_93 (by decide) ?_
                  have he : z5_norm_6_6 f = (1, vp_updL (vp_updL (vp_updL (vp_updL (vp_updL (vp_updL f 0 ((f 0) / (-(z5_common (z5_common (z5_common (z5_common (z5_common (z5_common 0 (f 0)) (f 1)) (f 2)) (f 3)) (f 4)) (f 5))))) 1 ((f 1) / (-(z5_common (z5_common (z5_common (z5_common (z5_common (z5_common 0 (f 0)) (f 1)) (f 2)) (f 3)) (f 4)) (f 5))))) 2 ((f 2) / (-(z5_common (z5_common (z5_common (z5_common (z5_common (z5_common 0 (f 0)) (f 1)) (f 2)) (f 3)) (f 4)) (f 5))))) 3 ((f 3) / (-(z5_common (z5_common (z5_common (z5_common (z5_common (z5_common 0 (f 0)) (f 1)) (f 2)) (f 3)) (f 4)) (f 5))))) 4 ((f 4) / (-(z5_common (z5_common (z5_common (z5_common (z5_common (z5_common 0 (f 0)) (f 1)) (f 2)) (f 3)) (f 4)) (f 5))))) 5 ((f 5) / (-(z5_common (z5_common (z5_common (z5_common (z5_common (z5_common 0 (f 0)) (f 1)) (f 2)) (f 3)) (f 4)) (f 5))))) := by unfold z5_norm_6_6; rw [if_neg c_1, if_pos c_2, if_pos c_4, if_pos c_6, if_pos c_8, if_pos c_10, if_neg c_12, if_neg c_13]
                  have he_0 : (z5_norm_6_6 f).1 = 1 := by rw [he]
                  have he_1 : (z5_norm_6_6 f).2 = vp_updL (vp_updL (vp_updL (vp_updL (vp_updL (vp_updL f 0 ((f 0) / (-(z5_common (z5_common (z5_common (z5_common (z5_common (z5_common 0 (f 0)) (f 1)) (f 2)) (f 3)) (f 4)) (f 5))))) 1 ((f 1) / (-(z5_common (z5_common (z5_common (z5_common (z5_common (z5_common 0 (f 0)) (f 1)) (f 2)) (f 3)) (f 4)) (f 5))))) 2 ((f 2) / (-(z5_common (z5_common (z5_common (z5_common (z5_common (z5_common 0 (f 0)) (f 1)) (f 2)) (f 3)) (f 4)) (f 5))))) 3 ((f 3) / (-(z5_common (z5_common (z5_common (z5_common (z5_common (z5_common 0 (f 0)) (f 1)) (f 2)) (f 3)) (f 4)) (f 5))))) 4 ((f 4) / (-(z5_common (z5_common (z5_common (z5_common (z5_common (z5_common 0 (f 0)) (f 1)) (f 2)) (f 3)) (f 4)) (f 5))))) 5 ((f 5) / (-(z5_common (z5_common (z5_common (z5_common (z5_common (z5_common 0 (f 0)) (f 1)) (f 2)) (f 3)) (f 4)) (f 5)))) := by rw [he]
                  exact rt_z (w1 := fun uu : Unit => [kJ h cJ 6 ((z5_norm_6_6 f).2)]) hx hb hr rfl hlk hS dX5_norm_94 (()) he_0.symm (by rw [he_1]; exact hP) (by rw [he_1]; exact hD)
              · skip
                refine lv_iinc (v := 6) (lv' := [(4, .int 6), (2, .long (z5_common (z5_common (z5_common (z5_common (z5_common (z5_common 0 (f 0)) (f 1)) (f 2)) (f 3)) (f 4)) (f 5))), (0, .ref h), (1, .int 6)]) hx hb dX5_norm_46 hl (k := 0) rfl (by decide) (by decide) rfl (fun ls hl => ?_)
                refine lv_goto (tgt := 37) hx hb dX5_norm_49 (by decide) ?_
                exact absurd (nz_6 c_2 c_4 c_6 c_8 c_10 c_12) c_1
  · skip
    refine lv_iconst (v := 0) hx hb dX5_norm_32 (by decide) ?_
    have he : z5_norm_6_6 f = (0, f) := by unfold z5_norm_6_6; rw [if_pos c_1]
    have he_0 : (z5_norm_6_6 f).1 = 0 := by rw [he]
    have he_1 : (z5_norm_6_6 f).2 = f := by rw [he]
    exact rt_z (w1 := fun uu : Unit => [kJ h cJ 6 ((z5_norm_6_6 f).2)]) hx hb hr rfl hlk hS dX5_norm_33 (()) he_0.symm (by rw [he_1]; exact hP) (by rw [he_1]; exact hD)
