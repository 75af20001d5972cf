def f_Mo_named (σ : RS) (x1 x2 x3 x4 : Int32) : Option (Int32 × RS) := (f_Mo_there σ x1).bind fun v1 => if v1 = 0 then (zl (sM_code σ 2) fun u3 => if (gM_code u3) = 0 then (some (1, u3)) else (some (0, u3))) else ((f_Mo_there σ x2).bind fun v5 => if v5 = 0 then (zl (sM_code σ 2) fun u7 => if (gM_code u7) = 0 then (some (1, u7)) else (some (0, u7))) else ((f_Mo_there σ x3).bind fun v9 => if v9 = 0 then (zl (sM_code σ 2) fun u34 => if (gM_code u34) = 0 then (some (1, u34)) else (some (0, u34))) else ((f_Mo_at σ x1 1).bind fun v11 => if v11 = 3 then ((f_Mo_at σ x2 1).bind fun v15 => if v15 = 0 then (if x4 < 0 then ((f_Mo_at σ x3 4).bind fun v20 => if v20 = x2 then (if (gM_code σ) = 0 then (some (1, σ)) else (some (0, σ))) else (zl (sM_code σ 2) fun u23 => if (gM_code u23) = 0 then (some (1, u23)) else (some (0, u23)))) else ((f_Mo_at σ x3 1).bind fun v25 => if v25 = x4 then ((f_Mo_at σ x3 4).bind fun v27 => if v27 = x2 then (if (gM_code σ) = 0 then (some (1, σ)) else (some (0, σ))) else (zl (sM_code σ 2) fun u30 => if (gM_code u30) = 0 then (some (1, u30)) else (some (0, u30)))) else (zl (sM_code σ 1) fun u32 => if (gM_code u32) = 0 then (some (1, u32)) else (some (0, u32))))) else (zl (sM_code σ 1) fun u17 => if (gM_code u17) = 0 then (some (1, u17)) else (some (0, u17)))) else (zl (sM_code σ 1) fun u13 => if (gM_code u13) = 0 then (some (1, u13)) else (some (0, u13))))))
set_option maxRecDepth 100000 in
set_option maxHeartbeats 4000000 in
theorem c_Mo_named (l : Launch) (hl9 : l.stackTraces = false) (D : va_G) (A : Nat → Nat) (r : va_W) (sz : Nat) (σ : RS) (x1 x2 x3 x4 : Int32) (z : Int32 × RS) (h : f_Mo_named σ x1 x2 x3 x4 = some z) : Met l y_Mo_named (Cond.code y_Mo_named b_Mo_named 5 (some .boolean) :: T0) ({ frames := 2, cells := 0, slots := 0, locals := 43 } : Room) (va_Pc [.ref (A 60), .int x1, .int x2, .int x3, .int x4] (ka_Wd D A (MW A σ r) sz)) (ka_Ri D z.1 (MW A z.2 r) (va_A (MW A σ r) sz)) 0 0 (va_A (MW A σ r) sz) := by
  unfold f_Mo_named at h
  refine ka_of (own := R_Mo) (fun A9 => ka_Ri D z.1 (MW A z.2 r) A9) (by decide) rfl (Nat.le_of_ble_eq_true rfl) ?_
  intro p e s m below meth c A9 ls S9 hr hlk hex X9 hP hD hl
  obtain ⟨hx, hb, hml, hown, hts⟩ := id S9
  have hK := X9.2.1
  have hS : va_S A9 s.heap s.heap [] := va_S.rf
  replace hl : lv_has ls 5 [(0, .ref (A 60)), (1, .int x1), (2, .int x2), (3, .int x3), (4, .int x4)] := hl
  refine lv_aload_n hx hb d_Mo_named_0 rfl (lv_at hl 0 rfl) ?_
  refine lv_iload_n hx hb d_Mo_named_1 rfl (lv_at hl 1 rfl) ?_
  obtain ⟨v1, e9, h⟩ := zo_b h
  refine ka_i (va_runV (As := [.int x1]) (rest := []) S9 (c_Mo_there l hl9 D A r _ σ x1 _ e9) (cwV 1 hts (tg_V wl_Mo_43 wm_Mo_there we_Mo_there wi_Mo wo_Mo_there) rfl rfl rfl wq_Mo_there ⟨Nat.le_of_ble_eq_true rfl, Nat.le_of_ble_eq_true rfl⟩) (ka_preV X9 hP hD hS 0 rfl rfl) rfl rfl hl.1 rfl (lv_room (Nat.le_of_ble_eq_true rfl)) d_Mo_named_2 ⟨Nat.le_of_ble_eq_true rfl, Nat.le_of_ble_eq_true rfl⟩) X9 hD hS rfl (fun H locs hP hD hS => ?_)
  refine lv_if_eq (tgt := 24) hx hb d_Mo_named_5 (by decide) (fun c2 => ?_) (fun c2 => ?_)
  · replace h := zo_t c2 h
    refine lv_aload_n hx hb d_Mo_named_24 rfl (lv_at hl 0 rfl) ?_
    refine lv_iconst (v := 2) hx hb d_Mo_named_25 (by decide) ?_
    obtain ⟨u3, hu9, h⟩ := zo_l h
    refine va_put (D := D) (ci := 5) (v := .int 2) (ty := .int) (C := R_Mo) (T := T_Mo) (N := 3) hx hb hts wu_Mo ft_Mo fk_Mo nm_Mo hown hK hP hD hS 0 rfl rfl 2 (by decide) (hts _ wf_Mo_16) (fun _ h9 => h9) rfl (by decide +kernel) rfl rfl (Nat.le_of_ble_eq_true rfl) d_Mo_named_26 (fun H locs hP hD hS => ?_)
    replace hP : va_P D vwCl (MW A u3 r) H := by rw [hu9]; exact hP
    replace hD : va_D A9 (MW A u3 r) := by rw [hu9]; exact hD
    refine lv_goto (tgt := 90) hx hb d_Mo_named_29 (by decide) ?_
    refine lv_aload_n hx hb d_Mo_named_90 rfl (lv_at hl 0 rfl) ?_
    refine va_get (D := D) (ci := 5) (v := .int (gM_code u3)) (C := R_Mo) (T := T_Mo) (N := 3) hx hb hts wu_Mo hown hK hP 0 rfl rfl 2 (by decide) (hts _ wf_Mo_16) (fun _ h9 => h9) rfl d_Mo_named_91 ?_
    refine lv_if_ne (tgt := 101) hx hb d_Mo_named_94 (by decide) (fun c4 => ?_) (fun c4 => ?_)
    · replace h := zo_f c4 h
      refine lv_iconst (v := 0) hx hb d_Mo_named_101 (by decide) ?_
      cases h
      exact W.zret hx hb hr (by decide) (fun t ht hW => ⟨⟨_, (), rfl, rfl, ka_at ht hP⟩, hS.F ht⟩) hS.2.2 d_Mo_named_102 hlk
    replace h := zo_t c4 h
    refine lv_iconst (v := 1) hx hb d_Mo_named_97 (by decide) ?_
    refine lv_goto (tgt := 102) hx hb d_Mo_named_98 (by decide) ?_
    cases h
    exact W.zret hx hb hr (by decide) (fun t ht hW => ⟨⟨_, (), rfl, rfl, ka_at ht hP⟩, hS.F ht⟩) hS.2.2 d_Mo_named_102 hlk
  replace h := zo_f c2 h
  refine lv_aload_n hx hb d_Mo_named_8 rfl (lv_at hl 0 rfl) ?_
  refine lv_iload_n hx hb d_Mo_named_9 rfl (lv_at hl 2 rfl) ?_
  obtain ⟨v5, e9, h⟩ := zo_b h
  refine ka_i (va_runV (As := [.int x2]) (rest := []) S9 (c_Mo_there l hl9 D A r _ σ x2 _ e9) (cwV 1 hts (tg_V wl_Mo_43 wm_Mo_there we_Mo_there wi_Mo wo_Mo_there) rfl rfl rfl wq_Mo_there ⟨Nat.le_of_ble_eq_true rfl, Nat.le_of_ble_eq_true rfl⟩) (ka_preV X9 hP hD hS 0 rfl rfl) rfl rfl hl.1 rfl (lv_room (Nat.le_of_ble_eq_true rfl)) d_Mo_named_10 ⟨Nat.le_of_ble_eq_true rfl, Nat.le_of_ble_eq_true rfl⟩) X9 hD hS rfl (fun H locs hP hD hS => ?_)
  refine lv_if_eq (tgt := 24) hx hb d_Mo_named_13 (by decide) (fun c6 => ?_) (fun c6 => ?_)
  · replace h := zo_t c6 h
    refine lv_aload_n hx hb d_Mo_named_24 rfl (lv_at hl 0 rfl) ?_
    refine lv_iconst (v := 2) hx hb d_Mo_named_25 (by decide) ?_
    obtain ⟨u7, hu9, h⟩ := zo_l h
    refine va_put (D := D) (ci := 5) (v := .int 2) (ty := .int) (C := R_Mo) (T := T_Mo) (N := 3) hx hb hts wu_Mo ft_Mo fk_Mo nm_Mo hown hK hP hD hS 0 rfl rfl 2 (by decide) (hts _ wf_Mo_16) (fun _ h9 => h9) rfl (by decide +kernel) rfl rfl (Nat.le_of_ble_eq_true rfl) d_Mo_named_26 (fun H locs hP hD hS => ?_)
    replace hP : va_P D vwCl (MW A u7 r) H := by rw [hu9]; exact hP
    replace hD : va_D A9 (MW A u7 r) := by rw [hu9]; exact hD
    refine lv_goto (tgt := 90) hx hb d_Mo_named_29 (by decide) ?_
    refine lv_aload_n hx hb d_Mo_named_90 rfl (lv_at hl 0 rfl) ?_
    refine va_get (D := D) (ci := 5) (v := .int (gM_code u7)) (C := R_Mo) (T := T_Mo) (N := 3) hx hb hts wu_Mo hown hK hP 0 rfl rfl 2 (by decide) (hts _ wf_Mo_16) (fun _ h9 => h9) rfl d_Mo_named_91 ?_
    refine lv_if_ne (tgt := 101) hx hb d_Mo_named_94 (by decide) (fun c8 => ?_) (fun c8 => ?_)
    · replace h := zo_f c8 h
      refine lv_iconst (v := 0) hx hb d_Mo_named_101 (by decide) ?_
      cases h
      exact W.zret hx hb hr (by decide) (fun t ht hW => ⟨⟨_, (), rfl, rfl, ka_at ht hP⟩, hS.F ht⟩) hS.2.2 d_Mo_named_102 hlk
    replace h := zo_t c8 h
    refine lv_iconst (v := 1) hx hb d_Mo_named_97 (by decide) ?_
    refine lv_goto (tgt := 102) hx hb d_Mo_named_98 (by decide) ?_
    cases h
    exact W.zret hx hb hr (by decide) (fun t ht hW => ⟨⟨_, (), rfl, rfl, ka_at ht hP⟩, hS.F ht⟩) hS.2.2 d_Mo_named_102 hlk
  replace h := zo_f c6 h
  refine lv_aload_n hx hb d_Mo_named_16 rfl (lv_at hl 0 rfl) ?_
  refine lv_iload_n hx hb d_Mo_named_17 rfl (lv_at hl 3 rfl) ?_
  obtain ⟨v9, e9, h⟩ := zo_b h
  refine ka_i (va_runV (As := [.int x3]) (rest := []) S9 (c_Mo_there l hl9 D A r _ σ x3 _ e9) (cwV 1 hts (tg_V wl_Mo_43 wm_Mo_there we_Mo_there wi_Mo wo_Mo_there) rfl rfl rfl wq_Mo_there ⟨Nat.le_of_ble_eq_true rfl, Nat.le_of_ble_eq_true rfl⟩) (ka_preV X9 hP hD hS 0 rfl rfl) rfl rfl hl.1 rfl (lv_room (Nat.le_of_ble_eq_true rfl)) d_Mo_named_18 ⟨Nat.le_of_ble_eq_true rfl, Nat.le_of_ble_eq_true rfl⟩) X9 hD hS rfl (fun H locs hP hD hS => ?_)
  refine lv_if_ne (tgt := 32) hx hb d_Mo_named_21 (by decide) (fun c10 => ?_) (fun c10 => ?_)
  · replace h := zo_f c10 h
    refine lv_aload_n hx hb d_Mo_named_32 rfl (lv_at hl 0 rfl) ?_
    refine lv_iload_n hx hb d_Mo_named_33 rfl (lv_at hl 1 rfl) ?_
    refine lv_iconst (v := 1) hx hb d_Mo_named_34 (by decide) ?_
    obtain ⟨v11, e9, h⟩ := zo_b h
    refine ka_i (va_runV (As := [.int x1, .int 1]) (rest := []) S9 (c_Mo_at l hl9 D A r _ σ x1 1 _ e9) (cwV 2 hts (tg_V wl_Mo_32 wm_Mo_at we_Mo_at wi_Mo wo_Mo_at) rfl rfl rfl wq_Mo_at ⟨Nat.le_of_ble_eq_true rfl, Nat.le_of_ble_eq_true rfl⟩) (ka_preV X9 hP hD hS 0 rfl rfl) rfl rfl hl.1 rfl (lv_room (Nat.le_of_ble_eq_true rfl)) d_Mo_named_35 ⟨Nat.le_of_ble_eq_true rfl, Nat.le_of_ble_eq_true rfl⟩) X9 hD hS rfl (fun H locs hP hD hS => ?_)
    refine lv_iconst (v := 3) hx hb d_Mo_named_38 (by decide) ?_
    refine lv_icmp_ne (tgt := 67) hx hb d_Mo_named_39 (by decide) (fun c12 => ?_) (fun c12 => ?_)
    · replace h := zo_f c12 h
      refine lv_aload_n hx hb d_Mo_named_67 rfl (lv_at hl 0 rfl) ?_
      refine lv_iconst (v := 1) hx hb d_Mo_named_68 (by decide) ?_
      obtain ⟨u13, hu9, h⟩ := zo_l h
      refine va_put (D := D) (ci := 5) (v := .int 1) (ty := .int) (C := R_Mo) (T := T_Mo) (N := 3) hx hb hts wu_Mo ft_Mo fk_Mo nm_Mo hown hK hP hD hS 0 rfl rfl 2 (by decide) (hts _ wf_Mo_16) (fun _ h9 => h9) rfl (by decide +kernel) rfl rfl (Nat.le_of_ble_eq_true rfl) d_Mo_named_69 (fun H locs hP hD hS => ?_)
      replace hP : va_P D vwCl (MW A u13 r) H := by rw [hu9]; exact hP
      replace hD : va_D A9 (MW A u13 r) := by rw [hu9]; exact hD
      refine lv_goto (tgt := 90) hx hb d_Mo_named_72 (by decide) ?_
      refine lv_aload_n hx hb d_Mo_named_90 rfl (lv_at hl 0 rfl) ?_
      refine va_get (D := D) (ci := 5) (v := .int (gM_code u13)) (C := R_Mo) (T := T_Mo) (N := 3) hx hb hts wu_Mo hown hK hP 0 rfl rfl 2 (by decide) (hts _ wf_Mo_16) (fun _ h9 => h9) rfl d_Mo_named_91 ?_
      refine lv_if_ne (tgt := 101) hx hb d_Mo_named_94 (by decide) (fun c14 => ?_) (fun c14 => ?_)
      · replace h := zo_f c14 h
        refine lv_iconst (v := 0) hx hb d_Mo_named_101 (by decide) ?_
        cases h
        exact W.zret hx hb hr (by decide) (fun t ht hW => ⟨⟨_, (), rfl, rfl, ka_at ht hP⟩, hS.F ht⟩) hS.2.2 d_Mo_named_102 hlk
      replace h := zo_t c14 h
      refine lv_iconst (v := 1) hx hb d_Mo_named_97 (by decide) ?_
      refine lv_goto (tgt := 102) hx hb d_Mo_named_98 (by decide) ?_
      cases h
      exact W.zret hx hb hr (by decide) (fun t ht hW => ⟨⟨_, (), rfl, rfl, ka_at ht hP⟩, hS.F ht⟩) hS.2.2 d_Mo_named_102 hlk
    replace h := zo_t c12 h
    refine lv_aload_n hx hb d_Mo_named_42 rfl (lv_at hl 0 rfl) ?_
    refine lv_iload_n hx hb d_Mo_named_43 rfl (lv_at hl 2 rfl) ?_
    refine lv_iconst (v := 1) hx hb d_Mo_named_44 (by decide) ?_
    obtain ⟨v15, e9, h⟩ := zo_b h
    refine ka_i (va_runV (As := [.int x2, .int 1]) (rest := []) S9 (c_Mo_at l hl9 D A r _ σ x2 1 _ e9) (cwV 2 hts (tg_V wl_Mo_32 wm_Mo_at we_Mo_at wi_Mo wo_Mo_at) rfl rfl rfl wq_Mo_at ⟨Nat.le_of_ble_eq_true rfl, Nat.le_of_ble_eq_true rfl⟩) (ka_preV X9 hP hD hS 0 rfl rfl) rfl rfl hl.1 rfl (lv_room (Nat.le_of_ble_eq_true rfl)) d_Mo_named_45 ⟨Nat.le_of_ble_eq_true rfl, Nat.le_of_ble_eq_true rfl⟩) X9 hD hS rfl (fun H locs hP hD hS => ?_)
    refine lv_if_ne (tgt := 67) hx hb d_Mo_named_48 (by decide) (fun c16 => ?_) (fun c16 => ?_)
    · replace h := zo_f c16 h
      refine lv_aload_n hx hb d_Mo_named_67 rfl (lv_at hl 0 rfl) ?_
      refine lv_iconst (v := 1) hx hb d_Mo_named_68 (by decide) ?_
      obtain ⟨u17, hu9, h⟩ := zo_l h
      refine va_put (D := D) (ci := 5) (v := .int 1) (ty := .int) (C := R_Mo) (T := T_Mo) (N := 3) hx hb hts wu_Mo ft_Mo fk_Mo nm_Mo hown hK hP hD hS 0 rfl rfl 2 (by decide) (hts _ wf_Mo_16) (fun _ h9 => h9) rfl (by decide +kernel) rfl rfl (Nat.le_of_ble_eq_true rfl) d_Mo_named_69 (fun H locs hP hD hS => ?_)
      replace hP : va_P D vwCl (MW A u17 r) H := by rw [hu9]; exact hP
      replace hD : va_D A9 (MW A u17 r) := by rw [hu9]; exact hD
      refine lv_goto (tgt := 90) hx hb d_Mo_named_72 (by decide) ?_
      refine lv_aload_n hx hb d_Mo_named_90 rfl (lv_at hl 0 rfl) ?_
      refine va_get (D := D) (ci := 5) (v := .int (gM_code u17)) (C := R_Mo) (T := T_Mo) (N := 3) hx hb hts wu_Mo hown hK hP 0 rfl rfl 2 (by decide) (hts _ wf_Mo_16) (fun _ h9 => h9) rfl d_Mo_named_91 ?_
      refine lv_if_ne (tgt := 101) hx hb d_Mo_named_94 (by decide) (fun c18 => ?_) (fun c18 => ?_)
      · replace h := zo_f c18 h
        refine lv_iconst (v := 0) hx hb d_Mo_named_101 (by decide) ?_
        cases h
        exact W.zret hx hb hr (by decide) (fun t ht hW => ⟨⟨_, (), rfl, rfl, ka_at ht hP⟩, hS.F ht⟩) hS.2.2 d_Mo_named_102 hlk
      replace h := zo_t c18 h
      refine lv_iconst (v := 1) hx hb d_Mo_named_97 (by decide) ?_
      refine lv_goto (tgt := 102) hx hb d_Mo_named_98 (by decide) ?_
      cases h
      exact W.zret hx hb hr (by decide) (fun t ht hW => ⟨⟨_, (), rfl, rfl, ka_at ht hP⟩, hS.F ht⟩) hS.2.2 d_Mo_named_102 hlk
    replace h := zo_t c16 h
    refine lv_iload hx hb d_Mo_named_51 (lv_at hl 4 rfl) ?_
    refine lv_if_lt (tgt := 75) hx hb d_Mo_named_53 (by decide) (fun c19 => ?_) (fun c19 => ?_)
    · replace h := zo_t c19 h
      refine lv_aload_n hx hb d_Mo_named_75 rfl (lv_at hl 0 rfl) ?_
      refine lv_iload_n hx hb d_Mo_named_76 rfl (lv_at hl 3 rfl) ?_
      refine lv_iconst (v := 4) hx hb d_Mo_named_77 (by decide) ?_
      obtain ⟨v20, e9, h⟩ := zo_b h
      refine ka_i (va_runV (As := [.int x3, .int 4]) (rest := []) S9 (c_Mo_at l hl9 D A r _ σ x3 4 _ e9) (cwV 2 hts (tg_V wl_Mo_32 wm_Mo_at we_Mo_at wi_Mo wo_Mo_at) rfl rfl rfl wq_Mo_at ⟨Nat.le_of_ble_eq_true rfl, Nat.le_of_ble_eq_true rfl⟩) (ka_preV X9 hP hD hS 0 rfl rfl) rfl rfl hl.1 rfl (lv_room (Nat.le_of_ble_eq_true rfl)) d_Mo_named_78 ⟨Nat.le_of_ble_eq_true rfl, Nat.le_of_ble_eq_true rfl⟩) X9 hD hS rfl (fun H locs hP hD hS => ?_)
      refine lv_iload_n hx hb d_Mo_named_81 rfl (lv_at hl 2 rfl) ?_
      refine lv_icmp_eq (tgt := 90) hx hb d_Mo_named_82 (by decide) (fun c21 => ?_) (fun c21 => ?_)
      · replace h := zo_t c21 h
        refine lv_aload_n hx hb d_Mo_named_90 rfl (lv_at hl 0 rfl) ?_
        refine va_get (D := D) (ci := 5) (v := .int (gM_code σ)) (C := R_Mo) (T := T_Mo) (N := 3) hx hb hts wu_Mo hown hK hP 0 rfl rfl 2 (by decide) (hts _ wf_Mo_16) (fun _ h9 => h9) rfl d_Mo_named_91 ?_
        refine lv_if_ne (tgt := 101) hx hb d_Mo_named_94 (by decide) (fun c22 => ?_) (fun c22 => ?_)
        · replace h := zo_f c22 h
          refine lv_iconst (v := 0) hx hb d_Mo_named_101 (by decide) ?_
          cases h
          exact W.zret hx hb hr (by decide) (fun t ht hW => ⟨⟨_, (), rfl, rfl, ka_at ht hP⟩, hS.F ht⟩) hS.2.2 d_Mo_named_102 hlk
        replace h := zo_t c22 h
        refine lv_iconst (v := 1) hx hb d_Mo_named_97 (by decide) ?_
        refine lv_goto (tgt := 102) hx hb d_Mo_named_98 (by decide) ?_
        cases h
        exact W.zret hx hb hr (by decide) (fun t ht hW => ⟨⟨_, (), rfl, rfl, ka_at ht hP⟩, hS.F ht⟩) hS.2.2 d_Mo_named_102 hlk
      replace h := zo_f c21 h
      refine lv_aload_n hx hb d_Mo_named_85 rfl (lv_at hl 0 rfl) ?_
      refine lv_iconst (v := 2) hx hb d_Mo_named_86 (by decide) ?_
      obtain ⟨u23, hu9, h⟩ := zo_l h
      refine va_put (D := D) (ci := 5) (v := .int 2) (ty := .int) (C := R_Mo) (T := T_Mo) (N := 3) hx hb hts wu_Mo ft_Mo fk_Mo nm_Mo hown hK hP hD hS 0 rfl rfl 2 (by decide) (hts _ wf_Mo_16) (fun _ h9 => h9) rfl (by decide +kernel) rfl rfl (Nat.le_of_ble_eq_true rfl) d_Mo_named_87 (fun H locs hP hD hS => ?_)
      replace hP : va_P D vwCl (MW A u23 r) H := by rw [hu9]; exact hP
      replace hD : va_D A9 (MW A u23 r) := by rw [hu9]; exact hD
      refine lv_aload_n hx hb d_Mo_named_90 rfl (lv_at hl 0 rfl) ?_
      refine va_get (D := D) (ci := 5) (v := .int (gM_code u23)) (C := R_Mo) (T := T_Mo) (N := 3) hx hb hts wu_Mo hown hK hP 0 rfl rfl 2 (by decide) (hts _ wf_Mo_16) (fun _ h9 => h9) rfl d_Mo_named_91 ?_
      refine lv_if_ne (tgt := 101) hx hb d_Mo_named_94 (by decide) (fun c24 => ?_) (fun c24 => ?_)
      · replace h := zo_f c24 h
        refine lv_iconst (v := 0) hx hb d_Mo_named_101 (by decide) ?_
        cases h
        exact W.zret hx hb hr (by decide) (fun t ht hW => ⟨⟨_, (), rfl, rfl, ka_at ht hP⟩, hS.F ht⟩) hS.2.2 d_Mo_named_102 hlk
      replace h := zo_t c24 h
      refine lv_iconst (v := 1) hx hb d_Mo_named_97 (by decide) ?_
      refine lv_goto (tgt := 102) hx hb d_Mo_named_98 (by decide) ?_
      cases h
      exact W.zret hx hb hr (by decide) (fun t ht hW => ⟨⟨_, (), rfl, rfl, ka_at ht hP⟩, hS.F ht⟩) hS.2.2 d_Mo_named_102 hlk
    replace h := zo_f c19 h
    refine lv_aload_n hx hb d_Mo_named_56 rfl (lv_at hl 0 rfl) ?_
    refine lv_iload_n hx hb d_Mo_named_57 rfl (lv_at hl 3 rfl) ?_
    refine lv_iconst (v := 1) hx hb d_Mo_named_58 (by decide) ?_
    obtain ⟨v25, e9, h⟩ := zo_b h
    refine ka_i (va_runV (As := [.int x3, .int 1]) (rest := []) S9 (c_Mo_at l hl9 D A r _ σ x3 1 _ e9) (cwV 2 hts (tg_V wl_Mo_32 wm_Mo_at we_Mo_at wi_Mo wo_Mo_at) rfl rfl rfl wq_Mo_at ⟨Nat.le_of_ble_eq_true rfl, Nat.le_of_ble_eq_true rfl⟩) (ka_preV X9 hP hD hS 0 rfl rfl) rfl rfl hl.1 rfl (lv_room (Nat.le_of_ble_eq_true rfl)) d_Mo_named_59 ⟨Nat.le_of_ble_eq_true rfl, Nat.le_of_ble_eq_true rfl⟩) X9 hD hS rfl (fun H locs hP hD hS => ?_)
    refine lv_iload hx hb d_Mo_named_62 (lv_at hl 4 rfl) ?_
    refine lv_icmp_eq (tgt := 75) hx hb d_Mo_named_64 (by decide) (fun c26 => ?_) (fun c26 => ?_)
    · replace h := zo_t c26 h
      refine lv_aload_n hx hb d_Mo_named_75 rfl (lv_at hl 0 rfl) ?_
      refine lv_iload_n hx hb d_Mo_named_76 rfl (lv_at hl 3 rfl) ?_
      refine lv_iconst (v := 4) hx hb d_Mo_named_77 (by decide) ?_
      obtain ⟨v27, e9, h⟩ := zo_b h
      refine ka_i (va_runV (As := [.int x3, .int 4]) (rest := []) S9 (c_Mo_at l hl9 D A r _ σ x3 4 _ e9) (cwV 2 hts (tg_V wl_Mo_32 wm_Mo_at we_Mo_at wi_Mo wo_Mo_at) rfl rfl rfl wq_Mo_at ⟨Nat.le_of_ble_eq_true rfl, Nat.le_of_ble_eq_true rfl⟩) (ka_preV X9 hP hD hS 0 rfl rfl) rfl rfl hl.1 rfl (lv_room (Nat.le_of_ble_eq_true rfl)) d_Mo_named_78 ⟨Nat.le_of_ble_eq_true rfl, Nat.le_of_ble_eq_true rfl⟩) X9 hD hS rfl (fun H locs hP hD hS => ?_)
      refine lv_iload_n hx hb d_Mo_named_81 rfl (lv_at hl 2 rfl) ?_
      refine lv_icmp_eq (tgt := 90) hx hb d_Mo_named_82 (by decide) (fun c28 => ?_) (fun c28 => ?_)
      · replace h := zo_t c28 h
        refine lv_aload_n hx hb d_Mo_named_90 rfl (lv_at hl 0 rfl) ?_
        refine va_get (D := D) (ci := 5) (v := .int (gM_code σ)) (C := R_Mo) (T := T_Mo) (N := 3) hx hb hts wu_Mo hown hK hP 0 rfl rfl 2 (by decide) (hts _ wf_Mo_16) (fun _ h9 => h9) rfl d_Mo_named_91 ?_
        refine lv_if_ne (tgt := 101) hx hb d_Mo_named_94 (by decide) (fun c29 => ?_) (fun c29 => ?_)
        · replace h := zo_f c29 h
          refine lv_iconst (v := 0) hx hb d_Mo_named_101 (by decide) ?_
          cases h
          exact W.zret hx hb hr (by decide) (fun t ht hW => ⟨⟨_, (), rfl, rfl, ka_at ht hP⟩, hS.F ht⟩) hS.2.2 d_Mo_named_102 hlk
        replace h := zo_t c29 h
        refine lv_iconst (v := 1) hx hb d_Mo_named_97 (by decide) ?_
        refine lv_goto (tgt := 102) hx hb d_Mo_named_98 (by decide) ?_
        cases h
        exact W.zret hx hb hr (by decide) (fun t ht hW => ⟨⟨_, (), rfl, rfl, ka_at ht hP⟩, hS.F ht⟩) hS.2.2 d_Mo_named_102 hlk
      replace h := zo_f c28 h
      refine lv_aload_n hx hb d_Mo_named_85 rfl (lv_at hl 0 rfl) ?_
      refine lv_iconst (v := 2) hx hb d_Mo_named_86 (by decide) ?_
      obtain ⟨u30, hu9, h⟩ := zo_l h
      refine va_put (D := D) (ci := 5) (v := .int 2) (ty := .int) (C := R_Mo) (T := T_Mo) (N := 3) hx hb hts wu_Mo ft_Mo fk_Mo nm_Mo hown hK hP hD hS 0 rfl rfl 2 (by decide) (hts _ wf_Mo_16) (fun _ h9 => h9) rfl (by decide +kernel) rfl rfl (Nat.le_of_ble_eq_true rfl) d_Mo_named_87 (fun H locs hP hD hS => ?_)
      replace hP : va_P D vwCl (MW A u30 r) H := by rw [hu9]; exact hP
      replace hD : va_D A9 (MW A u30 r) := by rw [hu9]; exact hD
      refine lv_aload_n hx hb d_Mo_named_90 rfl (lv_at hl 0 rfl) ?_
      refine va_get (D := D) (ci := 5) (v := .int (gM_code u30)) (C := R_Mo) (T := T_Mo) (N := 3) hx hb hts wu_Mo hown hK hP 0 rfl rfl 2 (by decide) (hts _ wf_Mo_16) (fun _ h9 => h9) rfl d_Mo_named_91 ?_
      refine lv_if_ne (tgt := 101) hx hb d_Mo_named_94 (by decide) (fun c31 => ?_) (fun c31 => ?_)
      · replace h := zo_f c31 h
        refine lv_iconst (v := 0) hx hb d_Mo_named_101 (by decide) ?_
        cases h
        exact W.zret hx hb hr (by decide) (fun t ht hW => ⟨⟨_, (), rfl, rfl, ka_at ht hP⟩, hS.F ht⟩) hS.2.2 d_Mo_named_102 hlk
      replace h := zo_t c31 h
      refine lv_iconst (v := 1) hx hb d_Mo_named_97 (by decide) ?_
      refine lv_goto (tgt := 102) hx hb d_Mo_named_98 (by decide) ?_
      cases h
      exact W.zret hx hb hr (by decide) (fun t ht hW => ⟨⟨_, (), rfl, rfl, ka_at ht hP⟩, hS.F ht⟩) hS.2.2 d_Mo_named_102 hlk
    replace h := zo_f c26 h
    refine lv_aload_n hx hb d_Mo_named_67 rfl (lv_at hl 0 rfl) ?_
    refine lv_iconst (v := 1) hx hb d_Mo_named_68 (by decide) ?_
    obtain ⟨u32, hu9, h⟩ := zo_l h
    refine va_put (D := D) (ci := 5) (v := .int 1) (ty := .int) (C := R_Mo) (T := T_Mo) (N := 3) hx hb hts wu_Mo ft_Mo fk_Mo nm_Mo hown hK hP hD hS 0 rfl rfl 2 (by decide) (hts _ wf_Mo_16) (fun _ h9 => h9) rfl (by decide +kernel) rfl rfl (Nat.le_of_ble_eq_true rfl) d_Mo_named_69 (fun H locs hP hD hS => ?_)
    replace hP : va_P D vwCl (MW A u32 r) H := by rw [hu9]; exact hP
    replace hD : va_D A9 (MW A u32 r) := by rw [hu9]; exact hD
    refine lv_goto (tgt := 90) hx hb d_Mo_named_72 (by decide) ?_
    refine lv_aload_n hx hb d_Mo_named_90 rfl (lv_at hl 0 rfl) ?_
    refine va_get (D := D) (ci := 5) (v := .int (gM_code u32)) (C := R_Mo) (T := T_Mo) (N := 3) hx hb hts wu_Mo hown hK hP 0 rfl rfl 2 (by decide) (hts _ wf_Mo_16) (fun _ h9 => h9) rfl d_Mo_named_91 ?_
    refine lv_if_ne (tgt := 101) hx hb d_Mo_named_94 (by decide) (fun c33 => ?_) (fun c33 => ?_)
    · replace h := zo_f c33 h
      refine lv_iconst (v := 0) hx hb d_Mo_named_101 (by decide) ?_
      cases h
      exact W.zret hx hb hr (by decide) (fun t ht hW => ⟨⟨_, (), rfl, rfl, ka_at ht hP⟩, hS.F ht⟩) hS.2.2 d_Mo_named_102 hlk
    replace h := zo_t c33 h
    refine lv_iconst (v := 1) hx hb d_Mo_named_97 (by decide) ?_
    refine lv_goto (tgt := 102) hx hb d_Mo_named_98 (by decide) ?_
    cases h
    exact W.zret hx hb hr (by decide) (fun t ht hW => ⟨⟨_, (), rfl, rfl, ka_at ht hP⟩, hS.F ht⟩) hS.2.2 d_Mo_named_102 hlk
  replace h := zo_t c10 h
  refine lv_aload_n hx hb d_Mo_named_24 rfl (lv_at hl 0 rfl) ?_
  refine lv_iconst (v := 2) hx hb d_Mo_named_25 (by decide) ?_
  obtain ⟨u34, hu9, h⟩ := zo_l h
  refine va_put (D := D) (ci := 5) (v := .int 2) (ty := .int) (C := R_Mo) (T := T_Mo) (N := 3) hx hb hts wu_Mo ft_Mo fk_Mo nm_Mo hown hK hP hD hS 0 rfl rfl 2 (by decide) (hts _ wf_Mo_16) (fun _ h9 => h9) rfl (by decide +kernel) rfl rfl (Nat.le_of_ble_eq_true rfl) d_Mo_named_26 (fun H locs hP hD hS => ?_)
  replace hP : va_P D vwCl (MW A u34 r) H := by rw [hu9]; exact hP
  replace hD : va_D A9 (MW A u34 r) := by rw [hu9]; exact hD
  refine lv_goto (tgt := 90) hx hb d_Mo_named_29 (by decide) ?_
  refine lv_aload_n hx hb d_Mo_named_90 rfl (lv_at hl 0 rfl) ?_
  refine va_get (D := D) (ci := 5) (v := .int (gM_code u34)) (C := R_Mo) (T := T_Mo) (N := 3) hx hb hts wu_Mo hown hK hP 0 rfl rfl 2 (by decide) (hts _ wf_Mo_16) (fun _ h9 => h9) rfl d_Mo_named_91 ?_
  refine lv_if_ne (tgt := 101) hx hb d_Mo_named_94 (by decide) (fun c35 => ?_) (fun c35 => ?_)
  · replace h := zo_f c35 h
    refine lv_iconst (v := 0) hx hb d_Mo_named_101 (by decide) ?_
    cases h
    exact W.zret hx hb hr (by decide) (fun t ht hW => ⟨⟨_, (), rfl, rfl, ka_at ht hP⟩, hS.F ht⟩) hS.2.2 d_Mo_named_102 hlk
  replace h := zo_t c35 h
  refine lv_iconst (v := 1) hx hb d_Mo_named_97 (by decide) ?_
  refine lv_goto (tgt := 102) hx hb d_Mo_named_98 (by decide) ?_
  cases h
  exact W.zret hx hb hr (by decide) (fun t ht hW => ⟨⟨_, (), rfl, rfl, ka_at ht hP⟩, hS.F ht⟩) hS.2.2 d_Mo_named_102 hlk
def f_Mo_cell (σ : RS) (x1 x2 x3 x4 x5 x6 : Int32) : Option (Int32 × RS) := (f_Mo_within x4 0 7).bind fun v1 => if v1 = 0 then ((f_Mo_fail σ 1).bind fun v19 => some (v19.1, v19.2)) else ((f_Mo_named σ x1 x2 x3 1).bind fun v3 => if v3.1 = 0 then (some (0, v3.2)) else ((f_Mo_at v3.2 x3 8).bind fun v5 => if x4 < v5 then ((f_Mo_sees v3.2 x1 x2).bind fun v7 => if v7 = 0 then ((f_Mo_fail v3.2 3).bind fun v9 => some (v9.1, v9.2)) else (if x5 = 0 then ((f_Mo_sees v3.2 x1 x3).bind fun v11 => if v11 = 0 then ((f_Mo_fail v3.2 3).bind fun v13 => some (v13.1, v13.2)) else (if (((17 * x3) + 9) + x4) < 0 ∨ 1552 ≤ (((17 * x3) + 9) + x4).toNatClampNeg then none else some (gM_row v3.2 (((17 * x3) + 9) + x4).toNatClampNeg, v3.2))) else ((f_Mo_changes v3.2 x1 x3).bind fun v14 => if v14 = 0 then ((f_Mo_fail v3.2 3).bind fun v16 => some (v16.1, v16.2)) else (if (((17 * x3) + 9) + x4) < 0 ∨ 1552 ≤ (((17 * x3) + 9) + x4).toNatClampNeg then none else if (((17 * x3) + 9) + x4) < 0 ∨ 1552 ≤ (((17 * x3) + 9) + x4).toNatClampNeg then none else zl (sM_row v3.2 (upd (gM_row v3.2) (((17 * x3) + 9) + x4).toNatClampNeg x6)) fun u17 => some (gM_row v3.2 (((17 * x3) + 9) + x4).toNatClampNeg, u17))))) else ((f_Mo_fail v3.2 2).bind fun v18 => some (v18.1, v18.2))))
set_option maxRecDepth 100000 in
set_option maxHeartbeats 4000000 in
theorem c_Mo_cell (l : Launch) (hl9 : l.stackTraces = false) (D : va_G) (A : Nat → Nat) (r : va_W) (sz : Nat) (σ : RS) (x1 x2 x3 x4 x5 x6 : Int32) (z : Int32 × RS) (h : f_Mo_cell σ x1 x2 x3 x4 x5 x6 = some z) : Met l y_Mo_cell (Cond.code y_Mo_cell b_Mo_cell 9 (some .int) :: T0) ({ frames := 4, cells := 0, slots := 0, locals := 91 } : Room) (va_Pc [.ref (A 60), .int x1, .int x2, .int x3, .int x4, .int x5, .int x6] (ka_Wd D A (MW A σ r) sz)) (ka_Ri D z.1 (MW A z.2 r) (va_A (MW A σ r) sz)) 0 0 (va_A (MW A σ r) sz) := by
  unfold f_Mo_cell at h
  refine ka_of (own := R_Mo) (fun A9 => ka_Ri D z.1 (MW A z.2 r) A9) (by decide) rfl (Nat.le_of_ble_eq_true rfl) ?_
  intro p e s m below meth c A9 ls S9 hr hlk hex X9 hP hD hl
  obtain ⟨hx, hb, hml, hown, hts⟩ := id S9
  have hK := X9.2.1
  have hS : va_S A9 s.heap s.heap [] := va_S.rf
  replace hl : lv_has ls 9 [(0, .ref (A 60)), (1, .int x1), (2, .int x2), (3, .int x3), (4, .int x4), (5, .int x5), (6, .int x6)] := hl
  refine lv_iload hx hb d_Mo_cell_0 (lv_at hl 4 rfl) ?_
  refine lv_iconst (v := 0) hx hb d_Mo_cell_2 (by decide) ?_
  refine lv_bipush (v := 7) hx hb d_Mo_cell_3 (by decide) ?_
  obtain ⟨v1, e9, h⟩ := zo_b h
  refine ka_i (va_runS (As := [.int x4, .int 0, .int 7]) (rest := []) S9 (c_Mo_within l hl9 D A (MW A σ r) _ x4 0 7 _ e9) (cwS 3 hts (tg_S wl_Mo_28 ws_Mo_within wi_Mo wo_Mo_within) rfl rfl rfl wq_Mo_within ⟨Nat.le_of_ble_eq_true rfl, Nat.le_of_ble_eq_true rfl⟩) (ka_preS X9 hP hD hS) rfl rfl hl.1 rfl (lv_room (Nat.le_of_ble_eq_true rfl)) d_Mo_cell_5 ⟨Nat.le_of_ble_eq_true rfl, Nat.le_of_ble_eq_true rfl⟩) X9 hD hS rfl (fun H locs hP hD hS => ?_)
  refine lv_if_ne (tgt := 17) hx hb d_Mo_cell_8 (by decide) (fun c2 => ?_) (fun c2 => ?_)
  · replace h := zo_f c2 h
    refine lv_aload_n hx hb d_Mo_cell_17 rfl (lv_at hl 0 rfl) ?_
    refine lv_iload_n hx hb d_Mo_cell_18 rfl (lv_at hl 1 rfl) ?_
    refine lv_iload_n hx hb d_Mo_cell_19 rfl (lv_at hl 2 rfl) ?_
    refine lv_iload_n hx hb d_Mo_cell_20 rfl (lv_at hl 3 rfl) ?_
    refine lv_iconst (v := 1) hx hb d_Mo_cell_21 (by decide) ?_
    obtain ⟨v3, e9, h⟩ := zo_b h
    refine ka_i (va_runV (As := [.int x1, .int x2, .int x3, .int 1]) (rest := []) S9 (c_Mo_named l hl9 D A r _ σ x1 x2 x3 1 _ e9) (cwV 4 hts (tg_V wl_Mo_99 wm_Mo_named we_Mo_named wi_Mo wo_Mo_named) rfl rfl rfl wq_Mo_named ⟨Nat.le_of_ble_eq_true rfl, Nat.le_of_ble_eq_true rfl⟩) (ka_preV X9 hP hD hS 0 rfl rfl) rfl rfl hl.1 rfl (lv_room (Nat.le_of_ble_eq_true rfl)) d_Mo_cell_22 ⟨Nat.le_of_ble_eq_true rfl, Nat.le_of_ble_eq_true rfl⟩) X9 hD hS rfl (fun H locs hP hD hS => ?_)
    refine lv_if_ne (tgt := 30) hx hb d_Mo_cell_25 (by decide) (fun c4 => ?_) (fun c4 => ?_)
    · replace h := zo_f c4 h
      refine lv_iload hx hb d_Mo_cell_30 (lv_at hl 4 rfl) ?_
      refine lv_aload_n hx hb d_Mo_cell_32 rfl (lv_at hl 0 rfl) ?_
      refine lv_iload_n hx hb d_Mo_cell_33 rfl (lv_at hl 3 rfl) ?_
      refine lv_bipush (v := 8) hx hb d_Mo_cell_34 (by decide) ?_
      obtain ⟨v5, e9, h⟩ := zo_b h
      refine ka_i (va_runV (As := [.int x3, .int 8]) (rest := [.int x4]) S9 (c_Mo_at l hl9 D A r _ v3.2 x3 8 _ e9) (cwV 2 hts (tg_V wl_Mo_32 wm_Mo_at we_Mo_at wi_Mo wo_Mo_at) rfl rfl rfl wq_Mo_at ⟨Nat.le_of_ble_eq_true rfl, Nat.le_of_ble_eq_true rfl⟩) (ka_preV X9 hP hD hS 0 rfl rfl) rfl rfl hl.1 rfl (lv_room (Nat.le_of_ble_eq_true rfl)) d_Mo_cell_36 ⟨Nat.le_of_ble_eq_true rfl, Nat.le_of_ble_eq_true rfl⟩) X9 hD hS rfl (fun H locs hP hD hS => ?_)
      refine lv_icmp_lt (tgt := 48) hx hb d_Mo_cell_39 (by decide) (fun c6 => ?_) (fun c6 => ?_)
      · replace h := zo_t c6 h
        refine lv_aload_n hx hb d_Mo_cell_48 rfl (lv_at hl 0 rfl) ?_
        refine lv_iload_n hx hb d_Mo_cell_49 rfl (lv_at hl 1 rfl) ?_
        refine lv_iload_n hx hb d_Mo_cell_50 rfl (lv_at hl 2 rfl) ?_
        obtain ⟨v7, e9, h⟩ := zo_b h
        refine ka_i (va_runV (As := [.int x1, .int x2]) (rest := []) S9 (c_Mo_sees l hl9 D A r _ v3.2 x1 x2 _ e9) (cwV 2 hts (tg_V wl_Mo_39 wm_Mo_sees we_Mo_sees wi_Mo wo_Mo_sees) rfl rfl rfl wq_Mo_sees ⟨Nat.le_of_ble_eq_true rfl, Nat.le_of_ble_eq_true rfl⟩) (ka_preV X9 hP hD hS 0 rfl rfl) rfl rfl hl.1 rfl (lv_room (Nat.le_of_ble_eq_true rfl)) d_Mo_cell_51 ⟨Nat.le_of_ble_eq_true rfl, Nat.le_of_ble_eq_true rfl⟩) X9 hD hS rfl (fun H locs hP hD hS => ?_)
        refine lv_if_eq (tgt := 83) hx hb d_Mo_cell_54 (by decide) (fun c8 => ?_) (fun c8 => ?_)
        · replace h := zo_t c8 h
          refine lv_aload_n hx hb d_Mo_cell_83 rfl (lv_at hl 0 rfl) ?_
          refine lv_iconst (v := 3) hx hb d_Mo_cell_84 (by decide) ?_
          obtain ⟨v9, e9, h⟩ := zo_b h
          refine ka_i (va_runV (As := [.int 3]) (rest := []) S9 (c_Mo_fail l hl9 D A r _ v3.2 3 _ e9) (cwV 1 hts (tg_V wl_Mo_51 wm_Mo_fail we_Mo_fail wi_Mo wo_Mo_fail) rfl rfl rfl wq_Mo_fail ⟨Nat.le_of_ble_eq_true rfl, Nat.le_of_ble_eq_true rfl⟩) (ka_preV X9 hP hD hS 0 rfl rfl) rfl rfl hl.1 rfl (lv_room (Nat.le_of_ble_eq_true rfl)) d_Mo_cell_85 ⟨Nat.le_of_ble_eq_true rfl, Nat.le_of_ble_eq_true rfl⟩) X9 hD hS rfl (fun H locs hP hD hS => ?_)
          cases h
          exact W.iret hx hb hr (fun t ht hW => ⟨⟨_, (), rfl, rfl, ka_at ht hP⟩, hS.F ht⟩) hS.2.2 d_Mo_cell_88 hlk
        replace h := zo_f c8 h
        refine lv_iload hx hb d_Mo_cell_57 (lv_at hl 5 rfl) ?_
        refine lv_if_eq (tgt := 74) hx hb d_Mo_cell_59 (by decide) (fun c10 => ?_) (fun c10 => ?_)
        · replace h := zo_t c10 h
          refine lv_aload_n hx hb d_Mo_cell_74 rfl (lv_at hl 0 rfl) ?_
          refine lv_iload_n hx hb d_Mo_cell_75 rfl (lv_at hl 1 rfl) ?_
          refine lv_iload_n hx hb d_Mo_cell_76 rfl (lv_at hl 3 rfl) ?_
          obtain ⟨v11, e9, h⟩ := zo_b h
          refine ka_i (va_runV (As := [.int x1, .int x3]) (rest := []) S9 (c_Mo_sees l hl9 D A r _ v3.2 x1 x3 _ e9) (cwV 2 hts (tg_V wl_Mo_39 wm_Mo_sees we_Mo_sees wi_Mo wo_Mo_sees) rfl rfl rfl wq_Mo_sees ⟨Nat.le_of_ble_eq_true rfl, Nat.le_of_ble_eq_true rfl⟩) (ka_preV X9 hP hD hS 0 rfl rfl) rfl rfl hl.1 rfl (lv_room (Nat.le_of_ble_eq_true rfl)) d_Mo_cell_77 ⟨Nat.le_of_ble_eq_true rfl, Nat.le_of_ble_eq_true rfl⟩) X9 hD hS rfl (fun H locs hP hD hS => ?_)
          refine lv_if_ne (tgt := 89) hx hb d_Mo_cell_80 (by decide) (fun c12 => ?_) (fun c12 => ?_)
          · replace h := zo_f c12 h
            refine lv_bipush (v := 17) hx hb d_Mo_cell_89 (by decide) ?_
            refine lv_iload_n hx hb d_Mo_cell_91 rfl (lv_at hl 3 rfl) ?_
            refine lv_imul hx hb d_Mo_cell_92 ?_
            refine lv_bipush (v := 9) hx hb d_Mo_cell_93 (by decide) ?_
            refine lv_iadd hx hb d_Mo_cell_95 ?_
            refine lv_iload hx hb d_Mo_cell_96 (lv_at hl 4 rfl) ?_
            refine lv_iadd hx hb d_Mo_cell_98 ?_
            refine lv_istore (lv' := [(7, .int (((17 * x3) + 9) + x4)), (0, .ref (A 60)), (1, .int x1), (2, .int x2), (3, .int x3), (4, .int x4), (5, .int x5), (6, .int x6)]) hx hb d_Mo_cell_99 hl (by decide) rfl (fun ls hl => ?_)
            refine lv_aload_n hx hb d_Mo_cell_101 rfl (lv_at hl 1 rfl) ?_
            refine va_get (D := D) (ci := 5) (v := .ref (A 61)) (C := R_Mo) (T := T_Mo) (N := 3) hx hb hts wu_Mo hown hK hP 0 rfl rfl 0 (by decide) (hts _ wf_Mo_7) (fun _ h9 => h9) rfl d_Mo_cell_102 ?_
            refine lv_iload hx hb d_Mo_cell_105 (lv_at hl 0 rfl) ?_
            obtain ⟨i9, h⟩ := zo_i h
            refine va_iald hx hb hK hP 1 0 rfl rfl i9 d_Mo_cell_107 ?_
            refine lv_istore (lv' := [(8, .int (gM_row v3.2 (((17 * x3) + 9) + x4).toNatClampNeg)), (7, .int (((17 * x3) + 9) + x4)), (0, .ref (A 60)), (1, .int x1), (2, .int x2), (3, .int x3), (4, .int x4), (5, .int x5), (6, .int x6)]) hx hb d_Mo_cell_108 hl (by decide) rfl (fun ls hl => ?_)
            refine lv_iload hx hb d_Mo_cell_110 (lv_at hl 7 rfl) ?_
            refine lv_if_eq (tgt := 124) hx hb d_Mo_cell_112 (by decide) (fun _ => ?_) (fun c9 => absurd c10 c9)
            refine lv_iload hx hb d_Mo_cell_124 (lv_at hl 0 rfl) ?_
            cases h
            exact W.iret hx hb hr (fun t ht hW => ⟨⟨_, (), rfl, rfl, ka_at ht hP⟩, hS.F ht⟩) hS.2.2 d_Mo_cell_126 hlk
          replace h := zo_t c12 h
          refine lv_aload_n hx hb d_Mo_cell_83 rfl (lv_at hl 0 rfl) ?_
          refine lv_iconst (v := 3) hx hb d_Mo_cell_84 (by decide) ?_
          obtain ⟨v13, e9, h⟩ := zo_b h
          refine ka_i (va_runV (As := [.int 3]) (rest := []) S9 (c_Mo_fail l hl9 D A r _ v3.2 3 _ e9) (cwV 1 hts (tg_V wl_Mo_51 wm_Mo_fail we_Mo_fail wi_Mo wo_Mo_fail) rfl rfl rfl wq_Mo_fail ⟨Nat.le_of_ble_eq_true rfl, Nat.le_of_ble_eq_true rfl⟩) (ka_preV X9 hP hD hS 0 rfl rfl) rfl rfl hl.1 rfl (lv_room (Nat.le_of_ble_eq_true rfl)) d_Mo_cell_85 ⟨Nat.le_of_ble_eq_true rfl, Nat.le_of_ble_eq_true rfl⟩) X9 hD hS rfl (fun H locs hP hD hS => ?_)
          cases h
          exact W.iret hx hb hr (fun t ht hW => ⟨⟨_, (), rfl, rfl, ka_at ht hP⟩, hS.F ht⟩) hS.2.2 d_Mo_cell_88 hlk
        replace h := zo_f c10 h
        refine lv_aload_n hx hb d_Mo_cell_62 rfl (lv_at hl 0 rfl) ?_
        refine lv_iload_n hx hb d_Mo_cell_63 rfl (lv_at hl 1 rfl) ?_
        refine lv_iload_n hx hb d_Mo_cell_64 rfl (lv_at hl 3 rfl) ?_
        obtain ⟨v14, e9, h⟩ := zo_b h
        refine ka_i (va_runV (As := [.int x1, .int x3]) (rest := []) S9 (c_Mo_changes l hl9 D A r _ v3.2 x1 x3 _ e9) (cwV 2 hts (tg_V wl_Mo_69 wm_Mo_changes we_Mo_changes wi_Mo wo_Mo_changes) rfl rfl rfl wq_Mo_changes ⟨Nat.le_of_ble_eq_true rfl, Nat.le_of_ble_eq_true rfl⟩) (ka_preV X9 hP hD hS 0 rfl rfl) rfl rfl hl.1 rfl (lv_room (Nat.le_of_ble_eq_true rfl)) d_Mo_cell_65 ⟨Nat.le_of_ble_eq_true rfl, Nat.le_of_ble_eq_true rfl⟩) X9 hD hS rfl (fun H locs hP hD hS => ?_)
        refine lv_if_eq (tgt := 83) hx hb d_Mo_cell_68 (by decide) (fun c15 => ?_) (fun c15 => ?_)
        · replace h := zo_t c15 h
          refine lv_aload_n hx hb d_Mo_cell_83 rfl (lv_at hl 0 rfl) ?_
          refine lv_iconst (v := 3) hx hb d_Mo_cell_84 (by decide) ?_
          obtain ⟨v16, e9, h⟩ := zo_b h
          refine ka_i (va_runV (As := [.int 3]) (rest := []) S9 (c_Mo_fail l hl9 D A r _ v3.2 3 _ e9) (cwV 1 hts (tg_V wl_Mo_51 wm_Mo_fail we_Mo_fail wi_Mo wo_Mo_fail) rfl rfl rfl wq_Mo_fail ⟨Nat.le_of_ble_eq_true rfl, Nat.le_of_ble_eq_true rfl⟩) (ka_preV X9 hP hD hS 0 rfl rfl) rfl rfl hl.1 rfl (lv_room (Nat.le_of_ble_eq_true rfl)) d_Mo_cell_85 ⟨Nat.le_of_ble_eq_true rfl, Nat.le_of_ble_eq_true rfl⟩) X9 hD hS rfl (fun H locs hP hD hS => ?_)
          cases h
          exact W.iret hx hb hr (fun t ht hW => ⟨⟨_, (), rfl, rfl, ka_at ht hP⟩, hS.F ht⟩) hS.2.2 d_Mo_cell_88 hlk
        replace h := zo_f c15 h
        refine lv_goto (tgt := 89) hx hb d_Mo_cell_71 (by decide) ?_
        refine lv_bipush (v := 17) hx hb d_Mo_cell_89 (by decide) ?_
        refine lv_iload_n hx hb d_Mo_cell_91 rfl (lv_at hl 3 rfl) ?_
        refine lv_imul hx hb d_Mo_cell_92 ?_
        refine lv_bipush (v := 9) hx hb d_Mo_cell_93 (by decide) ?_
        refine lv_iadd hx hb d_Mo_cell_95 ?_
        refine lv_iload hx hb d_Mo_cell_96 (lv_at hl 4 rfl) ?_
        refine lv_iadd hx hb d_Mo_cell_98 ?_
        refine lv_istore (lv' := [(7, .int (((17 * x3) + 9) + x4)), (0, .ref (A 60)), (1, .int x1), (2, .int x2), (3, .int x3), (4, .int x4), (5, .int x5), (6, .int x6)]) hx hb d_Mo_cell_99 hl (by decide) rfl (fun ls hl => ?_)
        refine lv_aload_n hx hb d_Mo_cell_101 rfl (lv_at hl 1 rfl) ?_
        refine va_get (D := D) (ci := 5) (v := .ref (A 61)) (C := R_Mo) (T := T_Mo) (N := 3) hx hb hts wu_Mo hown hK hP 0 rfl rfl 0 (by decide) (hts _ wf_Mo_7) (fun _ h9 => h9) rfl d_Mo_cell_102 ?_
        refine lv_iload hx hb d_Mo_cell_105 (lv_at hl 0 rfl) ?_
        obtain ⟨i9, h⟩ := zo_i h
        refine va_iald hx hb hK hP 1 0 rfl rfl i9 d_Mo_cell_107 ?_
        refine lv_istore (lv' := [(8, .int (gM_row v3.2 (((17 * x3) + 9) + x4).toNatClampNeg)), (7, .int (((17 * x3) + 9) + x4)), (0, .ref (A 60)), (1, .int x1), (2, .int x2), (3, .int x3), (4, .int x4), (5, .int x5), (6, .int x6)]) hx hb d_Mo_cell_108 hl (by decide) rfl (fun ls hl => ?_)
        refine lv_iload hx hb d_Mo_cell_110 (lv_at hl 7 rfl) ?_
        refine lv_if_eq (tgt := 124) hx hb d_Mo_cell_112 (by decide) (fun c9 => absurd c9 c10) (fun _ => ?_)
        refine lv_aload_n hx hb d_Mo_cell_115 rfl (lv_at hl 2 rfl) ?_
        refine va_get (D := D) (ci := 5) (v := .ref (A 61)) (C := R_Mo) (T := T_Mo) (N := 3) hx hb hts wu_Mo hown hK hP 0 rfl rfl 0 (by decide) (hts _ wf_Mo_7) (fun _ h9 => h9) rfl d_Mo_cell_116 ?_
        refine lv_iload hx hb d_Mo_cell_119 (lv_at hl 1 rfl) ?_
        refine lv_iload hx hb d_Mo_cell_121 (lv_at hl 8 rfl) ?_
        obtain ⟨i9, h⟩ := zo_i h
        obtain ⟨u17, hu9, h⟩ := zo_l h
        refine va_iast hx hb hK hP hD hS 1 0 rfl rfl i9 d_Mo_cell_123 (fun H locs hP hD hS => ?_)
        replace hP : va_P D vwCl (MW A u17 r) H := by rw [hu9]; exact hP
        replace hD : va_D A9 (MW A u17 r) := by rw [hu9]; exact hD
        refine lv_iload hx hb d_Mo_cell_124 (lv_at hl 0 rfl) ?_
        cases h
        exact W.iret hx hb hr (fun t ht hW => ⟨⟨_, (), rfl, rfl, ka_at ht hP⟩, hS.F ht⟩) hS.2.2 d_Mo_cell_126 hlk
      replace h := zo_f c6 h
      refine lv_aload_n hx hb d_Mo_cell_42 rfl (lv_at hl 0 rfl) ?_
      refine lv_iconst (v := 2) hx hb d_Mo_cell_43 (by decide) ?_
      obtain ⟨v18, e9, h⟩ := zo_b h
      refine ka_i (va_runV (As := [.int 2]) (rest := []) S9 (c_Mo_fail l hl9 D A r _ v3.2 2 _ e9) (cwV 1 hts (tg_V wl_Mo_51 wm_Mo_fail we_Mo_fail wi_Mo wo_Mo_fail) rfl rfl rfl wq_Mo_fail ⟨Nat.le_of_ble_eq_true rfl, Nat.le_of_ble_eq_true rfl⟩) (ka_preV X9 hP hD hS 0 rfl rfl) rfl rfl hl.1 rfl (lv_room (Nat.le_of_ble_eq_true rfl)) d_Mo_cell_44 ⟨Nat.le_of_ble_eq_true rfl, Nat.le_of_ble_eq_true rfl⟩) X9 hD hS rfl (fun H locs hP hD hS => ?_)
      cases h
      exact W.iret hx hb hr (fun t ht hW => ⟨⟨_, (), rfl, rfl, ka_at ht hP⟩, hS.F ht⟩) hS.2.2 d_Mo_cell_47 hlk
    replace h := zo_t c4 h
    refine lv_iconst (v := 0) hx hb d_Mo_cell_28 (by decide) ?_
    cases h
    exact W.iret hx hb hr (fun t ht hW => ⟨⟨_, (), rfl, rfl, ka_at ht hP⟩, hS.F ht⟩) hS.2.2 d_Mo_cell_29 hlk
  replace h := zo_t c2 h
  refine lv_aload_n hx hb d_Mo_cell_11 rfl (lv_at hl 0 rfl) ?_
  refine lv_iconst (v := 1) hx hb d_Mo_cell_12 (by decide) ?_
  obtain ⟨v19, e9, h⟩ := zo_b h
  refine ka_i (va_runV (As := [.int 1]) (rest := []) S9 (c_Mo_fail l hl9 D A r _ σ 1 _ e9) (cwV 1 hts (tg_V wl_Mo_51 wm_Mo_fail we_Mo_fail wi_Mo wo_Mo_fail) rfl rfl rfl wq_Mo_fail ⟨Nat.le_of_ble_eq_true rfl, Nat.le_of_ble_eq_true rfl⟩) (ka_preV X9 hP hD hS 0 rfl rfl) rfl rfl hl.1 rfl (lv_room (Nat.le_of_ble_eq_true rfl)) d_Mo_cell_13 ⟨Nat.le_of_ble_eq_true rfl, Nat.le_of_ble_eq_true rfl⟩) X9 hD hS rfl (fun H locs hP hD hS => ?_)
  cases h
  exact W.iret hx hb hr (fun t ht hW => ⟨⟨_, (), rfl, rfl, ka_at ht hP⟩, hS.F ht⟩) hS.2.2 d_Mo_cell_16 hlk
def f_Mo_read (σ : RS) (x1 x2 x3 x4 : Int32) : Option (Int32 × RS) := zl (sM_code σ 0) fun u1 => (f_Mo_cell u1 x1 x2 x3 x4 0 0).bind fun v2 => some (v2.1, v2.2)
set_option maxRecDepth 100000 in
set_option maxHeartbeats 4000000 in
theorem c_Mo_read (l : Launch) (hl9 : l.stackTraces = false) (D : va_G) (A : Nat → Nat) (r : va_W) (sz : Nat) (σ : RS) (x1 x2 x3 x4 : Int32) (z : Int32 × RS) (h : f_Mo_read σ x1 x2 x3 x4 = some z) : Met l y_Mo_read (Cond.code y_Mo_read b_Mo_read 5 (some .int) :: T0) ({ frames := 5, cells := 0, slots := 0, locals := 119 } : Room) (va_Pc [.ref (A 60), .int x1, .int x2, .int x3, .int x4] (ka_Wd D A (MW A σ r) sz)) (ka_Ri D z.1 (MW A z.2 r) (va_A (MW A σ r) sz)) 0 0 (va_A (MW A σ r) sz) := by
  unfold f_Mo_read at h
  refine ka_of (own := R_Mo) (fun A9 => ka_Ri D z.1 (MW A z.2 r) A9) (by decide) rfl (Nat.le_of_ble_eq_true rfl) ?_
  intro p e s m below meth c A9 ls S9 hr hlk hex X9 hP hD hl
  obtain ⟨hx, hb, hml, hown, hts⟩ := id S9
  have hK := X9.2.1
  have hS : va_S A9 s.heap s.heap [] := va_S.rf
  replace hl : lv_has ls 5 [(0, .ref (A 60)), (1, .int x1), (2, .int x2), (3, .int x3), (4, .int x4)] := hl
  refine lv_aload_n hx hb d_Mo_read_0 rfl (lv_at hl 0 rfl) ?_
  refine lv_iconst (v := 0) hx hb d_Mo_read_1 (by decide) ?_
  obtain ⟨u1, hu9, h⟩ := zo_l h
  refine va_put (D := D) (ci := 5) (v := .int 0) (ty := .int) (C := R_Mo) (T := T_Mo) (N := 3) hx hb hts wu_Mo ft_Mo fk_Mo nm_Mo hown hK hP hD hS 0 rfl rfl 2 (by decide) (hts _ wf_Mo_16) (fun _ h9 => h9) rfl (by decide +kernel) rfl rfl (Nat.le_of_ble_eq_true rfl) d_Mo_read_2 (fun H locs hP hD hS => ?_)
  replace hP : va_P D vwCl (MW A u1 r) H := by rw [hu9]; exact hP
  replace hD : va_D A9 (MW A u1 r) := by rw [hu9]; exact hD
  refine lv_aload_n hx hb d_Mo_read_5 rfl (lv_at hl 0 rfl) ?_
  refine lv_iload_n hx hb d_Mo_read_6 rfl (lv_at hl 1 rfl) ?_
  refine lv_iload_n hx hb d_Mo_read_7 rfl (lv_at hl 2 rfl) ?_
  refine lv_iload_n hx hb d_Mo_read_8 rfl (lv_at hl 3 rfl) ?_
  refine lv_iload hx hb d_Mo_read_9 (lv_at hl 4 rfl) ?_
  refine lv_iconst (v := 0) hx hb d_Mo_read_11 (by decide) ?_
  refine lv_iconst (v := 0) hx hb d_Mo_read_12 (by decide) ?_
  obtain ⟨v2, e9, h⟩ := zo_b h
  refine ka_i (va_runV (As := [.int x1, .int x2, .int x3, .int x4, .int 0, .int 0]) (rest := []) S9 (c_Mo_cell l hl9 D A r _ u1 x1 x2 x3 x4 0 0 _ e9) (cwV 6 hts (tg_V wl_Mo_103 wm_Mo_cell we_Mo_cell wi_Mo wo_Mo_cell) rfl rfl rfl wq_Mo_cell ⟨Nat.le_of_ble_eq_true rfl, Nat.le_of_ble_eq_true rfl⟩) (ka_preV X9 hP hD hS 0 rfl rfl) rfl rfl hl.1 rfl (lv_room (Nat.le_of_ble_eq_true rfl)) d_Mo_read_13 ⟨Nat.le_of_ble_eq_true rfl, Nat.le_of_ble_eq_true rfl⟩) X9 hD hS rfl (fun H locs hP hD hS => ?_)
  cases h
  exact W.iret hx hb hr (fun t ht hW => ⟨⟨_, (), rfl, rfl, ka_at ht hP⟩, hS.F ht⟩) hS.2.2 d_Mo_read_16 hlk
def f_Mo_write (σ : RS) (x1 x2 x3 x4 x5 : Int32) : Option (Int32 × RS) := zl (sM_code σ 0) fun u1 => (f_Mo_cell u1 x1 x2 x3 x4 1 x5).bind fun v2 => some (v2.1, v2.2)
set_option maxRecDepth 100000 in
set_option maxHeartbeats 4000000 in
theorem c_Mo_write (l : Launch) (hl9 : l.stackTraces = false) (D : va_G) (A : Nat → Nat) (r : va_W) (sz : Nat) (σ : RS) (x1 x2 x3 x4 x5 : Int32) (z : Int32 × RS) (h : f_Mo_write σ x1 x2 x3 x4 x5 = some z) : Met l y_Mo_write (Cond.code y_Mo_write b_Mo_write 6 (some .int) :: T0) ({ frames := 5, cells := 0, slots := 0, locals := 119 } : Room) (va_Pc [.ref (A 60), .int x1, .int x2, .int x3, .int x4, .int x5] (ka_Wd D A (MW A σ r) sz)) (ka_Ri D z.1 (MW A z.2 r) (va_A (MW A σ r) sz)) 0 0 (va_A (MW A σ r) sz) := by
  unfold f_Mo_write at h
  refine ka_of (own := R_Mo) (fun A9 => ka_Ri D z.1 (MW A z.2 r) A9) (by decide) rfl (Nat.le_of_ble_eq_true rfl) ?_
  intro p e s m below meth c A9 ls S9 hr hlk hex X9 hP hD hl
  obtain ⟨hx, hb, hml, hown, hts⟩ := id S9
  have hK := X9.2.1
  have hS : va_S A9 s.heap s.heap [] := va_S.rf
  replace hl : lv_has ls 6 [(0, .ref (A 60)), (1, .int x1), (2, .int x2), (3, .int x3), (4, .int x4), (5, .int x5)] := hl
  refine lv_aload_n hx hb d_Mo_write_0 rfl (lv_at hl 0 rfl) ?_
  refine lv_iconst (v := 0) hx hb d_Mo_write_1 (by decide) ?_
  obtain ⟨u1, hu9, h⟩ := zo_l h
  refine va_put (D := D) (ci := 5) (v := .int 0) (ty := .int) (C := R_Mo) (T := T_Mo) (N := 3) hx hb hts wu_Mo ft_Mo fk_Mo nm_Mo hown hK hP hD hS 0 rfl rfl 2 (by decide) (hts _ wf_Mo_16) (fun _ h9 => h9) rfl (by decide +kernel) rfl rfl (Nat.le_of_ble_eq_true rfl) d_Mo_write_2 (fun H locs hP hD hS => ?_)
  replace hP : va_P D vwCl (MW A u1 r) H := by rw [hu9]; exact hP
  replace hD : va_D A9 (MW A u1 r) := by rw [hu9]; exact hD
  refine lv_aload_n hx hb d_Mo_write_5 rfl (lv_at hl 0 rfl) ?_
  refine lv_iload_n hx hb d_Mo_write_6 rfl (lv_at hl 1 rfl) ?_
  refine lv_iload_n hx hb d_Mo_write_7 rfl (lv_at hl 2 rfl) ?_
  refine lv_iload_n hx hb d_Mo_write_8 rfl (lv_at hl 3 rfl) ?_
  refine lv_iload hx hb d_Mo_write_9 (lv_at hl 4 rfl) ?_
  refine lv_iconst (v := 1) hx hb d_Mo_write_11 (by decide) ?_
  refine lv_iload hx hb d_Mo_write_12 (lv_at hl 5 rfl) ?_
  obtain ⟨v2, e9, h⟩ := zo_b h
  refine ka_i (va_runV (As := [.int x1, .int x2, .int x3, .int x4, .int 1, .int x5]) (rest := []) S9 (c_Mo_cell l hl9 D A r _ u1 x1 x2 x3 x4 1 x5 _ e9) (cwV 6 hts (tg_V wl_Mo_103 wm_Mo_cell we_Mo_cell wi_Mo wo_Mo_cell) rfl rfl rfl wq_Mo_cell ⟨Nat.le_of_ble_eq_true rfl, Nat.le_of_ble_eq_true rfl⟩) (ka_preV X9 hP hD hS 0 rfl rfl) rfl rfl hl.1 rfl (lv_room (Nat.le_of_ble_eq_true rfl)) d_Mo_write_14 ⟨Nat.le_of_ble_eq_true rfl, Nat.le_of_ble_eq_true rfl⟩) X9 hD hS rfl (fun H locs hP hD hS => ?_)
  cases h
  exact W.iret hx hb hr (fun t ht hW => ⟨⟨_, (), rfl, rfl, ka_at ht hP⟩, hS.F ht⟩) hS.2.2 d_Mo_write_17 hlk
def f_Mo_move (σ : RS) (x1 x2 x3 x4 : Int32) : Option (Int32 × RS) := zl (sM_code σ 0) fun u1 => (f_Mo_within x4 (-200) 200).bind fun v2 => if v2 = 0 then ((f_Mo_fail u1 1).bind fun v22 => some (v22.1, v22.2)) else ((f_Mo_named u1 x1 x2 x3 (-1)).bind fun v4 => if v4.1 = 0 then (some (0, v4.2)) else ((f_Mo_changes v4.2 x1 x2).bind fun v6 => if v6 = 0 then ((f_Mo_fail v4.2 3).bind fun v8 => some (v8.1, v8.2)) else ((f_Mo_changes v4.2 x1 x3).bind fun v9 => if v9 = 0 then ((f_Mo_fail v4.2 3).bind fun v21 => some (v21.1, v21.2)) else ((f_Mo_at v4.2 x2 3).bind fun v11 => (f_Mo_use v4.2 x2).bind fun v12 => if v11 < (v12 + x4) then ((f_Mo_fail v4.2 4).bind fun v14 => some (v14.1, v14.2)) else ((f_Mo_at v4.2 x3 3).bind fun v15 => (f_Mo_use v4.2 x3).bind fun v16 => if v16 ≤ (v15 + x4) then (if ((17 * x3) + 3) < 0 ∨ 1552 ≤ ((17 * x3) + 3).toNatClampNeg then none else if ((17 * x3) + 3) < 0 ∨ 1552 ≤ ((17 * x3) + 3).toNatClampNeg then none else zl (sM_row v4.2 (upd (gM_row v4.2) ((17 * x3) + 3).toNatClampNeg ((gM_row v4.2 ((17 * x3) + 3).toNatClampNeg) + x4))) fun u18 => (f_Mo_at u18 x3 3).bind fun v19 => some (v19, u18)) else ((f_Mo_fail v4.2 4).bind fun v20 => some (v20.1, v20.2)))))))
set_option maxRecDepth 100000 in
set_option maxHeartbeats 4000000 in
theorem c_Mo_move (l : Launch) (hl9 : l.stackTraces = false) (D : va_G) (A : Nat → Nat) (r : va_W) (sz : Nat) (σ : RS) (x1 x2 x3 x4 : Int32) (z : Int32 × RS) (h : f_Mo_move σ x1 x2 x3 x4 = some z) : Met l y_Mo_move (Cond.code y_Mo_move b_Mo_move 5 (some .int) :: T0) ({ frames := 4, cells := 0, slots := 0, locals := 91 } : Room) (va_Pc [.ref (A 60), .int x1, .int x2, .int x3, .int x4] (ka_Wd D A (MW A σ r) sz)) (ka_Ri D z.1 (MW A z.2 r) (va_A (MW A σ r) sz)) 0 0 (va_A (MW A σ r) sz) := by
  unfold f_Mo_move at h
  refine ka_of (own := R_Mo) (fun A9 => ka_Ri D z.1 (MW A z.2 r) A9) (by decide) rfl (Nat.le_of_ble_eq_true rfl) ?_
  intro p e s m below meth c A9 ls S9 hr hlk hex X9 hP hD hl
  obtain ⟨hx, hb, hml, hown, hts⟩ := id S9
  have hK := X9.2.1
  have hS : va_S A9 s.heap s.heap [] := va_S.rf
  replace hl : lv_has ls 5 [(0, .ref (A 60)), (1, .int x1), (2, .int x2), (3, .int x3), (4, .int x4)] := hl
  refine lv_aload_n hx hb d_Mo_move_0 rfl (lv_at hl 0 rfl) ?_
  refine lv_iconst (v := 0) hx hb d_Mo_move_1 (by decide) ?_
  obtain ⟨u1, hu9, h⟩ := zo_l h
  refine va_put (D := D) (ci := 5) (v := .int 0) (ty := .int) (C := R_Mo) (T := T_Mo) (N := 3) hx hb hts wu_Mo ft_Mo fk_Mo nm_Mo hown hK hP hD hS 0 rfl rfl 2 (by decide) (hts _ wf_Mo_16) (fun _ h9 => h9) rfl (by decide +kernel) rfl rfl (Nat.le_of_ble_eq_true rfl) d_Mo_move_2 (fun H locs hP hD hS => ?_)
  replace hP : va_P D vwCl (MW A u1 r) H := by rw [hu9]; exact hP
  replace hD : va_D A9 (MW A u1 r) := by rw [hu9]; exact hD
  refine lv_iload hx hb d_Mo_move_5 (lv_at hl 4 rfl) ?_
  refine lv_sipush (v := (-200)) hx hb d_Mo_move_7 (by decide) ?_
  refine lv_sipush (v := 200) hx hb d_Mo_move_10 (by decide) ?_
  obtain ⟨v2, e9, h⟩ := zo_b h
  refine ka_i (va_runS (As := [.int x4, .int (-200), .int 200]) (rest := []) S9 (c_Mo_within l hl9 D A (MW A u1 r) _ x4 (-200) 200 _ e9) (cwS 3 hts (tg_S wl_Mo_28 ws_Mo_within wi_Mo wo_Mo_within) rfl rfl rfl wq_Mo_within ⟨Nat.le_of_ble_eq_true rfl, Nat.le_of_ble_eq_true rfl⟩) (ka_preS X9 hP hD hS) rfl rfl hl.1 rfl (lv_room (Nat.le_of_ble_eq_true rfl)) d_Mo_move_13 ⟨Nat.le_of_ble_eq_true rfl, Nat.le_of_ble_eq_true rfl⟩) X9 hD hS rfl (fun H locs hP hD hS => ?_)
  refine lv_if_ne (tgt := 25) hx hb d_Mo_move_16 (by decide) (fun c3 => ?_) (fun c3 => ?_)
  · replace h := zo_f c3 h
    refine lv_aload_n hx hb d_Mo_move_25 rfl (lv_at hl 0 rfl) ?_
    refine lv_iload_n hx hb d_Mo_move_26 rfl (lv_at hl 1 rfl) ?_
    refine lv_iload_n hx hb d_Mo_move_27 rfl (lv_at hl 2 rfl) ?_
    refine lv_iload_n hx hb d_Mo_move_28 rfl (lv_at hl 3 rfl) ?_
    refine lv_iconst (v := (-1)) hx hb d_Mo_move_29 (by decide) ?_
    obtain ⟨v4, e9, h⟩ := zo_b h
    refine ka_i (va_runV (As := [.int x1, .int x2, .int x3, .int (-1)]) (rest := []) S9 (c_Mo_named l hl9 D A r _ u1 x1 x2 x3 (-1) _ e9) (cwV 4 hts (tg_V wl_Mo_99 wm_Mo_named we_Mo_named wi_Mo wo_Mo_named) rfl rfl rfl wq_Mo_named ⟨Nat.le_of_ble_eq_true rfl, Nat.le_of_ble_eq_true rfl⟩) (ka_preV X9 hP hD hS 0 rfl rfl) rfl rfl hl.1 rfl (lv_room (Nat.le_of_ble_eq_true rfl)) d_Mo_move_30 ⟨Nat.le_of_ble_eq_true rfl, Nat.le_of_ble_eq_true rfl⟩) X9 hD hS rfl (fun H locs hP hD hS => ?_)
    refine lv_if_ne (tgt := 38) hx hb d_Mo_move_33 (by decide) (fun c5 => ?_) (fun c5 => ?_)
    · replace h := zo_f c5 h
      refine lv_aload_n hx hb d_Mo_move_38 rfl (lv_at hl 0 rfl) ?_
      refine lv_iload_n hx hb d_Mo_move_39 rfl (lv_at hl 1 rfl) ?_
      refine lv_iload_n hx hb d_Mo_move_40 rfl (lv_at hl 2 rfl) ?_
      obtain ⟨v6, e9, h⟩ := zo_b h
      refine ka_i (va_runV (As := [.int x1, .int x2]) (rest := []) S9 (c_Mo_changes l hl9 D A r _ v4.2 x1 x2 _ e9) (cwV 2 hts (tg_V wl_Mo_69 wm_Mo_changes we_Mo_changes wi_Mo wo_Mo_changes) rfl rfl rfl wq_Mo_changes ⟨Nat.le_of_ble_eq_true rfl, Nat.le_of_ble_eq_true rfl⟩) (ka_preV X9 hP hD hS 0 rfl rfl) rfl rfl hl.1 rfl (lv_room (Nat.le_of_ble_eq_true rfl)) d_Mo_move_41 ⟨Nat.le_of_ble_eq_true rfl, Nat.le_of_ble_eq_true rfl⟩) X9 hD hS rfl (fun H locs hP hD hS => ?_)
      refine lv_if_eq (tgt := 56) hx hb d_Mo_move_44 (by decide) (fun c7 => ?_) (fun c7 => ?_)
      · replace h := zo_t c7 h
        refine lv_aload_n hx hb d_Mo_move_56 rfl (lv_at hl 0 rfl) ?_
        refine lv_iconst (v := 3) hx hb d_Mo_move_57 (by decide) ?_
        obtain ⟨v8, e9, h⟩ := zo_b h
        refine ka_i (va_runV (As := [.int 3]) (rest := []) S9 (c_Mo_fail l hl9 D A r _ v4.2 3 _ e9) (cwV 1 hts (tg_V wl_Mo_51 wm_Mo_fail we_Mo_fail wi_Mo wo_Mo_fail) rfl rfl rfl wq_Mo_fail ⟨Nat.le_of_ble_eq_true rfl, Nat.le_of_ble_eq_true rfl⟩) (ka_preV X9 hP hD hS 0 rfl rfl) rfl rfl hl.1 rfl (lv_room (Nat.le_of_ble_eq_true rfl)) d_Mo_move_58 ⟨Nat.le_of_ble_eq_true rfl, Nat.le_of_ble_eq_true rfl⟩) X9 hD hS rfl (fun H locs hP hD hS => ?_)
        cases h
        exact W.iret hx hb hr (fun t ht hW => ⟨⟨_, (), rfl, rfl, ka_at ht hP⟩, hS.F ht⟩) hS.2.2 d_Mo_move_61 hlk
      replace h := zo_f c7 h
      refine lv_aload_n hx hb d_Mo_move_47 rfl (lv_at hl 0 rfl) ?_
      refine lv_iload_n hx hb d_Mo_move_48 rfl (lv_at hl 1 rfl) ?_
      refine lv_iload_n hx hb d_Mo_move_49 rfl (lv_at hl 3 rfl) ?_
      obtain ⟨v9, e9, h⟩ := zo_b h
      refine ka_i (va_runV (As := [.int x1, .int x3]) (rest := []) S9 (c_Mo_changes l hl9 D A r _ v4.2 x1 x3 _ e9) (cwV 2 hts (tg_V wl_Mo_69 wm_Mo_changes we_Mo_changes wi_Mo wo_Mo_changes) rfl rfl rfl wq_Mo_changes ⟨Nat.le_of_ble_eq_true rfl, Nat.le_of_ble_eq_true rfl⟩) (ka_preV X9 hP hD hS 0 rfl rfl) rfl rfl hl.1 rfl (lv_room (Nat.le_of_ble_eq_true rfl)) d_Mo_move_50 ⟨Nat.le_of_ble_eq_true rfl, Nat.le_of_ble_eq_true rfl⟩) X9 hD hS rfl (fun H locs hP hD hS => ?_)
      refine lv_if_ne (tgt := 62) hx hb d_Mo_move_53 (by decide) (fun c10 => ?_) (fun c10 => ?_)
      · replace h := zo_f c10 h
        refine lv_aload_n hx hb d_Mo_move_62 rfl (lv_at hl 0 rfl) ?_
        refine lv_iload_n hx hb d_Mo_move_63 rfl (lv_at hl 2 rfl) ?_
        refine lv_iconst (v := 3) hx hb d_Mo_move_64 (by decide) ?_
        obtain ⟨v11, e9, h⟩ := zo_b h
        refine ka_i (va_runV (As := [.int x2, .int 3]) (rest := []) S9 (c_Mo_at l hl9 D A r _ v4.2 x2 3 _ e9) (cwV 2 hts (tg_V wl_Mo_32 wm_Mo_at we_Mo_at wi_Mo wo_Mo_at) rfl rfl rfl wq_Mo_at ⟨Nat.le_of_ble_eq_true rfl, Nat.le_of_ble_eq_true rfl⟩) (ka_preV X9 hP hD hS 0 rfl rfl) rfl rfl hl.1 rfl (lv_room (Nat.le_of_ble_eq_true rfl)) d_Mo_move_65 ⟨Nat.le_of_ble_eq_true rfl, Nat.le_of_ble_eq_true rfl⟩) X9 hD hS rfl (fun H locs hP hD hS => ?_)
        refine lv_aload_n hx hb d_Mo_move_68 rfl (lv_at hl 0 rfl) ?_
        refine lv_iload_n hx hb d_Mo_move_69 rfl (lv_at hl 2 rfl) ?_
        obtain ⟨v12, e9, h⟩ := zo_b h
        refine ka_i (va_runV (As := [.int x2]) (rest := [.int v11]) S9 (c_Mo_use l hl9 D A r _ v4.2 x2 _ e9) (cwV 1 hts (tg_V wl_Mo_75 wm_Mo_use we_Mo_use wi_Mo wo_Mo_use) rfl rfl rfl wq_Mo_use ⟨Nat.le_of_ble_eq_true rfl, Nat.le_of_ble_eq_true rfl⟩) (ka_preV X9 hP hD hS 0 rfl rfl) rfl rfl hl.1 rfl (lv_room (Nat.le_of_ble_eq_true rfl)) d_Mo_move_70 ⟨Nat.le_of_ble_eq_true rfl, Nat.le_of_ble_eq_true rfl⟩) X9 hD hS rfl (fun H locs hP hD hS => ?_)
        refine lv_iload hx hb d_Mo_move_73 (lv_at hl 4 rfl) ?_
        refine lv_iadd hx hb d_Mo_move_75 ?_
        refine lv_icmp_lt (tgt := 96) hx hb d_Mo_move_76 (by decide) (fun c13 => ?_) (fun c13 => ?_)
        · replace h := zo_t c13 h
          refine lv_aload_n hx hb d_Mo_move_96 rfl (lv_at hl 0 rfl) ?_
          refine lv_iconst (v := 4) hx hb d_Mo_move_97 (by decide) ?_
          obtain ⟨v14, e9, h⟩ := zo_b h
          refine ka_i (va_runV (As := [.int 4]) (rest := []) S9 (c_Mo_fail l hl9 D A r _ v4.2 4 _ e9) (cwV 1 hts (tg_V wl_Mo_51 wm_Mo_fail we_Mo_fail wi_Mo wo_Mo_fail) rfl rfl rfl wq_Mo_fail ⟨Nat.le_of_ble_eq_true rfl, Nat.le_of_ble_eq_true rfl⟩) (ka_preV X9 hP hD hS 0 rfl rfl) rfl rfl hl.1 rfl (lv_room (Nat.le_of_ble_eq_true rfl)) d_Mo_move_98 ⟨Nat.le_of_ble_eq_true rfl, Nat.le_of_ble_eq_true rfl⟩) X9 hD hS rfl (fun H locs hP hD hS => ?_)
          cases h
          exact W.iret hx hb hr (fun t ht hW => ⟨⟨_, (), rfl, rfl, ka_at ht hP⟩, hS.F ht⟩) hS.2.2 d_Mo_move_101 hlk
        replace h := zo_f c13 h
        refine lv_aload_n hx hb d_Mo_move_79 rfl (lv_at hl 0 rfl) ?_
        refine lv_iload_n hx hb d_Mo_move_80 rfl (lv_at hl 3 rfl) ?_
        refine lv_iconst (v := 3) hx hb d_Mo_move_81 (by decide) ?_
        obtain ⟨v15, e9, h⟩ := zo_b h
        refine ka_i (va_runV (As := [.int x3, .int 3]) (rest := []) S9 (c_Mo_at l hl9 D A r _ v4.2 x3 3 _ e9) (cwV 2 hts (tg_V wl_Mo_32 wm_Mo_at we_Mo_at wi_Mo wo_Mo_at) rfl rfl rfl wq_Mo_at ⟨Nat.le_of_ble_eq_true rfl, Nat.le_of_ble_eq_true rfl⟩) (ka_preV X9 hP hD hS 0 rfl rfl) rfl rfl hl.1 rfl (lv_room (Nat.le_of_ble_eq_true rfl)) d_Mo_move_82 ⟨Nat.le_of_ble_eq_true rfl, Nat.le_of_ble_eq_true rfl⟩) X9 hD hS rfl (fun H locs hP hD hS => ?_)
        refine lv_iload hx hb d_Mo_move_85 (lv_at hl 4 rfl) ?_
        refine lv_iadd hx hb d_Mo_move_87 ?_
        refine lv_aload_n hx hb d_Mo_move_88 rfl (lv_at hl 0 rfl) ?_
        refine lv_iload_n hx hb d_Mo_move_89 rfl (lv_at hl 3 rfl) ?_
        obtain ⟨v16, e9, h⟩ := zo_b h
        refine ka_i (va_runV (As := [.int x3]) (rest := [.int (v15 + x4)]) S9 (c_Mo_use l hl9 D A r _ v4.2 x3 _ e9) (cwV 1 hts (tg_V wl_Mo_75 wm_Mo_use we_Mo_use wi_Mo wo_Mo_use) rfl rfl rfl wq_Mo_use ⟨Nat.le_of_ble_eq_true rfl, Nat.le_of_ble_eq_true rfl⟩) (ka_preV X9 hP hD hS 0 rfl rfl) rfl rfl hl.1 rfl (lv_room (Nat.le_of_ble_eq_true rfl)) d_Mo_move_90 ⟨Nat.le_of_ble_eq_true rfl, Nat.le_of_ble_eq_true rfl⟩) X9 hD hS rfl (fun H locs hP hD hS => ?_)
        refine lv_icmp_ge (tgt := 102) hx hb d_Mo_move_93 (by decide) (fun c17 => ?_) (fun c17 => ?_)
        · replace h := zo_t c17 h
          refine lv_aload_n hx hb d_Mo_move_102 rfl (lv_at hl 0 rfl) ?_
          refine va_get (D := D) (ci := 5) (v := .ref (A 61)) (C := R_Mo) (T := T_Mo) (N := 3) hx hb hts wu_Mo hown hK hP 0 rfl rfl 0 (by decide) (hts _ wf_Mo_7) (fun _ h9 => h9) rfl d_Mo_move_103 ?_
          refine lv_bipush (v := 17) hx hb d_Mo_move_106 (by decide) ?_
          refine lv_iload_n hx hb d_Mo_move_108 rfl (lv_at hl 3 rfl) ?_
          refine lv_imul hx hb d_Mo_move_109 ?_
          refine lv_iconst (v := 3) hx hb d_Mo_move_110 (by decide) ?_
          refine lv_iadd hx hb d_Mo_move_111 ?_
          refine lv_dup2_11 hx hb d_Mo_move_112 rfl rfl ?_
          obtain ⟨i9, h⟩ := zo_i h
          refine va_iald hx hb hK hP 1 0 rfl rfl i9 d_Mo_move_113 ?_
          refine lv_iload hx hb d_Mo_move_114 (lv_at hl 4 rfl) ?_
          refine lv_iadd hx hb d_Mo_move_116 ?_
          obtain ⟨i9, h⟩ := zo_i h
          obtain ⟨u18, hu9, h⟩ := zo_l h
          refine va_iast hx hb hK hP hD hS 1 0 rfl rfl i9 d_Mo_move_117 (fun H locs hP hD hS => ?_)
          replace hP : va_P D vwCl (MW A u18 r) H := by rw [hu9]; exact hP
          replace hD : va_D A9 (MW A u18 r) := by rw [hu9]; exact hD
          refine lv_aload_n hx hb d_Mo_move_118 rfl (lv_at hl 0 rfl) ?_
          refine lv_iload_n hx hb d_Mo_move_119 rfl (lv_at hl 3 rfl) ?_
          refine lv_iconst (v := 3) hx hb d_Mo_move_120 (by decide) ?_
          obtain ⟨v19, e9, h⟩ := zo_b h
          refine ka_i (va_runV (As := [.int x3, .int 3]) (rest := []) S9 (c_Mo_at l hl9 D A r _ u18 x3 3 _ e9) (cwV 2 hts (tg_V wl_Mo_32 wm_Mo_at we_Mo_at wi_Mo wo_Mo_at) rfl rfl rfl wq_Mo_at ⟨Nat.le_of_ble_eq_true rfl, Nat.le_of_ble_eq_true rfl⟩) (ka_preV X9 hP hD hS 0 rfl rfl) rfl rfl hl.1 rfl (lv_room (Nat.le_of_ble_eq_true rfl)) d_Mo_move_121 ⟨Nat.le_of_ble_eq_true rfl, Nat.le_of_ble_eq_true rfl⟩) X9 hD hS rfl (fun H locs hP hD hS => ?_)
          cases h
          exact W.iret hx hb hr (fun t ht hW => ⟨⟨_, (), rfl, rfl, ka_at ht hP⟩, hS.F ht⟩) hS.2.2 d_Mo_move_124 hlk
        replace h := zo_f c17 h
        refine lv_aload_n hx hb d_Mo_move_96 rfl (lv_at hl 0 rfl) ?_
        refine lv_iconst (v := 4) hx hb d_Mo_move_97 (by decide) ?_
        obtain ⟨v20, e9, h⟩ := zo_b h
        refine ka_i (va_runV (As := [.int 4]) (rest := []) S9 (c_Mo_fail l hl9 D A r _ v4.2 4 _ e9) (cwV 1 hts (tg_V wl_Mo_51 wm_Mo_fail we_Mo_fail wi_Mo wo_Mo_fail) rfl rfl rfl wq_Mo_fail ⟨Nat.le_of_ble_eq_true rfl, Nat.le_of_ble_eq_true rfl⟩) (ka_preV X9 hP hD hS 0 rfl rfl) rfl rfl hl.1 rfl (lv_room (Nat.le_of_ble_eq_true rfl)) d_Mo_move_98 ⟨Nat.le_of_ble_eq_true rfl, Nat.le_of_ble_eq_true rfl⟩) X9 hD hS rfl (fun H locs hP hD hS => ?_)
        cases h
        exact W.iret hx hb hr (fun t ht hW => ⟨⟨_, (), rfl, rfl, ka_at ht hP⟩, hS.F ht⟩) hS.2.2 d_Mo_move_101 hlk
      replace h := zo_t c10 h
      refine lv_aload_n hx hb d_Mo_move_56 rfl (lv_at hl 0 rfl) ?_
      refine lv_iconst (v := 3) hx hb d_Mo_move_57 (by decide) ?_
      obtain ⟨v21, e9, h⟩ := zo_b h
      refine ka_i (va_runV (As := [.int 3]) (rest := []) S9 (c_Mo_fail l hl9 D A r _ v4.2 3 _ e9) (cwV 1 hts (tg_V wl_Mo_51 wm_Mo_fail we_Mo_fail wi_Mo wo_Mo_fail) rfl rfl rfl wq_Mo_fail ⟨Nat.le_of_ble_eq_true rfl, Nat.le_of_ble_eq_true rfl⟩) (ka_preV X9 hP hD hS 0 rfl rfl) rfl rfl hl.1 rfl (lv_room (Nat.le_of_ble_eq_true rfl)) d_Mo_move_58 ⟨Nat.le_of_ble_eq_true rfl, Nat.le_of_ble_eq_true rfl⟩) X9 hD hS rfl (fun H locs hP hD hS => ?_)
      cases h
      exact W.iret hx hb hr (fun t ht hW => ⟨⟨_, (), rfl, rfl, ka_at ht hP⟩, hS.F ht⟩) hS.2.2 d_Mo_move_61 hlk
    replace h := zo_t c5 h
    refine lv_iconst (v := 0) hx hb d_Mo_move_36 (by decide) ?_
    cases h
    exact W.iret hx hb hr (fun t ht hW => ⟨⟨_, (), rfl, rfl, ka_at ht hP⟩, hS.F ht⟩) hS.2.2 d_Mo_move_37 hlk
  replace h := zo_t c3 h
  refine lv_aload_n hx hb d_Mo_move_19 rfl (lv_at hl 0 rfl) ?_
  refine lv_iconst (v := 1) hx hb d_Mo_move_20 (by decide) ?_
  obtain ⟨v22, e9, h⟩ := zo_b h
  refine ka_i (va_runV (As := [.int 1]) (rest := []) S9 (c_Mo_fail l hl9 D A r _ u1 1 _ e9) (cwV 1 hts (tg_V wl_Mo_51 wm_Mo_fail we_Mo_fail wi_Mo wo_Mo_fail) rfl rfl rfl wq_Mo_fail ⟨Nat.le_of_ble_eq_true rfl, Nat.le_of_ble_eq_true rfl⟩) (ka_preV X9 hP hD hS 0 rfl rfl) rfl rfl hl.1 rfl (lv_room (Nat.le_of_ble_eq_true rfl)) d_Mo_move_21 ⟨Nat.le_of_ble_eq_true rfl, Nat.le_of_ble_eq_true rfl⟩) X9 hD hS rfl (fun H locs hP hD hS => ?_)
  cases h
  exact W.iret hx hb hr (fun t ht hW => ⟨⟨_, (), rfl, rfl, ka_at ht hP⟩, hS.F ht⟩) hS.2.2 d_Mo_move_24 hlk
def f_Mo_remove_L48 : Nat → RS → Int32 → Int32 → Int32 → Int32 → Int32 → Option (Int32 × RS)
  | 0, _, _, _, _, _, _ => none
  | n + 1, u, y1, y2, y3, y4, y5 => if (1549 : Int32) < 0 ∨ 1552 ≤ (1549 : Int32).toNatClampNeg then none else if (gM_row u (1549 : Int32).toNatClampNeg) < y5 then (some (y4, u)) else ((f_Mo_there u y5).bind fun v7 => if v7 = 0 then (f_Mo_remove_L48 n u y1 y2 y3 y4 (y5 + 1)) else ((f_Mo_at u y5 4).bind fun v9 => (f_Mo_at u v9 0).bind fun v10 => if v10 = 1 then (f_Mo_remove_L48 n u y1 y2 y3 y4 (y5 + 1)) else (if ((17 * y5) + 0) < 0 ∨ 1552 ≤ ((17 * y5) + 0).toNatClampNeg then none else zl (sM_row u (upd (gM_row u) ((17 * y5) + 0).toNatClampNeg 0)) fun u12 => f_Mo_remove_L48 n u12 y1 y2 y3 (y4 + 1) (y5 + 1))))
def f_Mo_remove (σ : RS) (x1 x2 x3 : Int32) : Option (Int32 × RS) := (f_Mo_named σ x1 x2 x3 (-1)).bind fun v1 => if v1.1 = 0 then (some (0, v1.2)) else ((f_Mo_changes v1.2 x1 x2).bind fun v3 => if v3 = 0 then ((f_Mo_fail v1.2 3).bind fun v13 => some (v13.1, v13.2)) else (if ((17 * x3) + 0) < 0 ∨ 1552 ≤ ((17 * x3) + 0).toNatClampNeg then none else zl (sM_row v1.2 (upd (gM_row v1.2) ((17 * x3) + 0).toNatClampNeg 0)) fun u5 => f_Mo_remove_L48 100 u5 x1 x2 x3 1 (x3 + 1)))
set_option maxRecDepth 100000 in
set_option maxHeartbeats 4000000 in
theorem c_Mo_remove (l : Launch) (hl9 : l.stackTraces = false) (D : va_G) (A : Nat → Nat) (r : va_W) (sz : Nat) (σ : RS) (x1 x2 x3 : Int32) (z : Int32 × RS) (h : f_Mo_remove σ x1 x2 x3 = some z) : Met l y_Mo_remove (Cond.code y_Mo_remove b_Mo_remove 6 (some .int) :: T0) ({ frames := 4, cells := 0, slots := 0, locals := 91 } : Room) (va_Pc [.ref (A 60), .int x1, .int x2, .int x3] (ka_Wd D A (MW A σ r) sz)) (ka_Ri D z.1 (MW A z.2 r) (va_A (MW A σ r) sz)) 0 0 (va_A (MW A σ r) sz) := by
  unfold f_Mo_remove at h
  refine ka_of (own := R_Mo) (fun A9 => ka_Ri D z.1 (MW A z.2 r) A9) (by decide) rfl (Nat.le_of_ble_eq_true rfl) ?_
  intro p e s m below meth c A9 ls S9 hr hlk hex X9 hP hD hl
  obtain ⟨hx, hb, hml, hown, hts⟩ := id S9
  have hK := X9.2.1
  have hS : va_S A9 s.heap s.heap [] := va_S.rf
  replace hl : lv_has ls 6 [(0, .ref (A 60)), (1, .int x1), (2, .int x2), (3, .int x3)] := hl
  have L48 : ∀ (n : Nat) (u : RS) (y1 y2 y3 y4 y5 : Int32) (H : Heap) (locs : List Loc) (ls : Array Slot), f_Mo_remove_L48 n u y1 y2 y3 y4 y5 = some z → va_P D vwCl (MW A u r) H → va_D A9 (MW A u r) → va_S A9 s.heap H locs → lv_has ls 6 [(0, .ref (A 60)), (1, .int y1), (2, .int y2), (3, .int y3), (4, .int y4), (5, .int y5)] → W p l e ({ frames := 4, cells := 0, slots := 0, locals := 91 } : Room) s m [.ref (A 60), .int x1, .int x2, .int x3].toArray below meth c H locs 0 0 (MQ below (ka_Ri D z.1 (MW A z.2 r) A9) [.ref (A 60), .int x1, .int x2, .int x3].toArray s 0 0 A9) (F0 m 48 ls []) := by
    intro n
    induction n with
    | zero => intro u y1 y2 y3 y4 y5 H locs ls h; cases h
    | succ n ih48 =>
      intro u y1 y2 y3 y4 y5 H locs ls h hP hD hS hl
      rw [f_Mo_remove_L48] at h
      refine lv_iload hx hb d_Mo_remove_48 (lv_at hl 5 rfl) ?_
      refine lv_aload_n hx hb d_Mo_remove_50 rfl (lv_at hl 0 rfl) ?_
      refine va_get (D := D) (ci := 5) (v := .ref (A 61)) (C := R_Mo) (T := T_Mo) (N := 3) hx hb hts wu_Mo hown hK hP 0 rfl rfl 0 (by decide) (hts _ wf_Mo_7) (fun _ h9 => h9) rfl d_Mo_remove_51 ?_
      refine lv_sipush (v := 1549) hx hb d_Mo_remove_54 (by decide) ?_
      obtain ⟨i9, h⟩ := zo_i h
      refine va_iald hx hb hK hP 1 0 rfl rfl i9 d_Mo_remove_57 ?_
      refine lv_icmp_gt (tgt := 111) hx hb d_Mo_remove_58 (by decide) (fun c6 => ?_) (fun c6 => ?_)
      · replace h := zo_t c6 h
        refine lv_iload hx hb d_Mo_remove_111 (lv_at hl 4 rfl) ?_
        cases h
        exact W.iret hx hb hr (fun t ht hW => ⟨⟨_, (), rfl, rfl, ka_at ht hP⟩, hS.F ht⟩) hS.2.2 d_Mo_remove_113 hlk
      replace h := zo_f c6 h
      refine lv_aload_n hx hb d_Mo_remove_61 rfl (lv_at hl 0 rfl) ?_
      refine lv_iload hx hb d_Mo_remove_62 (lv_at hl 5 rfl) ?_
      obtain ⟨v7, e9, h⟩ := zo_b h
      refine ka_i (va_runV (As := [.int y5]) (rest := []) S9 (c_Mo_there l hl9 D A r _ u y5 _ e9) (cwV 1 hts (tg_V wl_Mo_43 wm_Mo_there we_Mo_there wi_Mo wo_Mo_there) rfl rfl rfl wq_Mo_there ⟨Nat.le_of_ble_eq_true rfl, Nat.le_of_ble_eq_true rfl⟩) (ka_preV X9 hP hD hS 0 rfl rfl) rfl rfl hl.1 rfl (lv_room (Nat.le_of_ble_eq_true rfl)) d_Mo_remove_64 ⟨Nat.le_of_ble_eq_true rfl, Nat.le_of_ble_eq_true rfl⟩) X9 hD hS rfl (fun H locs hP hD hS => ?_)
      refine lv_if_eq (tgt := 105) hx hb d_Mo_remove_67 (by decide) (fun c8 => ?_) (fun c8 => ?_)
      · replace h := zo_t c8 h
        refine lv_iinc (v := y5 + 1) (lv' := [(5, .int (y5 + 1)), (0, .ref (A 60)), (1, .int y1), (2, .int y2), (3, .int y3), (4, .int y4)]) hx hb d_Mo_remove_105 hl (k := 5) rfl rfl (by decide) rfl (fun ls hl => ?_)
        refine lv_goto (tgt := 48) hx hb d_Mo_remove_108 (by decide) ?_
        exact ih48 u y1 y2 y3 y4 (y5 + 1) _ _ _ h hP hD hS (lv_sub hl [1, 2, 3, 4, 5, 0] rfl)
      replace h := zo_f c8 h
      refine lv_aload_n hx hb d_Mo_remove_70 rfl (lv_at hl 0 rfl) ?_
      refine lv_aload_n hx hb d_Mo_remove_71 rfl (lv_at hl 0 rfl) ?_
      refine lv_iload hx hb d_Mo_remove_72 (lv_at hl 5 rfl) ?_
      refine lv_iconst (v := 4) hx hb d_Mo_remove_74 (by decide) ?_
      obtain ⟨v9, e9, h⟩ := zo_b h
      refine ka_i (va_runV (As := [.int y5, .int 4]) (rest := [.ref (A 60)]) S9 (c_Mo_at l hl9 D A r _ u y5 4 _ e9) (cwV 2 hts (tg_V wl_Mo_32 wm_Mo_at we_Mo_at wi_Mo wo_Mo_at) rfl rfl rfl wq_Mo_at ⟨Nat.le_of_ble_eq_true rfl, Nat.le_of_ble_eq_true rfl⟩) (ka_preV X9 hP hD hS 0 rfl rfl) rfl rfl hl.1 rfl (lv_room (Nat.le_of_ble_eq_true rfl)) d_Mo_remove_75 ⟨Nat.le_of_ble_eq_true rfl, Nat.le_of_ble_eq_true rfl⟩) X9 hD hS rfl (fun H locs hP hD hS => ?_)
      refine lv_iconst (v := 0) hx hb d_Mo_remove_78 (by decide) ?_
      obtain ⟨v10, e9, h⟩ := zo_b h
      refine ka_i (va_runV (As := [.int v9, .int 0]) (rest := []) S9 (c_Mo_at l hl9 D A r _ u v9 0 _ e9) (cwV 2 hts (tg_V wl_Mo_32 wm_Mo_at we_Mo_at wi_Mo wo_Mo_at) rfl rfl rfl wq_Mo_at ⟨Nat.le_of_ble_eq_true rfl, Nat.le_of_ble_eq_true rfl⟩) (ka_preV X9 hP hD hS 0 rfl rfl) rfl rfl hl.1 rfl (lv_room (Nat.le_of_ble_eq_true rfl)) d_Mo_remove_79 ⟨Nat.le_of_ble_eq_true rfl, Nat.le_of_ble_eq_true rfl⟩) X9 hD hS rfl (fun H locs hP hD hS => ?_)
      refine lv_iconst (v := 1) hx hb d_Mo_remove_82 (by decide) ?_
      refine lv_icmp_ne (tgt := 89) hx hb d_Mo_remove_83 (by decide) (fun c11 => ?_) (fun c11 => ?_)
      · replace h := zo_f c11 h
        refine lv_aload_n hx hb d_Mo_remove_89 rfl (lv_at hl 0 rfl) ?_
        refine va_get (D := D) (ci := 5) (v := .ref (A 61)) (C := R_Mo) (T := T_Mo) (N := 3) hx hb hts wu_Mo hown hK hP 0 rfl rfl 0 (by decide) (hts _ wf_Mo_7) (fun _ h9 => h9) rfl d_Mo_remove_90 ?_
        refine lv_bipush (v := 17) hx hb d_Mo_remove_93 (by decide) ?_
        refine lv_iload hx hb d_Mo_remove_95 (lv_at hl 5 rfl) ?_
        refine lv_imul hx hb d_Mo_remove_97 ?_
        refine lv_iconst (v := 0) hx hb d_Mo_remove_98 (by decide) ?_
        refine lv_iadd hx hb d_Mo_remove_99 ?_
        refine lv_iconst (v := 0) hx hb d_Mo_remove_100 (by decide) ?_
        obtain ⟨i9, h⟩ := zo_i h
        obtain ⟨u12, hu9, h⟩ := zo_l h
        refine va_iast hx hb hK hP hD hS 1 0 rfl rfl i9 d_Mo_remove_101 (fun H locs hP hD hS => ?_)
        replace hP : va_P D vwCl (MW A u12 r) H := by rw [hu9]; exact hP
        replace hD : va_D A9 (MW A u12 r) := by rw [hu9]; exact hD
        refine lv_iinc (v := y4 + 1) (lv' := [(4, .int (y4 + 1)), (0, .ref (A 60)), (1, .int y1), (2, .int y2), (3, .int y3), (5, .int y5)]) hx hb d_Mo_remove_102 hl (k := 4) rfl rfl (by decide) rfl (fun ls hl => ?_)
        refine lv_iinc (v := y5 + 1) (lv' := [(5, .int (y5 + 1)), (4, .int (y4 + 1)), (0, .ref (A 60)), (1, .int y1), (2, .int y2), (3, .int y3)]) hx hb d_Mo_remove_105 hl (k := 5) rfl rfl (by decide) rfl (fun ls hl => ?_)
        refine lv_goto (tgt := 48) hx hb d_Mo_remove_108 (by decide) ?_
        exact ih48 u12 y1 y2 y3 (y4 + 1) (y5 + 1) _ _ _ h hP hD hS (lv_sub hl [2, 3, 4, 5, 1, 0] rfl)
      replace h := zo_t c11 h
      refine lv_goto (tgt := 105) hx hb d_Mo_remove_86 (by decide) ?_
      refine lv_iinc (v := y5 + 1) (lv' := [(5, .int (y5 + 1)), (0, .ref (A 60)), (1, .int y1), (2, .int y2), (3, .int y3), (4, .int y4)]) hx hb d_Mo_remove_105 hl (k := 5) rfl rfl (by decide) rfl (fun ls hl => ?_)
      refine lv_goto (tgt := 48) hx hb d_Mo_remove_108 (by decide) ?_
      exact ih48 u y1 y2 y3 y4 (y5 + 1) _ _ _ h hP hD hS (lv_sub hl [1, 2, 3, 4, 5, 0] rfl)
  refine lv_aload_n hx hb d_Mo_remove_0 rfl (lv_at hl 0 rfl) ?_
  refine lv_iload_n hx hb d_Mo_remove_1 rfl (lv_at hl 1 rfl) ?_
  refine lv_iload_n hx hb d_Mo_remove_2 rfl (lv_at hl 2 rfl) ?_
  refine lv_iload_n hx hb d_Mo_remove_3 rfl (lv_at hl 3 rfl) ?_
  refine lv_iconst (v := (-1)) hx hb d_Mo_remove_4 (by decide) ?_
  obtain ⟨v1, e9, h⟩ := zo_b h
  refine ka_i (va_runV (As := [.int x1, .int x2, .int x3, .int (-1)]) (rest := []) S9 (c_Mo_named l hl9 D A r _ σ x1 x2 x3 (-1) _ e9) (cwV 4 hts (tg_V wl_Mo_99 wm_Mo_named we_Mo_named wi_Mo wo_Mo_named) rfl rfl rfl wq_Mo_named ⟨Nat.le_of_ble_eq_true rfl, Nat.le_of_ble_eq_true rfl⟩) (ka_preV X9 hP hD hS 0 rfl rfl) rfl rfl hl.1 rfl (lv_room (Nat.le_of_ble_eq_true rfl)) d_Mo_remove_5 ⟨Nat.le_of_ble_eq_true rfl, Nat.le_of_ble_eq_true rfl⟩) X9 hD hS rfl (fun H locs hP hD hS => ?_)
  refine lv_if_ne (tgt := 13) hx hb d_Mo_remove_8 (by decide) (fun c2 => ?_) (fun c2 => ?_)
  · replace h := zo_f c2 h
    refine lv_aload_n hx hb d_Mo_remove_13 rfl (lv_at hl 0 rfl) ?_
    refine lv_iload_n hx hb d_Mo_remove_14 rfl (lv_at hl 1 rfl) ?_
    refine lv_iload_n hx hb d_Mo_remove_15 rfl (lv_at hl 2 rfl) ?_
    obtain ⟨v3, e9, h⟩ := zo_b h
    refine ka_i (va_runV (As := [.int x1, .int x2]) (rest := []) S9 (c_Mo_changes l hl9 D A r _ v1.2 x1 x2 _ e9) (cwV 2 hts (tg_V wl_Mo_69 wm_Mo_changes we_Mo_changes wi_Mo wo_Mo_changes) rfl rfl rfl wq_Mo_changes ⟨Nat.le_of_ble_eq_true rfl, Nat.le_of_ble_eq_true rfl⟩) (ka_preV X9 hP hD hS 0 rfl rfl) rfl rfl hl.1 rfl (lv_room (Nat.le_of_ble_eq_true rfl)) d_Mo_remove_16 ⟨Nat.le_of_ble_eq_true rfl, Nat.le_of_ble_eq_true rfl⟩) X9 hD hS rfl (fun H locs hP hD hS => ?_)
    refine lv_if_ne (tgt := 28) hx hb d_Mo_remove_19 (by decide) (fun c4 => ?_) (fun c4 => ?_)
    · replace h := zo_f c4 h
      refine lv_aload_n hx hb d_Mo_remove_28 rfl (lv_at hl 0 rfl) ?_
      refine va_get (D := D) (ci := 5) (v := .ref (A 61)) (C := R_Mo) (T := T_Mo) (N := 3) hx hb hts wu_Mo hown hK hP 0 rfl rfl 0 (by decide) (hts _ wf_Mo_7) (fun _ h9 => h9) rfl d_Mo_remove_29 ?_
      refine lv_bipush (v := 17) hx hb d_Mo_remove_32 (by decide) ?_
      refine lv_iload_n hx hb d_Mo_remove_34 rfl (lv_at hl 3 rfl) ?_
      refine lv_imul hx hb d_Mo_remove_35 ?_
      refine lv_iconst (v := 0) hx hb d_Mo_remove_36 (by decide) ?_
      refine lv_iadd hx hb d_Mo_remove_37 ?_
      refine lv_iconst (v := 0) hx hb d_Mo_remove_38 (by decide) ?_
      obtain ⟨i9, h⟩ := zo_i h
      obtain ⟨u5, hu9, h⟩ := zo_l h
      refine va_iast hx hb hK hP hD hS 1 0 rfl rfl i9 d_Mo_remove_39 (fun H locs hP hD hS => ?_)
      replace hP : va_P D vwCl (MW A u5 r) H := by rw [hu9]; exact hP
      replace hD : va_D A9 (MW A u5 r) := by rw [hu9]; exact hD
      refine lv_iconst (v := 1) hx hb d_Mo_remove_40 (by decide) ?_
      refine lv_istore (lv' := [(4, .int 1), (0, .ref (A 60)), (1, .int x1), (2, .int x2), (3, .int x3)]) hx hb d_Mo_remove_41 hl (by decide) rfl (fun ls hl => ?_)
      refine lv_iload_n hx hb d_Mo_remove_43 rfl (lv_at hl 4 rfl) ?_
      refine lv_iconst (v := 1) hx hb d_Mo_remove_44 (by decide) ?_
      refine lv_iadd hx hb d_Mo_remove_45 ?_
      refine lv_istore (lv' := [(5, .int (x3 + 1)), (4, .int 1), (0, .ref (A 60)), (1, .int x1), (2, .int x2), (3, .int x3)]) hx hb d_Mo_remove_46 hl (by decide) rfl (fun ls hl => ?_)
      exact L48 100 u5 x1 x2 x3 1 (x3 + 1) _ _ _ h hP hD hS (lv_sub hl [2, 3, 4, 5, 1, 0] rfl)
    replace h := zo_t c4 h
    refine lv_aload_n hx hb d_Mo_remove_22 rfl (lv_at hl 0 rfl) ?_
    refine lv_iconst (v := 3) hx hb d_Mo_remove_23 (by decide) ?_
    obtain ⟨v13, e9, h⟩ := zo_b h
    refine ka_i (va_runV (As := [.int 3]) (rest := []) S9 (c_Mo_fail l hl9 D A r _ v1.2 3 _ e9) (cwV 1 hts (tg_V wl_Mo_51 wm_Mo_fail we_Mo_fail wi_Mo wo_Mo_fail) rfl rfl rfl wq_Mo_fail ⟨Nat.le_of_ble_eq_true rfl, Nat.le_of_ble_eq_true rfl⟩) (ka_preV X9 hP hD hS 0 rfl rfl) rfl rfl hl.1 rfl (lv_room (Nat.le_of_ble_eq_true rfl)) d_Mo_remove_24 ⟨Nat.le_of_ble_eq_true rfl, Nat.le_of_ble_eq_true rfl⟩) X9 hD hS rfl (fun H locs hP hD hS => ?_)
    cases h
    exact W.iret hx hb hr (fun t ht hW => ⟨⟨_, (), rfl, rfl, ka_at ht hP⟩, hS.F ht⟩) hS.2.2 d_Mo_remove_27 hlk
  replace h := zo_t c2 h
  refine lv_iconst (v := 0) hx hb d_Mo_remove_11 (by decide) ?_
  cases h
  exact W.iret hx hb hr (fun t ht hW => ⟨⟨_, (), rfl, rfl, ka_at ht hP⟩, hS.F ht⟩) hS.2.2 d_Mo_remove_12 hlk
def f_Mo_drop (σ : RS) (x1 x2 x3 : Int32) : Option (Int32 × RS) := zl (sM_code σ 0) fun u1 => (f_Mo_remove u1 x1 x2 x3).bind fun v2 => some (v2.1, v2.2)
set_option maxRecDepth 100000 in
set_option maxHeartbeats 4000000 in
theorem c_Mo_drop (l : Launch) (hl9 : l.stackTraces = false) (D : va_G) (A : Nat → Nat) (r : va_W) (sz : Nat) (σ : RS) (x1 x2 x3 : Int32) (z : Int32 × RS) (h : f_Mo_drop σ x1 x2 x3 = some z) : Met l y_Mo_drop (Cond.code y_Mo_drop b_Mo_drop 4 (some .int) :: T0) ({ frames := 5, cells := 0, slots := 0, locals := 116 } : Room) (va_Pc [.ref (A 60), .int x1, .int x2, .int x3] (ka_Wd D A (MW A σ r) sz)) (ka_Ri D z.1 (MW A z.2 r) (va_A (MW A σ r) sz)) 0 0 (va_A (MW A σ r) sz) := by
  unfold f_Mo_drop at h
  refine ka_of (own := R_Mo) (fun A9 => ka_Ri D z.1 (MW A z.2 r) A9) (by decide) rfl (Nat.le_of_ble_eq_true rfl) ?_
  intro p e s m below meth c A9 ls S9 hr hlk hex X9 hP hD hl
  obtain ⟨hx, hb, hml, hown, hts⟩ := id S9
  have hK := X9.2.1
  have hS : va_S A9 s.heap s.heap [] := va_S.rf
  replace hl : lv_has ls 4 [(0, .ref (A 60)), (1, .int x1), (2, .int x2), (3, .int x3)] := hl
  refine lv_aload_n hx hb d_Mo_drop_0 rfl (lv_at hl 0 rfl) ?_
  refine lv_iconst (v := 0) hx hb d_Mo_drop_1 (by decide) ?_
  obtain ⟨u1, hu9, h⟩ := zo_l h
  refine va_put (D := D) (ci := 5) (v := .int 0) (ty := .int) (C := R_Mo) (T := T_Mo) (N := 3) hx hb hts wu_Mo ft_Mo fk_Mo nm_Mo hown hK hP hD hS 0 rfl rfl 2 (by decide) (hts _ wf_Mo_16) (fun _ h9 => h9) rfl (by decide +kernel) rfl rfl (Nat.le_of_ble_eq_true rfl) d_Mo_drop_2 (fun H locs hP hD hS => ?_)
  replace hP : va_P D vwCl (MW A u1 r) H := by rw [hu9]; exact hP
  replace hD : va_D A9 (MW A u1 r) := by rw [hu9]; exact hD
  refine lv_aload_n hx hb d_Mo_drop_5 rfl (lv_at hl 0 rfl) ?_
  refine lv_iload_n hx hb d_Mo_drop_6 rfl (lv_at hl 1 rfl) ?_
  refine lv_iload_n hx hb d_Mo_drop_7 rfl (lv_at hl 2 rfl) ?_
  refine lv_iload_n hx hb d_Mo_drop_8 rfl (lv_at hl 3 rfl) ?_
  obtain ⟨v2, e9, h⟩ := zo_b h
  refine ka_i (va_runV (As := [.int x1, .int x2, .int x3]) (rest := []) S9 (c_Mo_remove l hl9 D A r _ u1 x1 x2 x3 _ e9) (cwV 3 hts (tg_V wl_Mo_107 wm_Mo_remove we_Mo_remove wi_Mo wo_Mo_remove) rfl rfl rfl wq_Mo_remove ⟨Nat.le_of_ble_eq_true rfl, Nat.le_of_ble_eq_true rfl⟩) (ka_preV X9 hP hD hS 0 rfl rfl) rfl rfl hl.1 rfl (lv_room (Nat.le_of_ble_eq_true rfl)) d_Mo_drop_9 ⟨Nat.le_of_ble_eq_true rfl, Nat.le_of_ble_eq_true rfl⟩) X9 hD hS rfl (fun H locs hP hD hS => ?_)
  cases h
  exact W.iret hx hb hr (fun t ht hW => ⟨⟨_, (), rfl, rfl, ka_at ht hP⟩, hS.F ht⟩) hS.2.2 d_Mo_drop_12 hlk
def f_Mo_become (σ : RS) (x1 x2 : Int32) : Option (Int32 × RS) := zl (sM_code σ 0) fun u1 => (f_Mo_isLabel u1 x2).bind fun v2 => if v2 = 0 then ((f_Mo_fail u1 1).bind fun v18 => some (v18.1, v18.2)) else ((f_Mo_threadOnly u1 x1).bind fun v4 => if v4.1 = 0 then (some (0, v4.2)) else ((f_Mo_at v4.2 x1 2).bind fun v6 => (f_Mo_under v4.2 v6 x2 0).bind fun v7 => if v7 = 0 then ((f_Mo_fail v4.2 3).bind fun v9 => some (v9.1, v9.2)) else ((f_Mo_at v4.2 x1 6).bind fun v10 => (f_Mo_under v4.2 x2 v10 0).bind fun v11 => if v11 = 0 then ((f_Mo_fail v4.2 3).bind fun v13 => some (v13.1, v13.2)) else ((f_Mo_starsOf v4.2 x2 x1).bind fun v14 => if v14 = 0 then ((f_Mo_fail v4.2 3).bind fun v17 => some (v17.1, v17.2)) else (if ((17 * x1) + 2) < 0 ∨ 1552 ≤ ((17 * x1) + 2).toNatClampNeg then none else zl (sM_row v4.2 (upd (gM_row v4.2) ((17 * x1) + 2).toNatClampNeg x2)) fun u16 => some (0, u16))))))
set_option maxRecDepth 100000 in
set_option maxHeartbeats 4000000 in
theorem c_Mo_become (l : Launch) (hl9 : l.stackTraces = false) (D : va_G) (A : Nat → Nat) (r : va_W) (sz : Nat) (σ : RS) (x1 x2 : Int32) (z : Int32 × RS) (h : f_Mo_become σ x1 x2 = some z) : Met l y_Mo_become (Cond.code y_Mo_become b_Mo_become 3 (some .int) :: T0) ({ frames := 3, cells := 0, slots := 0, locals := 64 } : Room) (va_Pc [.ref (A 60), .int x1, .int x2] (ka_Wd D A (MW A σ r) sz)) (ka_Ri D z.1 (MW A z.2 r) (va_A (MW A σ r) sz)) 0 0 (va_A (MW A σ r) sz) := by
  unfold f_Mo_become at h
  refine ka_of (own := R_Mo) (fun A9 => ka_Ri D z.1 (MW A z.2 r) A9) (by decide) rfl (Nat.le_of_ble_eq_true rfl) ?_
  intro p e s m below meth c A9 ls S9 hr hlk hex X9 hP hD hl
  obtain ⟨hx, hb, hml, hown, hts⟩ := id S9
  have hK := X9.2.1
  have hS : va_S A9 s.heap s.heap [] := va_S.rf
  replace hl : lv_has ls 3 [(0, .ref (A 60)), (1, .int x1), (2, .int x2)] := hl
  refine lv_aload_n hx hb d_Mo_become_0 rfl (lv_at hl 0 rfl) ?_
  refine lv_iconst (v := 0) hx hb d_Mo_become_1 (by decide) ?_
  obtain ⟨u1, hu9, h⟩ := zo_l h
  refine va_put (D := D) (ci := 5) (v := .int 0) (ty := .int) (C := R_Mo) (T := T_Mo) (N := 3) hx hb hts wu_Mo ft_Mo fk_Mo nm_Mo hown hK hP hD hS 0 rfl rfl 2 (by decide) (hts _ wf_Mo_16) (fun _ h9 => h9) rfl (by decide +kernel) rfl rfl (Nat.le_of_ble_eq_true rfl) d_Mo_become_2 (fun H locs hP hD hS => ?_)
  replace hP : va_P D vwCl (MW A u1 r) H := by rw [hu9]; exact hP
  replace hD : va_D A9 (MW A u1 r) := by rw [hu9]; exact hD
  refine lv_aload_n hx hb d_Mo_become_5 rfl (lv_at hl 0 rfl) ?_
  refine lv_iload_n hx hb d_Mo_become_6 rfl (lv_at hl 2 rfl) ?_
  obtain ⟨v2, e9, h⟩ := zo_b h
  refine ka_i (va_runV (As := [.int x2]) (rest := []) S9 (c_Mo_isLabel l hl9 D A r _ u1 x2 _ e9) (cwV 1 hts (tg_V wl_Mo_54 wm_Mo_isLabel we_Mo_isLabel wi_Mo wo_Mo_isLabel) rfl rfl rfl wq_Mo_isLabel ⟨Nat.le_of_ble_eq_true rfl, Nat.le_of_ble_eq_true rfl⟩) (ka_preV X9 hP hD hS 0 rfl rfl) rfl rfl hl.1 rfl (lv_room (Nat.le_of_ble_eq_true rfl)) d_Mo_become_7 ⟨Nat.le_of_ble_eq_true rfl, Nat.le_of_ble_eq_true rfl⟩) X9 hD hS rfl (fun H locs hP hD hS => ?_)
  refine lv_if_ne (tgt := 19) hx hb d_Mo_become_10 (by decide) (fun c3 => ?_) (fun c3 => ?_)
  · replace h := zo_f c3 h
    refine lv_aload_n hx hb d_Mo_become_19 rfl (lv_at hl 0 rfl) ?_
    refine lv_iload_n hx hb d_Mo_become_20 rfl (lv_at hl 1 rfl) ?_
    obtain ⟨v4, e9, h⟩ := zo_b h
    refine ka_i (va_runV (As := [.int x1]) (rest := []) S9 (c_Mo_threadOnly l hl9 D A r _ u1 x1 _ e9) (cwV 1 hts (tg_V wl_Mo_60 wm_Mo_threadOnly we_Mo_threadOnly wi_Mo wo_Mo_threadOnly) rfl rfl rfl wq_Mo_threadOnly ⟨Nat.le_of_ble_eq_true rfl, Nat.le_of_ble_eq_true rfl⟩) (ka_preV X9 hP hD hS 0 rfl rfl) rfl rfl hl.1 rfl (lv_room (Nat.le_of_ble_eq_true rfl)) d_Mo_become_21 ⟨Nat.le_of_ble_eq_true rfl, Nat.le_of_ble_eq_true rfl⟩) X9 hD hS rfl (fun H locs hP hD hS => ?_)
    refine lv_if_ne (tgt := 29) hx hb d_Mo_become_24 (by decide) (fun c5 => ?_) (fun c5 => ?_)
    · replace h := zo_f c5 h
      refine lv_aload_n hx hb d_Mo_become_29 rfl (lv_at hl 0 rfl) ?_
      refine lv_aload_n hx hb d_Mo_become_30 rfl (lv_at hl 0 rfl) ?_
      refine lv_iload_n hx hb d_Mo_become_31 rfl (lv_at hl 1 rfl) ?_
      refine lv_iconst (v := 2) hx hb d_Mo_become_32 (by decide) ?_
      obtain ⟨v6, e9, h⟩ := zo_b h
      refine ka_i (va_runV (As := [.int x1, .int 2]) (rest := [.ref (A 60)]) S9 (c_Mo_at l hl9 D A r _ v4.2 x1 2 _ e9) (cwV 2 hts (tg_V wl_Mo_32 wm_Mo_at we_Mo_at wi_Mo wo_Mo_at) rfl rfl rfl wq_Mo_at ⟨Nat.le_of_ble_eq_true rfl, Nat.le_of_ble_eq_true rfl⟩) (ka_preV X9 hP hD hS 0 rfl rfl) rfl rfl hl.1 rfl (lv_room (Nat.le_of_ble_eq_true rfl)) d_Mo_become_33 ⟨Nat.le_of_ble_eq_true rfl, Nat.le_of_ble_eq_true rfl⟩) X9 hD hS rfl (fun H locs hP hD hS => ?_)
      refine lv_iload_n hx hb d_Mo_become_36 rfl (lv_at hl 2 rfl) ?_
      refine lv_iconst (v := 0) hx hb d_Mo_become_37 (by decide) ?_
      obtain ⟨v7, e9, h⟩ := zo_b h
      refine ka_i (va_runV (As := [.int v6, .int x2, .int 0]) (rest := []) S9 (c_Mo_under l hl9 D A r _ v4.2 v6 x2 0 _ e9) (cwV 3 hts (tg_V wl_Mo_35 wm_Mo_under we_Mo_under wi_Mo wo_Mo_under) rfl rfl rfl wq_Mo_under ⟨Nat.le_of_ble_eq_true rfl, Nat.le_of_ble_eq_true rfl⟩) (ka_preV X9 hP hD hS 0 rfl rfl) rfl rfl hl.1 rfl (lv_room (Nat.le_of_ble_eq_true rfl)) d_Mo_become_38 ⟨Nat.le_of_ble_eq_true rfl, Nat.le_of_ble_eq_true rfl⟩) X9 hD hS rfl (fun H locs hP hD hS => ?_)
      refine lv_if_eq (tgt := 69) hx hb d_Mo_become_41 (by decide) (fun c8 => ?_) (fun c8 => ?_)
      · replace h := zo_t c8 h
        refine lv_aload_n hx hb d_Mo_become_69 rfl (lv_at hl 0 rfl) ?_
        refine lv_iconst (v := 3) hx hb d_Mo_become_70 (by decide) ?_
        obtain ⟨v9, e9, h⟩ := zo_b h
        refine ka_i (va_runV (As := [.int 3]) (rest := []) S9 (c_Mo_fail l hl9 D A r _ v4.2 3 _ e9) (cwV 1 hts (tg_V wl_Mo_51 wm_Mo_fail we_Mo_fail wi_Mo wo_Mo_fail) rfl rfl rfl wq_Mo_fail ⟨Nat.le_of_ble_eq_true rfl, Nat.le_of_ble_eq_true rfl⟩) (ka_preV X9 hP hD hS 0 rfl rfl) rfl rfl hl.1 rfl (lv_room (Nat.le_of_ble_eq_true rfl)) d_Mo_become_71 ⟨Nat.le_of_ble_eq_true rfl, Nat.le_of_ble_eq_true rfl⟩) X9 hD hS rfl (fun H locs hP hD hS => ?_)
        cases h
        exact W.iret hx hb hr (fun t ht hW => ⟨⟨_, (), rfl, rfl, ka_at ht hP⟩, hS.F ht⟩) hS.2.2 d_Mo_become_74 hlk
      replace h := zo_f c8 h
      refine lv_aload_n hx hb d_Mo_become_44 rfl (lv_at hl 0 rfl) ?_
      refine lv_iload_n hx hb d_Mo_become_45 rfl (lv_at hl 2 rfl) ?_
      refine lv_aload_n hx hb d_Mo_become_46 rfl (lv_at hl 0 rfl) ?_
      refine lv_iload_n hx hb d_Mo_become_47 rfl (lv_at hl 1 rfl) ?_
      refine lv_bipush (v := 6) hx hb d_Mo_become_48 (by decide) ?_
      obtain ⟨v10, e9, h⟩ := zo_b h
      refine ka_i (va_runV (As := [.int x1, .int 6]) (rest := [.int x2, .ref (A 60)]) S9 (c_Mo_at l hl9 D A r _ v4.2 x1 6 _ e9) (cwV 2 hts (tg_V wl_Mo_32 wm_Mo_at we_Mo_at wi_Mo wo_Mo_at) rfl rfl rfl wq_Mo_at ⟨Nat.le_of_ble_eq_true rfl, Nat.le_of_ble_eq_true rfl⟩) (ka_preV X9 hP hD hS 0 rfl rfl) rfl rfl hl.1 rfl (lv_room (Nat.le_of_ble_eq_true rfl)) d_Mo_become_50 ⟨Nat.le_of_ble_eq_true rfl, Nat.le_of_ble_eq_true rfl⟩) X9 hD hS rfl (fun H locs hP hD hS => ?_)
      refine lv_iconst (v := 0) hx hb d_Mo_become_53 (by decide) ?_
      obtain ⟨v11, e9, h⟩ := zo_b h
      refine ka_i (va_runV (As := [.int x2, .int v10, .int 0]) (rest := []) S9 (c_Mo_under l hl9 D A r _ v4.2 x2 v10 0 _ e9) (cwV 3 hts (tg_V wl_Mo_35 wm_Mo_under we_Mo_under wi_Mo wo_Mo_under) rfl rfl rfl wq_Mo_under ⟨Nat.le_of_ble_eq_true rfl, Nat.le_of_ble_eq_true rfl⟩) (ka_preV X9 hP hD hS 0 rfl rfl) rfl rfl hl.1 rfl (lv_room (Nat.le_of_ble_eq_true rfl)) d_Mo_become_54 ⟨Nat.le_of_ble_eq_true rfl, Nat.le_of_ble_eq_true rfl⟩) X9 hD hS rfl (fun H locs hP hD hS => ?_)
      refine lv_if_eq (tgt := 69) hx hb d_Mo_become_57 (by decide) (fun c12 => ?_) (fun c12 => ?_)
      · replace h := zo_t c12 h
        refine lv_aload_n hx hb d_Mo_become_69 rfl (lv_at hl 0 rfl) ?_
        refine lv_iconst (v := 3) hx hb d_Mo_become_70 (by decide) ?_
        obtain ⟨v13, e9, h⟩ := zo_b h
        refine ka_i (va_runV (As := [.int 3]) (rest := []) S9 (c_Mo_fail l hl9 D A r _ v4.2 3 _ e9) (cwV 1 hts (tg_V wl_Mo_51 wm_Mo_fail we_Mo_fail wi_Mo wo_Mo_fail) rfl rfl rfl wq_Mo_fail ⟨Nat.le_of_ble_eq_true rfl, Nat.le_of_ble_eq_true rfl⟩) (ka_preV X9 hP hD hS 0 rfl rfl) rfl rfl hl.1 rfl (lv_room (Nat.le_of_ble_eq_true rfl)) d_Mo_become_71 ⟨Nat.le_of_ble_eq_true rfl, Nat.le_of_ble_eq_true rfl⟩) X9 hD hS rfl (fun H locs hP hD hS => ?_)
        cases h
        exact W.iret hx hb hr (fun t ht hW => ⟨⟨_, (), rfl, rfl, ka_at ht hP⟩, hS.F ht⟩) hS.2.2 d_Mo_become_74 hlk
      replace h := zo_f c12 h
      refine lv_aload_n hx hb d_Mo_become_60 rfl (lv_at hl 0 rfl) ?_
      refine lv_iload_n hx hb d_Mo_become_61 rfl (lv_at hl 2 rfl) ?_
      refine lv_iload_n hx hb d_Mo_become_62 rfl (lv_at hl 1 rfl) ?_
      obtain ⟨v14, e9, h⟩ := zo_b h
      refine ka_i (va_runV (As := [.int x2, .int x1]) (rest := []) S9 (c_Mo_starsOf l hl9 D A r _ v4.2 x2 x1 _ e9) (cwV 2 hts (tg_V wl_Mo_72 wm_Mo_starsOf we_Mo_starsOf wi_Mo wo_Mo_starsOf) rfl rfl rfl wq_Mo_starsOf ⟨Nat.le_of_ble_eq_true rfl, Nat.le_of_ble_eq_true rfl⟩) (ka_preV X9 hP hD hS 0 rfl rfl) rfl rfl hl.1 rfl (lv_room (Nat.le_of_ble_eq_true rfl)) d_Mo_become_63 ⟨Nat.le_of_ble_eq_true rfl, Nat.le_of_ble_eq_true rfl⟩) X9 hD hS rfl (fun H locs hP hD hS => ?_)
      refine lv_if_ne (tgt := 75) hx hb d_Mo_become_66 (by decide) (fun c15 => ?_) (fun c15 => ?_)
      · replace h := zo_f c15 h
        refine lv_aload_n hx hb d_Mo_become_75 rfl (lv_at hl 0 rfl) ?_
        refine va_get (D := D) (ci := 5) (v := .ref (A 61)) (C := R_Mo) (T := T_Mo) (N := 3) hx hb hts wu_Mo hown hK hP 0 rfl rfl 0 (by decide) (hts _ wf_Mo_7) (fun _ h9 => h9) rfl d_Mo_become_76 ?_
        refine lv_bipush (v := 17) hx hb d_Mo_become_79 (by decide) ?_
        refine lv_iload_n hx hb d_Mo_become_81 rfl (lv_at hl 1 rfl) ?_
        refine lv_imul hx hb d_Mo_become_82 ?_
        refine lv_iconst (v := 2) hx hb d_Mo_become_83 (by decide) ?_
        refine lv_iadd hx hb d_Mo_become_84 ?_
        refine lv_iload_n hx hb d_Mo_become_85 rfl (lv_at hl 2 rfl) ?_
        obtain ⟨i9, h⟩ := zo_i h
        obtain ⟨u16, hu9, h⟩ := zo_l h
        refine va_iast hx hb hK hP hD hS 1 0 rfl rfl i9 d_Mo_become_86 (fun H locs hP hD hS => ?_)
        replace hP : va_P D vwCl (MW A u16 r) H := by rw [hu9]; exact hP
        replace hD : va_D A9 (MW A u16 r) := by rw [hu9]; exact hD
        refine lv_iconst (v := 0) hx hb d_Mo_become_87 (by decide) ?_
        cases h
        exact W.iret hx hb hr (fun t ht hW => ⟨⟨_, (), rfl, rfl, ka_at ht hP⟩, hS.F ht⟩) hS.2.2 d_Mo_become_88 hlk
      replace h := zo_t c15 h
      refine lv_aload_n hx hb d_Mo_become_69 rfl (lv_at hl 0 rfl) ?_
      refine lv_iconst (v := 3) hx hb d_Mo_become_70 (by decide) ?_
      obtain ⟨v17, e9, h⟩ := zo_b h
      refine ka_i (va_runV (As := [.int 3]) (rest := []) S9 (c_Mo_fail l hl9 D A r _ v4.2 3 _ e9) (cwV 1 hts (tg_V wl_Mo_51 wm_Mo_fail we_Mo_fail wi_Mo wo_Mo_fail) rfl rfl rfl wq_Mo_fail ⟨Nat.le_of_ble_eq_true rfl, Nat.le_of_ble_eq_true rfl⟩) (ka_preV X9 hP hD hS 0 rfl rfl) rfl rfl hl.1 rfl (lv_room (Nat.le_of_ble_eq_true rfl)) d_Mo_become_71 ⟨Nat.le_of_ble_eq_true rfl, Nat.le_of_ble_eq_true rfl⟩) X9 hD hS rfl (fun H locs hP hD hS => ?_)
      cases h
      exact W.iret hx hb hr (fun t ht hW => ⟨⟨_, (), rfl, rfl, ka_at ht hP⟩, hS.F ht⟩) hS.2.2 d_Mo_become_74 hlk
    replace h := zo_t c5 h
    refine lv_iconst (v := 0) hx hb d_Mo_become_27 (by decide) ?_
    cases h
    exact W.iret hx hb hr (fun t ht hW => ⟨⟨_, (), rfl, rfl, ka_at ht hP⟩, hS.F ht⟩) hS.2.2 d_Mo_become_28 hlk
  replace h := zo_t c3 h
  refine lv_aload_n hx hb d_Mo_become_13 rfl (lv_at hl 0 rfl) ?_
  refine lv_iconst (v := 1) hx hb d_Mo_become_14 (by decide) ?_
  obtain ⟨v18, e9, h⟩ := zo_b h
  refine ka_i (va_runV (As := [.int 1]) (rest := []) S9 (c_Mo_fail l hl9 D A r _ u1 1 _ e9) (cwV 1 hts (tg_V wl_Mo_51 wm_Mo_fail we_Mo_fail wi_Mo wo_Mo_fail) rfl rfl rfl wq_Mo_fail ⟨Nat.le_of_ble_eq_true rfl, Nat.le_of_ble_eq_true rfl⟩) (ka_preV X9 hP hD hS 0 rfl rfl) rfl rfl hl.1 rfl (lv_room (Nat.le_of_ble_eq_true rfl)) d_Mo_become_15 ⟨Nat.le_of_ble_eq_true rfl, Nat.le_of_ble_eq_true rfl⟩) X9 hD hS rfl (fun H locs hP hD hS => ?_)
  cases h
  exact W.iret hx hb hr (fun t ht hW => ⟨⟨_, (), rfl, rfl, ka_at ht hP⟩, hS.F ht⟩) hS.2.2 d_Mo_become_18 hlk
def f_Mo_lower (σ : RS) (x1 x2 : Int32) : Option (Int32 × RS) := zl (sM_code σ 0) fun u1 => (f_Mo_isLabel u1 x2).bind fun v2 => if v2 = 0 then ((f_Mo_fail u1 1).bind fun v4 => some (v4.1, v4.2)) else ((f_Mo_starless u1 x2).bind fun v5 => if v5 = 0 then ((f_Mo_fail u1 1).bind fun v18 => some (v18.1, v18.2)) else ((f_Mo_threadOnly u1 x1).bind fun v7 => if v7.1 = 0 then (some (0, v7.2)) else ((f_Mo_at v7.2 x1 6).bind fun v9 => (f_Mo_under v7.2 x2 v9 0).bind fun v10 => if v10 = 0 then ((f_Mo_fail v7.2 3).bind fun v12 => some (v12.1, v12.2)) else ((f_Mo_at v7.2 x1 2).bind fun v13 => (f_Mo_under v7.2 v13 x2 0).bind fun v14 => if v14 = 0 then ((f_Mo_fail v7.2 3).bind fun v17 => some (v17.1, v17.2)) else (if ((17 * x1) + 6) < 0 ∨ 1552 ≤ ((17 * x1) + 6).toNatClampNeg then none else zl (sM_row v7.2 (upd (gM_row v7.2) ((17 * x1) + 6).toNatClampNeg x2)) fun u16 => some (0, u16))))))
set_option maxRecDepth 100000 in
set_option maxHeartbeats 4000000 in
theorem c_Mo_lower (l : Launch) (hl9 : l.stackTraces = false) (D : va_G) (A : Nat → Nat) (r : va_W) (sz : Nat) (σ : RS) (x1 x2 : Int32) (z : Int32 × RS) (h : f_Mo_lower σ x1 x2 = some z) : Met l y_Mo_lower (Cond.code y_Mo_lower b_Mo_lower 3 (some .int) :: T0) ({ frames := 3, cells := 0, slots := 0, locals := 64 } : Room) (va_Pc [.ref (A 60), .int x1, .int x2] (ka_Wd D A (MW A σ r) sz)) (ka_Ri D z.1 (MW A z.2 r) (va_A (MW A σ r) sz)) 0 0 (va_A (MW A σ r) sz) := by
  unfold f_Mo_lower at h
  refine ka_of (own := R_Mo) (fun A9 => ka_Ri D z.1 (MW A z.2 r) A9) (by decide) rfl (Nat.le_of_ble_eq_true rfl) ?_
  intro p e s m below meth c A9 ls S9 hr hlk hex X9 hP hD hl
  obtain ⟨hx, hb, hml, hown, hts⟩ := id S9
  have hK := X9.2.1
  have hS : va_S A9 s.heap s.heap [] := va_S.rf
  replace hl : lv_has ls 3 [(0, .ref (A 60)), (1, .int x1), (2, .int x2)] := hl
  refine lv_aload_n hx hb d_Mo_lower_0 rfl (lv_at hl 0 rfl) ?_
  refine lv_iconst (v := 0) hx hb d_Mo_lower_1 (by decide) ?_
  obtain ⟨u1, hu9, h⟩ := zo_l h
  refine va_put (D := D) (ci := 5) (v := .int 0) (ty := .int) (C := R_Mo) (T := T_Mo) (N := 3) hx hb hts wu_Mo ft_Mo fk_Mo nm_Mo hown hK hP hD hS 0 rfl rfl 2 (by decide) (hts _ wf_Mo_16) (fun _ h9 => h9) rfl (by decide +kernel) rfl rfl (Nat.le_of_ble_eq_true rfl) d_Mo_lower_2 (fun H locs hP hD hS => ?_)
  replace hP : va_P D vwCl (MW A u1 r) H := by rw [hu9]; exact hP
  replace hD : va_D A9 (MW A u1 r) := by rw [hu9]; exact hD
  refine lv_aload_n hx hb d_Mo_lower_5 rfl (lv_at hl 0 rfl) ?_
  refine lv_iload_n hx hb d_Mo_lower_6 rfl (lv_at hl 2 rfl) ?_
  obtain ⟨v2, e9, h⟩ := zo_b h
  refine ka_i (va_runV (As := [.int x2]) (rest := []) S9 (c_Mo_isLabel l hl9 D A r _ u1 x2 _ e9) (cwV 1 hts (tg_V wl_Mo_54 wm_Mo_isLabel we_Mo_isLabel wi_Mo wo_Mo_isLabel) rfl rfl rfl wq_Mo_isLabel ⟨Nat.le_of_ble_eq_true rfl, Nat.le_of_ble_eq_true rfl⟩) (ka_preV X9 hP hD hS 0 rfl rfl) rfl rfl hl.1 rfl (lv_room (Nat.le_of_ble_eq_true rfl)) d_Mo_lower_7 ⟨Nat.le_of_ble_eq_true rfl, Nat.le_of_ble_eq_true rfl⟩) X9 hD hS rfl (fun H locs hP hD hS => ?_)
  refine lv_if_eq (tgt := 21) hx hb d_Mo_lower_10 (by decide) (fun c3 => ?_) (fun c3 => ?_)
  · replace h := zo_t c3 h
    refine lv_aload_n hx hb d_Mo_lower_21 rfl (lv_at hl 0 rfl) ?_
    refine lv_iconst (v := 1) hx hb d_Mo_lower_22 (by decide) ?_
    obtain ⟨v4, e9, h⟩ := zo_b h
    refine ka_i (va_runV (As := [.int 1]) (rest := []) S9 (c_Mo_fail l hl9 D A r _ u1 1 _ e9) (cwV 1 hts (tg_V wl_Mo_51 wm_Mo_fail we_Mo_fail wi_Mo wo_Mo_fail) rfl rfl rfl wq_Mo_fail ⟨Nat.le_of_ble_eq_true rfl, Nat.le_of_ble_eq_true rfl⟩) (ka_preV X9 hP hD hS 0 rfl rfl) rfl rfl hl.1 rfl (lv_room (Nat.le_of_ble_eq_true rfl)) d_Mo_lower_23 ⟨Nat.le_of_ble_eq_true rfl, Nat.le_of_ble_eq_true rfl⟩) X9 hD hS rfl (fun H locs hP hD hS => ?_)
    cases h
    exact W.iret hx hb hr (fun t ht hW => ⟨⟨_, (), rfl, rfl, ka_at ht hP⟩, hS.F ht⟩) hS.2.2 d_Mo_lower_26 hlk
  replace h := zo_f c3 h
  refine lv_aload_n hx hb d_Mo_lower_13 rfl (lv_at hl 0 rfl) ?_
  refine lv_iload_n hx hb d_Mo_lower_14 rfl (lv_at hl 2 rfl) ?_
  obtain ⟨v5, e9, h⟩ := zo_b h
  refine ka_i (va_runV (As := [.int x2]) (rest := []) S9 (c_Mo_starless l hl9 D A r _ u1 x2 _ e9) (cwV 1 hts (tg_V wl_Mo_81 wm_Mo_starless we_Mo_starless wi_Mo wo_Mo_starless) rfl rfl rfl wq_Mo_starless ⟨Nat.le_of_ble_eq_true rfl, Nat.le_of_ble_eq_true rfl⟩) (ka_preV X9 hP hD hS 0 rfl rfl) rfl rfl hl.1 rfl (lv_room (Nat.le_of_ble_eq_true rfl)) d_Mo_lower_15 ⟨Nat.le_of_ble_eq_true rfl, Nat.le_of_ble_eq_true rfl⟩) X9 hD hS rfl (fun H locs hP hD hS => ?_)
  refine lv_if_ne (tgt := 27) hx hb d_Mo_lower_18 (by decide) (fun c6 => ?_) (fun c6 => ?_)
  · replace h := zo_f c6 h
    refine lv_aload_n hx hb d_Mo_lower_27 rfl (lv_at hl 0 rfl) ?_
    refine lv_iload_n hx hb d_Mo_lower_28 rfl (lv_at hl 1 rfl) ?_
    obtain ⟨v7, e9, h⟩ := zo_b h
    refine ka_i (va_runV (As := [.int x1]) (rest := []) S9 (c_Mo_threadOnly l hl9 D A r _ u1 x1 _ e9) (cwV 1 hts (tg_V wl_Mo_60 wm_Mo_threadOnly we_Mo_threadOnly wi_Mo wo_Mo_threadOnly) rfl rfl rfl wq_Mo_threadOnly ⟨Nat.le_of_ble_eq_true rfl, Nat.le_of_ble_eq_true rfl⟩) (ka_preV X9 hP hD hS 0 rfl rfl) rfl rfl hl.1 rfl (lv_room (Nat.le_of_ble_eq_true rfl)) d_Mo_lower_29 ⟨Nat.le_of_ble_eq_true rfl, Nat.le_of_ble_eq_true rfl⟩) X9 hD hS rfl (fun H locs hP hD hS => ?_)
    refine lv_if_ne (tgt := 37) hx hb d_Mo_lower_32 (by decide) (fun c8 => ?_) (fun c8 => ?_)
    · replace h := zo_f c8 h
      refine lv_aload_n hx hb d_Mo_lower_37 rfl (lv_at hl 0 rfl) ?_
      refine lv_iload_n hx hb d_Mo_lower_38 rfl (lv_at hl 2 rfl) ?_
      refine lv_aload_n hx hb d_Mo_lower_39 rfl (lv_at hl 0 rfl) ?_
      refine lv_iload_n hx hb d_Mo_lower_40 rfl (lv_at hl 1 rfl) ?_
      refine lv_bipush (v := 6) hx hb d_Mo_lower_41 (by decide) ?_
      obtain ⟨v9, e9, h⟩ := zo_b h
      refine ka_i (va_runV (As := [.int x1, .int 6]) (rest := [.int x2, .ref (A 60)]) S9 (c_Mo_at l hl9 D A r _ v7.2 x1 6 _ e9) (cwV 2 hts (tg_V wl_Mo_32 wm_Mo_at we_Mo_at wi_Mo wo_Mo_at) rfl rfl rfl wq_Mo_at ⟨Nat.le_of_ble_eq_true rfl, Nat.le_of_ble_eq_true rfl⟩) (ka_preV X9 hP hD hS 0 rfl rfl) rfl rfl hl.1 rfl (lv_room (Nat.le_of_ble_eq_true rfl)) d_Mo_lower_43 ⟨Nat.le_of_ble_eq_true rfl, Nat.le_of_ble_eq_true rfl⟩) X9 hD hS rfl (fun H locs hP hD hS => ?_)
      refine lv_iconst (v := 0) hx hb d_Mo_lower_46 (by decide) ?_
      obtain ⟨v10, e9, h⟩ := zo_b h
      refine ka_i (va_runV (As := [.int x2, .int v9, .int 0]) (rest := []) S9 (c_Mo_under l hl9 D A r _ v7.2 x2 v9 0 _ e9) (cwV 3 hts (tg_V wl_Mo_35 wm_Mo_under we_Mo_under wi_Mo wo_Mo_under) rfl rfl rfl wq_Mo_under ⟨Nat.le_of_ble_eq_true rfl, Nat.le_of_ble_eq_true rfl⟩) (ka_preV X9 hP hD hS 0 rfl rfl) rfl rfl hl.1 rfl (lv_room (Nat.le_of_ble_eq_true rfl)) d_Mo_lower_47 ⟨Nat.le_of_ble_eq_true rfl, Nat.le_of_ble_eq_true rfl⟩) X9 hD hS rfl (fun H locs hP hD hS => ?_)
      refine lv_if_eq (tgt := 68) hx hb d_Mo_lower_50 (by decide) (fun c11 => ?_) (fun c11 => ?_)
      · replace h := zo_t c11 h
        refine lv_aload_n hx hb d_Mo_lower_68 rfl (lv_at hl 0 rfl) ?_
        refine lv_iconst (v := 3) hx hb d_Mo_lower_69 (by decide) ?_
        obtain ⟨v12, e9, h⟩ := zo_b h
        refine ka_i (va_runV (As := [.int 3]) (rest := []) S9 (c_Mo_fail l hl9 D A r _ v7.2 3 _ e9) (cwV 1 hts (tg_V wl_Mo_51 wm_Mo_fail we_Mo_fail wi_Mo wo_Mo_fail) rfl rfl rfl wq_Mo_fail ⟨Nat.le_of_ble_eq_true rfl, Nat.le_of_ble_eq_true rfl⟩) (ka_preV X9 hP hD hS 0 rfl rfl) rfl rfl hl.1 rfl (lv_room (Nat.le_of_ble_eq_true rfl)) d_Mo_lower_70 ⟨Nat.le_of_ble_eq_true rfl, Nat.le_of_ble_eq_true rfl⟩) X9 hD hS rfl (fun H locs hP hD hS => ?_)
        cases h
        exact W.iret hx hb hr (fun t ht hW => ⟨⟨_, (), rfl, rfl, ka_at ht hP⟩, hS.F ht⟩) hS.2.2 d_Mo_lower_73 hlk
      replace h := zo_f c11 h
      refine lv_aload_n hx hb d_Mo_lower_53 rfl (lv_at hl 0 rfl) ?_
      refine lv_aload_n hx hb d_Mo_lower_54 rfl (lv_at hl 0 rfl) ?_
      refine lv_iload_n hx hb d_Mo_lower_55 rfl (lv_at hl 1 rfl) ?_
      refine lv_iconst (v := 2) hx hb d_Mo_lower_56 (by decide) ?_
      obtain ⟨v13, e9, h⟩ := zo_b h
      refine ka_i (va_runV (As := [.int x1, .int 2]) (rest := [.ref (A 60)]) S9 (c_Mo_at l hl9 D A r _ v7.2 x1 2 _ e9) (cwV 2 hts (tg_V wl_Mo_32 wm_Mo_at we_Mo_at wi_Mo wo_Mo_at) rfl rfl rfl wq_Mo_at ⟨Nat.le_of_ble_eq_true rfl, Nat.le_of_ble_eq_true rfl⟩) (ka_preV X9 hP hD hS 0 rfl rfl) rfl rfl hl.1 rfl (lv_room (Nat.le_of_ble_eq_true rfl)) d_Mo_lower_57 ⟨Nat.le_of_ble_eq_true rfl, Nat.le_of_ble_eq_true rfl⟩) X9 hD hS rfl (fun H locs hP hD hS => ?_)
      refine lv_iload_n hx hb d_Mo_lower_60 rfl (lv_at hl 2 rfl) ?_
      refine lv_iconst (v := 0) hx hb d_Mo_lower_61 (by decide) ?_
      obtain ⟨v14, e9, h⟩ := zo_b h
      refine ka_i (va_runV (As := [.int v13, .int x2, .int 0]) (rest := []) S9 (c_Mo_under l hl9 D A r _ v7.2 v13 x2 0 _ e9) (cwV 3 hts (tg_V wl_Mo_35 wm_Mo_under we_Mo_under wi_Mo wo_Mo_under) rfl rfl rfl wq_Mo_under ⟨Nat.le_of_ble_eq_true rfl, Nat.le_of_ble_eq_true rfl⟩) (ka_preV X9 hP hD hS 0 rfl rfl) rfl rfl hl.1 rfl (lv_room (Nat.le_of_ble_eq_true rfl)) d_Mo_lower_62 ⟨Nat.le_of_ble_eq_true rfl, Nat.le_of_ble_eq_true rfl⟩) X9 hD hS rfl (fun H locs hP hD hS => ?_)
      refine lv_if_ne (tgt := 74) hx hb d_Mo_lower_65 (by decide) (fun c15 => ?_) (fun c15 => ?_)
      · replace h := zo_f c15 h
        refine lv_aload_n hx hb d_Mo_lower_74 rfl (lv_at hl 0 rfl) ?_
        refine va_get (D := D) (ci := 5) (v := .ref (A 61)) (C := R_Mo) (T := T_Mo) (N := 3) hx hb hts wu_Mo hown hK hP 0 rfl rfl 0 (by decide) (hts _ wf_Mo_7) (fun _ h9 => h9) rfl d_Mo_lower_75 ?_
        refine lv_bipush (v := 17) hx hb d_Mo_lower_78 (by decide) ?_
        refine lv_iload_n hx hb d_Mo_lower_80 rfl (lv_at hl 1 rfl) ?_
        refine lv_imul hx hb d_Mo_lower_81 ?_
        refine lv_bipush (v := 6) hx hb d_Mo_lower_82 (by decide) ?_
        refine lv_iadd hx hb d_Mo_lower_84 ?_
        refine lv_iload_n hx hb d_Mo_lower_85 rfl (lv_at hl 2 rfl) ?_
        obtain ⟨i9, h⟩ := zo_i h
        obtain ⟨u16, hu9, h⟩ := zo_l h
        refine va_iast hx hb hK hP hD hS 1 0 rfl rfl i9 d_Mo_lower_86 (fun H locs hP hD hS => ?_)
        replace hP : va_P D vwCl (MW A u16 r) H := by rw [hu9]; exact hP
        replace hD : va_D A9 (MW A u16 r) := by rw [hu9]; exact hD
        refine lv_iconst (v := 0) hx hb d_Mo_lower_87 (by decide) ?_
        cases h
        exact W.iret hx hb hr (fun t ht hW => ⟨⟨_, (), rfl, rfl, ka_at ht hP⟩, hS.F ht⟩) hS.2.2 d_Mo_lower_88 hlk
      replace h := zo_t c15 h
      refine lv_aload_n hx hb d_Mo_lower_68 rfl (lv_at hl 0 rfl) ?_
      refine lv_iconst (v := 3) hx hb d_Mo_lower_69 (by decide) ?_
      obtain ⟨v17, e9, h⟩ := zo_b h
      refine ka_i (va_runV (As := [.int 3]) (rest := []) S9 (c_Mo_fail l hl9 D A r _ v7.2 3 _ e9) (cwV 1 hts (tg_V wl_Mo_51 wm_Mo_fail we_Mo_fail wi_Mo wo_Mo_fail) rfl rfl rfl wq_Mo_fail ⟨Nat.le_of_ble_eq_true rfl, Nat.le_of_ble_eq_true rfl⟩) (ka_preV X9 hP hD hS 0 rfl rfl) rfl rfl hl.1 rfl (lv_room (Nat.le_of_ble_eq_true rfl)) d_Mo_lower_70 ⟨Nat.le_of_ble_eq_true rfl, Nat.le_of_ble_eq_true rfl⟩) X9 hD hS rfl (fun H locs hP hD hS => ?_)
      cases h
      exact W.iret hx hb hr (fun t ht hW => ⟨⟨_, (), rfl, rfl, ka_at ht hP⟩, hS.F ht⟩) hS.2.2 d_Mo_lower_73 hlk
    replace h := zo_t c8 h
    refine lv_iconst (v := 0) hx hb d_Mo_lower_35 (by decide) ?_
    cases h
    exact W.iret hx hb hr (fun t ht hW => ⟨⟨_, (), rfl, rfl, ka_at ht hP⟩, hS.F ht⟩) hS.2.2 d_Mo_lower_36 hlk
  replace h := zo_t c6 h
  refine lv_aload_n hx hb d_Mo_lower_21 rfl (lv_at hl 0 rfl) ?_
  refine lv_iconst (v := 1) hx hb d_Mo_lower_22 (by decide) ?_
  obtain ⟨v18, e9, h⟩ := zo_b h
  refine ka_i (va_runV (As := [.int 1]) (rest := []) S9 (c_Mo_fail l hl9 D A r _ u1 1 _ e9) (cwV 1 hts (tg_V wl_Mo_51 wm_Mo_fail we_Mo_fail wi_Mo wo_Mo_fail) rfl rfl rfl wq_Mo_fail ⟨Nat.le_of_ble_eq_true rfl, Nat.le_of_ble_eq_true rfl⟩) (ka_preV X9 hP hD hS 0 rfl rfl) rfl rfl hl.1 rfl (lv_room (Nat.le_of_ble_eq_true rfl)) d_Mo_lower_23 ⟨Nat.le_of_ble_eq_true rfl, Nat.le_of_ble_eq_true rfl⟩) X9 hD hS rfl (fun H locs hP hD hS => ?_)
  cases h
  exact W.iret hx hb hr (fun t ht hW => ⟨⟨_, (), rfl, rfl, ka_at ht hP⟩, hS.F ht⟩) hS.2.2 d_Mo_lower_26 hlk
