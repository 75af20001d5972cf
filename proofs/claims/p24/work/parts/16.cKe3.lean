def f_Ke_enter (σ : KS) (x1 x2 x3 x4 x5 : Int32) : Option (Except Nat Int32 × KS) := (f_Lb_has σ x4).bind fun v1 => if v1 = 0 then (some (.error 1, σ)) else ((f_Lb_isStarless σ x5).bind fun v3 => if v3 = 0 then (some (.error 1, σ)) else (zx (f_Ke_needThere σ x1 x2 x3) fun _ u6 => (f_Tg_isOfKind u6 x1 3).bind fun v7 => if v7 = 0 then (some (.error 1, u6)) else ((f_Tg_isOfKind u6 x2 0).bind fun v9 => if v9 = 0 then (some (.error 1, u6)) else ((f_Tg_isOfKind u6 x3 2).bind fun v11 => if v11 = 0 then (some (.error 1, u6)) else ((f_Tg_isIn u6 x3 x2).bind fun v13 => if v13 = 0 then some (.error 2, u6) else (f_Ke_maySee u6 x1 x2).bind fun v14 => if v14 = 0 then (some (.error 3, u6)) else ((f_Tg_labelOf u6 x1).bind fun v16 => (f_Tg_guardOf u6 x3).bind fun v17 => (f_Lb_fitsUnder u6 v16 v17).bind fun v18 => if v18 = 0 then (some (.error 3, u6)) else ((f_Tg_labelOf u6 x1).bind fun v20 => (f_Tg_labelOf u6 x3).bind fun v21 => (f_Lb_isJoinOf u6 x4 v20 v21).bind fun v22 => if v22 = 0 then some (.error 3, u6) else (f_Lb_fitsUnder u6 x4 x5).bind fun v23 => if v23 = 0 then some (.error 3, u6) else (f_Tg_clearanceOf u6 x1).bind fun v24 => (f_Tg_clearanceOf u6 x3).bind fun v25 => (f_Lb_isNowhereAboveBoth u6 x5 v24 v25).bind fun v26 => if v26 = 0 then some (.error 3, u6) else (f_Tg_setLabel u6 x1 x4).bind fun v27 => (f_Tg_setClearance v27 x1 x5).bind fun v28 => (f_Tg_entryOf v28 x3).bind fun v29 => some (.ok v29, v28))))))))
set_option maxRecDepth 100000 in
set_option maxHeartbeats 4000000 in
theorem c_Ke_enter_ok (l : Launch) (hl9 : l.stackTraces = false) (D : va_G) (A : Nat → Nat) (r : va_W) (sz : Nat) (σ : KS) (x1 x2 x3 x4 x5 : Int32) (z9 : Int32) (z : KS) (h : f_Ke_enter σ x1 x2 x3 x4 x5 = some (.ok z9, z)) : Met l y_Ke_enter (Cond.code y_Ke_enter b_Ke_enter 6 (some .int) :: T0) ({ frames := 3, cells := 0, slots := 0, locals := 73 } : Room) (va_Pc [.ref (A 0), .int x1, .int x2, .int x3, .int x4, .int x5] (ka_Wd D A (GW A σ r) sz)) (ka_Ri D z9 (GW A z r) (va_A (GW A σ r) sz)) 0 0 (va_A (GW A σ r) sz) := by
  unfold f_Ke_enter at h
  refine ka_of (own := R_Ke) (fun A9 => ka_Ri D z9 (GW A z r) A9) (by decide) rfl (Nat.le_of_ble_eq_true rfl) ?_
  intro p e s m below meth c A9 ls S9 hr hlk hex X9 hP hD hl
  obtain ⟨hx, hb, hml, hown, hts⟩ := id S9
  have hK := X9.2.1
  have hS : va_S A9 s.heap s.heap [] := va_S.rf
  replace hl : lv_has ls 6 [(0, .ref (A 0)), (1, .int x1), (2, .int x2), (3, .int x3), (4, .int x4), (5, .int x5)] := hl
  refine lv_aload_n hx hb d_Ke_enter_0 rfl (lv_at hl 0 rfl) ?_
  refine va_get (D := D) (ci := 4) (v := .ref (A 2)) (C := R_Ke) (T := T_Ke) (N := 5) hx hb hts wu_Ke hown hK hP 0 rfl rfl 2 (by decide) (hts _ wf_Ke_23) (fun _ h9 => h9) rfl d_Ke_enter_1 ?_
  refine lv_iload hx hb d_Ke_enter_4 (lv_at hl 4 rfl) ?_
  obtain ⟨v1, e9, h⟩ := zo_b h
  refine ka_i (va_runV (As := [.int x4]) (rest := []) S9 (c_Lb_has l hl9 D A r _ σ x4 _ e9) (cwV 1 hts (tg_V wl_Ke_34 wm_Lb_has we_Lb_has wi_Lb wo_Lb_has) rfl rfl rfl wq_Lb_has ⟨Nat.le_of_ble_eq_true rfl, Nat.le_of_ble_eq_true rfl⟩) (ka_preV X9 hP hD hS 2 rfl rfl) rfl rfl hl.1 rfl (lv_room (Nat.le_of_ble_eq_true rfl)) d_Ke_enter_6 ⟨Nat.le_of_ble_eq_true rfl, Nat.le_of_ble_eq_true rfl⟩) X9 hD hS rfl (fun H locs hP hD hS => ?_)
  refine lv_if_eq (tgt := 28) hx hb d_Ke_enter_9 (by decide) (fun c2 => ?_) (fun c2 => ?_)
  · replace h := zo_t c2 h
    refine lv_iconst (v := 0) hx hb d_Ke_enter_28 (by decide) ?_
    cases h
  replace h := zo_f c2 h
  refine lv_aload_n hx hb d_Ke_enter_12 rfl (lv_at hl 0 rfl) ?_
  refine va_get (D := D) (ci := 4) (v := .ref (A 2)) (C := R_Ke) (T := T_Ke) (N := 5) hx hb hts wu_Ke hown hK hP 0 rfl rfl 2 (by decide) (hts _ wf_Ke_23) (fun _ h9 => h9) rfl d_Ke_enter_13 ?_
  refine lv_iload hx hb d_Ke_enter_16 (lv_at hl 5 rfl) ?_
  obtain ⟨v3, e9, h⟩ := zo_b h
  refine ka_i (va_runV (As := [.int x5]) (rest := []) S9 (c_Lb_isStarless l hl9 D A r _ σ x5 _ e9) (cwV 1 hts (tg_V wl_Ke_100 wm_Lb_isStarless we_Lb_isStarless wi_Lb wo_Lb_isStarless) rfl rfl rfl wq_Lb_isStarless ⟨Nat.le_of_ble_eq_true rfl, Nat.le_of_ble_eq_true rfl⟩) (ka_preV X9 hP hD hS 2 rfl rfl) rfl rfl hl.1 rfl (lv_room (Nat.le_of_ble_eq_true rfl)) d_Ke_enter_18 ⟨Nat.le_of_ble_eq_true rfl, Nat.le_of_ble_eq_true rfl⟩) X9 hD hS rfl (fun H locs hP hD hS => ?_)
  refine lv_if_eq (tgt := 28) hx hb d_Ke_enter_21 (by decide) (fun c4 => ?_) (fun c4 => ?_)
  · replace h := zo_t c4 h
    refine lv_iconst (v := 0) hx hb d_Ke_enter_28 (by decide) ?_
    cases h
  replace h := zo_f c4 h
  refine lv_iconst (v := 1) hx hb d_Ke_enter_24 (by decide) ?_
  refine lv_goto (tgt := 29) hx hb d_Ke_enter_25 (by decide) ?_
  refine ka_v (va_runS (As := [.int 1]) (rest := []) S9 (c_Ke_needNumber_ok l hl9 D A (GW A σ r) _ 1 (by decide)) (cwS 1 hts (tg_S wl_Ke_44 ws_Ke_needNumber wi_Ke wo_Ke_needNumber) rfl rfl rfl wq_Ke_needNumber ⟨Nat.le_of_ble_eq_true rfl, Nat.le_of_ble_eq_true rfl⟩) (ka_preS X9 hP hD hS) rfl rfl hl.1 rfl (lv_room (Nat.le_of_ble_eq_true rfl)) d_Ke_enter_29 ⟨Nat.le_of_ble_eq_true rfl, Nat.le_of_ble_eq_true rfl⟩) X9 hD hS rfl (fun H locs hP hD hS => ?_)
  refine lv_aload_n hx hb d_Ke_enter_32 rfl (lv_at hl 0 rfl) ?_
  refine lv_iload_n hx hb d_Ke_enter_33 rfl (lv_at hl 1 rfl) ?_
  refine lv_iload_n hx hb d_Ke_enter_34 rfl (lv_at hl 2 rfl) ?_
  refine lv_iload_n hx hb d_Ke_enter_35 rfl (lv_at hl 3 rfl) ?_
  rcases zo_x h with ⟨k9, u6, e9, h⟩ | ⟨v5, u6, e9, h⟩
  · cases h
  refine ka_v (va_runV (As := [.int x1, .int x2, .int x3]) (rest := []) S9 (c_Ke_needThere_ok l hl9 D A r _ σ x1 x2 x3 _ _ e9) (cwV 3 hts (tg_V wl_Ke_160 wm_Ke_needThere we_Ke_needThere wi_Ke wo_Ke_needThere) rfl rfl rfl wq_Ke_needThere ⟨Nat.le_of_ble_eq_true rfl, Nat.le_of_ble_eq_true rfl⟩) (ka_preV X9 hP hD hS 0 rfl rfl) rfl rfl hl.1 rfl (lv_room (Nat.le_of_ble_eq_true rfl)) d_Ke_enter_36 ⟨Nat.le_of_ble_eq_true rfl, Nat.le_of_ble_eq_true rfl⟩) X9 hD hS rfl (fun H locs hP hD hS => ?_)
  refine lv_aload_n hx hb d_Ke_enter_39 rfl (lv_at hl 0 rfl) ?_
  refine va_get (D := D) (ci := 4) (v := .ref (A 4)) (C := R_Ke) (T := T_Ke) (N := 5) hx hb hts wu_Ke hown hK hP 0 rfl rfl 3 (by decide) (hts _ wf_Ke_28) (fun _ h9 => h9) rfl d_Ke_enter_40 ?_
  refine lv_iload_n hx hb d_Ke_enter_43 rfl (lv_at hl 1 rfl) ?_
  refine lv_iconst (v := 3) hx hb d_Ke_enter_44 (by decide) ?_
  obtain ⟨v7, e9, h⟩ := zo_b h
  refine ka_i (va_runV (As := [.int x1, .int 3]) (rest := []) S9 (c_Tg_isOfKind l hl9 D A r _ u6 x1 3 _ e9) (cwV 2 hts (tg_V wl_Ke_163 wm_Tg_isOfKind we_Tg_isOfKind wi_Tg wo_Tg_isOfKind) rfl rfl rfl wq_Tg_isOfKind ⟨Nat.le_of_ble_eq_true rfl, Nat.le_of_ble_eq_true rfl⟩) (ka_preV X9 hP hD hS 4 rfl rfl) rfl rfl hl.1 rfl (lv_room (Nat.le_of_ble_eq_true rfl)) d_Ke_enter_45 ⟨Nat.le_of_ble_eq_true rfl, Nat.le_of_ble_eq_true rfl⟩) X9 hD hS rfl (fun H locs hP hD hS => ?_)
  refine lv_if_eq (tgt := 79) hx hb d_Ke_enter_48 (by decide) (fun c8 => ?_) (fun c8 => ?_)
  · replace h := zo_t c8 h
    refine lv_iconst (v := 0) hx hb d_Ke_enter_79 (by decide) ?_
    cases h
  replace h := zo_f c8 h
  refine lv_aload_n hx hb d_Ke_enter_51 rfl (lv_at hl 0 rfl) ?_
  refine va_get (D := D) (ci := 4) (v := .ref (A 4)) (C := R_Ke) (T := T_Ke) (N := 5) hx hb hts wu_Ke hown hK hP 0 rfl rfl 3 (by decide) (hts _ wf_Ke_28) (fun _ h9 => h9) rfl d_Ke_enter_52 ?_
  refine lv_iload_n hx hb d_Ke_enter_55 rfl (lv_at hl 2 rfl) ?_
  refine lv_iconst (v := 0) hx hb d_Ke_enter_56 (by decide) ?_
  obtain ⟨v9, e9, h⟩ := zo_b h
  refine ka_i (va_runV (As := [.int x2, .int 0]) (rest := []) S9 (c_Tg_isOfKind l hl9 D A r _ u6 x2 0 _ e9) (cwV 2 hts (tg_V wl_Ke_163 wm_Tg_isOfKind we_Tg_isOfKind wi_Tg wo_Tg_isOfKind) rfl rfl rfl wq_Tg_isOfKind ⟨Nat.le_of_ble_eq_true rfl, Nat.le_of_ble_eq_true rfl⟩) (ka_preV X9 hP hD hS 4 rfl rfl) rfl rfl hl.1 rfl (lv_room (Nat.le_of_ble_eq_true rfl)) d_Ke_enter_57 ⟨Nat.le_of_ble_eq_true rfl, Nat.le_of_ble_eq_true rfl⟩) X9 hD hS rfl (fun H locs hP hD hS => ?_)
  refine lv_if_eq (tgt := 79) hx hb d_Ke_enter_60 (by decide) (fun c10 => ?_) (fun c10 => ?_)
  · replace h := zo_t c10 h
    refine lv_iconst (v := 0) hx hb d_Ke_enter_79 (by decide) ?_
    cases h
  replace h := zo_f c10 h
  refine lv_aload_n hx hb d_Ke_enter_63 rfl (lv_at hl 0 rfl) ?_
  refine va_get (D := D) (ci := 4) (v := .ref (A 4)) (C := R_Ke) (T := T_Ke) (N := 5) hx hb hts wu_Ke hown hK hP 0 rfl rfl 3 (by decide) (hts _ wf_Ke_28) (fun _ h9 => h9) rfl d_Ke_enter_64 ?_
  refine lv_iload_n hx hb d_Ke_enter_67 rfl (lv_at hl 3 rfl) ?_
  refine lv_iconst (v := 2) hx hb d_Ke_enter_68 (by decide) ?_
  obtain ⟨v11, e9, h⟩ := zo_b h
  refine ka_i (va_runV (As := [.int x3, .int 2]) (rest := []) S9 (c_Tg_isOfKind l hl9 D A r _ u6 x3 2 _ e9) (cwV 2 hts (tg_V wl_Ke_163 wm_Tg_isOfKind we_Tg_isOfKind wi_Tg wo_Tg_isOfKind) rfl rfl rfl wq_Tg_isOfKind ⟨Nat.le_of_ble_eq_true rfl, Nat.le_of_ble_eq_true rfl⟩) (ka_preV X9 hP hD hS 4 rfl rfl) rfl rfl hl.1 rfl (lv_room (Nat.le_of_ble_eq_true rfl)) d_Ke_enter_69 ⟨Nat.le_of_ble_eq_true rfl, Nat.le_of_ble_eq_true rfl⟩) X9 hD hS rfl (fun H locs hP hD hS => ?_)
  refine lv_if_eq (tgt := 79) hx hb d_Ke_enter_72 (by decide) (fun c12 => ?_) (fun c12 => ?_)
  · replace h := zo_t c12 h
    refine lv_iconst (v := 0) hx hb d_Ke_enter_79 (by decide) ?_
    cases h
  replace h := zo_f c12 h
  refine lv_iconst (v := 1) hx hb d_Ke_enter_75 (by decide) ?_
  refine lv_goto (tgt := 80) hx hb d_Ke_enter_76 (by decide) ?_
  refine ka_v (va_runS (As := [.int 1]) (rest := []) S9 (c_Ke_needNumber_ok l hl9 D A (GW A u6 r) _ 1 (by decide)) (cwS 1 hts (tg_S wl_Ke_44 ws_Ke_needNumber wi_Ke wo_Ke_needNumber) rfl rfl rfl wq_Ke_needNumber ⟨Nat.le_of_ble_eq_true rfl, Nat.le_of_ble_eq_true rfl⟩) (ka_preS X9 hP hD hS) rfl rfl hl.1 rfl (lv_room (Nat.le_of_ble_eq_true rfl)) d_Ke_enter_80 ⟨Nat.le_of_ble_eq_true rfl, Nat.le_of_ble_eq_true rfl⟩) X9 hD hS rfl (fun H locs hP hD hS => ?_)
  refine lv_aload_n hx hb d_Ke_enter_83 rfl (lv_at hl 0 rfl) ?_
  refine va_get (D := D) (ci := 4) (v := .ref (A 4)) (C := R_Ke) (T := T_Ke) (N := 5) hx hb hts wu_Ke hown hK hP 0 rfl rfl 3 (by decide) (hts _ wf_Ke_28) (fun _ h9 => h9) rfl d_Ke_enter_84 ?_
  refine lv_iload_n hx hb d_Ke_enter_87 rfl (lv_at hl 3 rfl) ?_
  refine lv_iload_n hx hb d_Ke_enter_88 rfl (lv_at hl 2 rfl) ?_
  obtain ⟨v13, e9, h⟩ := zo_b h
  refine ka_i (va_runV (As := [.int x3, .int x2]) (rest := []) S9 (c_Tg_isIn l hl9 D A r _ u6 x3 x2 _ e9) (cwV 2 hts (tg_V wl_Ke_166 wm_Tg_isIn we_Tg_isIn wi_Tg wo_Tg_isIn) rfl rfl rfl wq_Tg_isIn ⟨Nat.le_of_ble_eq_true rfl, Nat.le_of_ble_eq_true rfl⟩) (ka_preV X9 hP hD hS 4 rfl rfl) rfl rfl hl.1 rfl (lv_room (Nat.le_of_ble_eq_true rfl)) d_Ke_enter_89 ⟨Nat.le_of_ble_eq_true rfl, Nat.le_of_ble_eq_true rfl⟩) X9 hD hS rfl (fun H locs hP hD hS => ?_)
  rcases zo_n h with ⟨c9, h⟩ | ⟨c9, h⟩
  · cases h
  refine ka_v (va_runS (As := [.int v13]) (rest := []) S9 (c_Ke_needFound_ok l hl9 D A (GW A u6 r) _ v13 c9) (cwS 1 hts (tg_S wl_Ke_169 ws_Ke_needFound wi_Ke wo_Ke_needFound) rfl rfl rfl wq_Ke_needFound ⟨Nat.le_of_ble_eq_true rfl, Nat.le_of_ble_eq_true rfl⟩) (ka_preS X9 hP hD hS) rfl rfl hl.1 rfl (lv_room (Nat.le_of_ble_eq_true rfl)) d_Ke_enter_92 ⟨Nat.le_of_ble_eq_true rfl, Nat.le_of_ble_eq_true rfl⟩) X9 hD hS rfl (fun H locs hP hD hS => ?_)
  refine lv_aload_n hx hb d_Ke_enter_95 rfl (lv_at hl 0 rfl) ?_
  refine lv_iload_n hx hb d_Ke_enter_96 rfl (lv_at hl 1 rfl) ?_
  refine lv_iload_n hx hb d_Ke_enter_97 rfl (lv_at hl 2 rfl) ?_
  obtain ⟨v14, e9, h⟩ := zo_b h
  refine ka_i (va_runV (As := [.int x1, .int x2]) (rest := []) S9 (c_Ke_maySee l hl9 D A r _ u6 x1 x2 _ e9) (cwV 2 hts (tg_V wl_Ke_130 wm_Ke_maySee we_Ke_maySee wi_Ke wo_Ke_maySee) rfl rfl rfl wq_Ke_maySee ⟨Nat.le_of_ble_eq_true rfl, Nat.le_of_ble_eq_true rfl⟩) (ka_preV X9 hP hD hS 0 rfl rfl) rfl rfl hl.1 rfl (lv_room (Nat.le_of_ble_eq_true rfl)) d_Ke_enter_98 ⟨Nat.le_of_ble_eq_true rfl, Nat.le_of_ble_eq_true rfl⟩) X9 hD hS rfl (fun H locs hP hD hS => ?_)
  refine lv_if_eq (tgt := 134) hx hb d_Ke_enter_101 (by decide) (fun c15 => ?_) (fun c15 => ?_)
  · replace h := zo_t c15 h
    refine lv_iconst (v := 0) hx hb d_Ke_enter_134 (by decide) ?_
    cases h
  replace h := zo_f c15 h
  refine lv_aload_n hx hb d_Ke_enter_104 rfl (lv_at hl 0 rfl) ?_
  refine va_get (D := D) (ci := 4) (v := .ref (A 2)) (C := R_Ke) (T := T_Ke) (N := 5) hx hb hts wu_Ke hown hK hP 0 rfl rfl 2 (by decide) (hts _ wf_Ke_23) (fun _ h9 => h9) rfl d_Ke_enter_105 ?_
  refine lv_aload_n hx hb d_Ke_enter_108 rfl (lv_at hl 0 rfl) ?_
  refine va_get (D := D) (ci := 4) (v := .ref (A 4)) (C := R_Ke) (T := T_Ke) (N := 5) hx hb hts wu_Ke hown hK hP 0 rfl rfl 3 (by decide) (hts _ wf_Ke_28) (fun _ h9 => h9) rfl d_Ke_enter_109 ?_
  refine lv_iload_n hx hb d_Ke_enter_112 rfl (lv_at hl 1 rfl) ?_
  obtain ⟨v16, e9, h⟩ := zo_b h
  refine ka_i (va_runV (As := [.int x1]) (rest := [.ref (A 2)]) S9 (c_Tg_labelOf l hl9 D A r _ u6 x1 _ e9) (cwV 1 hts (tg_V wl_Ke_85 wm_Tg_labelOf we_Tg_labelOf wi_Tg wo_Tg_labelOf) rfl rfl rfl wq_Tg_labelOf ⟨Nat.le_of_ble_eq_true rfl, Nat.le_of_ble_eq_true rfl⟩) (ka_preV X9 hP hD hS 4 rfl rfl) rfl rfl hl.1 rfl (lv_room (Nat.le_of_ble_eq_true rfl)) d_Ke_enter_113 ⟨Nat.le_of_ble_eq_true rfl, Nat.le_of_ble_eq_true rfl⟩) X9 hD hS rfl (fun H locs hP hD hS => ?_)
  refine lv_aload_n hx hb d_Ke_enter_116 rfl (lv_at hl 0 rfl) ?_
  refine va_get (D := D) (ci := 4) (v := .ref (A 4)) (C := R_Ke) (T := T_Ke) (N := 5) hx hb hts wu_Ke hown hK hP 0 rfl rfl 3 (by decide) (hts _ wf_Ke_28) (fun _ h9 => h9) rfl d_Ke_enter_117 ?_
  refine lv_iload_n hx hb d_Ke_enter_120 rfl (lv_at hl 3 rfl) ?_
  obtain ⟨v17, e9, h⟩ := zo_b h
  refine ka_i (va_runV (As := [.int x3]) (rest := [.int v16, .ref (A 2)]) S9 (c_Tg_guardOf l hl9 D A r _ u6 x3 _ e9) (cwV 1 hts (tg_V wl_Ke_172 wm_Tg_guardOf we_Tg_guardOf wi_Tg wo_Tg_guardOf) rfl rfl rfl wq_Tg_guardOf ⟨Nat.le_of_ble_eq_true rfl, Nat.le_of_ble_eq_true rfl⟩) (ka_preV X9 hP hD hS 4 rfl rfl) rfl rfl hl.1 rfl (lv_room (Nat.le_of_ble_eq_true rfl)) d_Ke_enter_121 ⟨Nat.le_of_ble_eq_true rfl, Nat.le_of_ble_eq_true rfl⟩) X9 hD hS rfl (fun H locs hP hD hS => ?_)
  obtain ⟨v18, e9, h⟩ := zo_b h
  refine ka_i (va_runV (As := [.int v16, .int v17]) (rest := []) S9 (c_Lb_fitsUnder l hl9 D A r _ u6 v16 v17 _ e9) (cwV 2 hts (tg_V wl_Ke_74 wm_Lb_fitsUnder we_Lb_fitsUnder wi_Lb wo_Lb_fitsUnder) rfl rfl rfl wq_Lb_fitsUnder ⟨Nat.le_of_ble_eq_true rfl, Nat.le_of_ble_eq_true rfl⟩) (ka_preV X9 hP hD hS 2 rfl rfl) rfl rfl hl.1 rfl (lv_room (Nat.le_of_ble_eq_true rfl)) d_Ke_enter_124 ⟨Nat.le_of_ble_eq_true rfl, Nat.le_of_ble_eq_true rfl⟩) X9 hD hS rfl (fun H locs hP hD hS => ?_)
  refine lv_if_eq (tgt := 134) hx hb d_Ke_enter_127 (by decide) (fun c19 => ?_) (fun c19 => ?_)
  · replace h := zo_t c19 h
    refine lv_iconst (v := 0) hx hb d_Ke_enter_134 (by decide) ?_
    cases h
  replace h := zo_f c19 h
  refine lv_iconst (v := 1) hx hb d_Ke_enter_130 (by decide) ?_
  refine lv_goto (tgt := 135) hx hb d_Ke_enter_131 (by decide) ?_
  refine ka_v (va_runS (As := [.int 1]) (rest := []) S9 (c_Ke_needAllowed_ok l hl9 D A (GW A u6 r) _ 1 (by decide)) (cwS 1 hts (tg_S wl_Ke_123 ws_Ke_needAllowed wi_Ke wo_Ke_needAllowed) rfl rfl rfl wq_Ke_needAllowed ⟨Nat.le_of_ble_eq_true rfl, Nat.le_of_ble_eq_true rfl⟩) (ka_preS X9 hP hD hS) rfl rfl hl.1 rfl (lv_room (Nat.le_of_ble_eq_true rfl)) d_Ke_enter_135 ⟨Nat.le_of_ble_eq_true rfl, Nat.le_of_ble_eq_true rfl⟩) X9 hD hS rfl (fun H locs hP hD hS => ?_)
  refine lv_aload_n hx hb d_Ke_enter_138 rfl (lv_at hl 0 rfl) ?_
  refine va_get (D := D) (ci := 4) (v := .ref (A 2)) (C := R_Ke) (T := T_Ke) (N := 5) hx hb hts wu_Ke hown hK hP 0 rfl rfl 2 (by decide) (hts _ wf_Ke_23) (fun _ h9 => h9) rfl d_Ke_enter_139 ?_
  refine lv_iload hx hb d_Ke_enter_142 (lv_at hl 4 rfl) ?_
  refine lv_aload_n hx hb d_Ke_enter_144 rfl (lv_at hl 0 rfl) ?_
  refine va_get (D := D) (ci := 4) (v := .ref (A 4)) (C := R_Ke) (T := T_Ke) (N := 5) hx hb hts wu_Ke hown hK hP 0 rfl rfl 3 (by decide) (hts _ wf_Ke_28) (fun _ h9 => h9) rfl d_Ke_enter_145 ?_
  refine lv_iload_n hx hb d_Ke_enter_148 rfl (lv_at hl 1 rfl) ?_
  obtain ⟨v20, e9, h⟩ := zo_b h
  refine ka_i (va_runV (As := [.int x1]) (rest := [.int x4, .ref (A 2)]) S9 (c_Tg_labelOf l hl9 D A r _ u6 x1 _ e9) (cwV 1 hts (tg_V wl_Ke_85 wm_Tg_labelOf we_Tg_labelOf wi_Tg wo_Tg_labelOf) rfl rfl rfl wq_Tg_labelOf ⟨Nat.le_of_ble_eq_true rfl, Nat.le_of_ble_eq_true rfl⟩) (ka_preV X9 hP hD hS 4 rfl rfl) rfl rfl hl.1 rfl (lv_room (Nat.le_of_ble_eq_true rfl)) d_Ke_enter_149 ⟨Nat.le_of_ble_eq_true rfl, Nat.le_of_ble_eq_true rfl⟩) X9 hD hS rfl (fun H locs hP hD hS => ?_)
  refine lv_aload_n hx hb d_Ke_enter_152 rfl (lv_at hl 0 rfl) ?_
  refine va_get (D := D) (ci := 4) (v := .ref (A 4)) (C := R_Ke) (T := T_Ke) (N := 5) hx hb hts wu_Ke hown hK hP 0 rfl rfl 3 (by decide) (hts _ wf_Ke_28) (fun _ h9 => h9) rfl d_Ke_enter_153 ?_
  refine lv_iload_n hx hb d_Ke_enter_156 rfl (lv_at hl 3 rfl) ?_
  obtain ⟨v21, e9, h⟩ := zo_b h
  refine ka_i (va_runV (As := [.int x3]) (rest := [.int v20, .int x4, .ref (A 2)]) S9 (c_Tg_labelOf l hl9 D A r _ u6 x3 _ e9) (cwV 1 hts (tg_V wl_Ke_85 wm_Tg_labelOf we_Tg_labelOf wi_Tg wo_Tg_labelOf) rfl rfl rfl wq_Tg_labelOf ⟨Nat.le_of_ble_eq_true rfl, Nat.le_of_ble_eq_true rfl⟩) (ka_preV X9 hP hD hS 4 rfl rfl) rfl rfl hl.1 rfl (lv_room (Nat.le_of_ble_eq_true rfl)) d_Ke_enter_157 ⟨Nat.le_of_ble_eq_true rfl, Nat.le_of_ble_eq_true rfl⟩) X9 hD hS rfl (fun H locs hP hD hS => ?_)
  obtain ⟨v22, e9, h⟩ := zo_b h
  refine ka_i (va_runV (As := [.int x4, .int v20, .int v21]) (rest := []) S9 (c_Lb_isJoinOf l hl9 D A r _ u6 x4 v20 v21 _ e9) (cwV 3 hts (tg_V wl_Ke_175 wm_Lb_isJoinOf we_Lb_isJoinOf wi_Lb wo_Lb_isJoinOf) rfl rfl rfl wq_Lb_isJoinOf ⟨Nat.le_of_ble_eq_true rfl, Nat.le_of_ble_eq_true rfl⟩) (ka_preV X9 hP hD hS 2 rfl rfl) rfl rfl hl.1 rfl (lv_room (Nat.le_of_ble_eq_true rfl)) d_Ke_enter_160 ⟨Nat.le_of_ble_eq_true rfl, Nat.le_of_ble_eq_true rfl⟩) X9 hD hS rfl (fun H locs hP hD hS => ?_)
  rcases zo_n h with ⟨c9, h⟩ | ⟨c9, h⟩
  · cases h
  refine ka_v (va_runS (As := [.int v22]) (rest := []) S9 (c_Ke_needAllowed_ok l hl9 D A (GW A u6 r) _ v22 c9) (cwS 1 hts (tg_S wl_Ke_123 ws_Ke_needAllowed wi_Ke wo_Ke_needAllowed) rfl rfl rfl wq_Ke_needAllowed ⟨Nat.le_of_ble_eq_true rfl, Nat.le_of_ble_eq_true rfl⟩) (ka_preS X9 hP hD hS) rfl rfl hl.1 rfl (lv_room (Nat.le_of_ble_eq_true rfl)) d_Ke_enter_163 ⟨Nat.le_of_ble_eq_true rfl, Nat.le_of_ble_eq_true rfl⟩) X9 hD hS rfl (fun H locs hP hD hS => ?_)
  refine lv_aload_n hx hb d_Ke_enter_166 rfl (lv_at hl 0 rfl) ?_
  refine va_get (D := D) (ci := 4) (v := .ref (A 2)) (C := R_Ke) (T := T_Ke) (N := 5) hx hb hts wu_Ke hown hK hP 0 rfl rfl 2 (by decide) (hts _ wf_Ke_23) (fun _ h9 => h9) rfl d_Ke_enter_167 ?_
  refine lv_iload hx hb d_Ke_enter_170 (lv_at hl 4 rfl) ?_
  refine lv_iload hx hb d_Ke_enter_172 (lv_at hl 5 rfl) ?_
  obtain ⟨v23, e9, h⟩ := zo_b h
  refine ka_i (va_runV (As := [.int x4, .int x5]) (rest := []) S9 (c_Lb_fitsUnder l hl9 D A r _ u6 x4 x5 _ e9) (cwV 2 hts (tg_V wl_Ke_74 wm_Lb_fitsUnder we_Lb_fitsUnder wi_Lb wo_Lb_fitsUnder) rfl rfl rfl wq_Lb_fitsUnder ⟨Nat.le_of_ble_eq_true rfl, Nat.le_of_ble_eq_true rfl⟩) (ka_preV X9 hP hD hS 2 rfl rfl) rfl rfl hl.1 rfl (lv_room (Nat.le_of_ble_eq_true rfl)) d_Ke_enter_174 ⟨Nat.le_of_ble_eq_true rfl, Nat.le_of_ble_eq_true rfl⟩) X9 hD hS rfl (fun H locs hP hD hS => ?_)
  rcases zo_n h with ⟨c9, h⟩ | ⟨c9, h⟩
  · cases h
  refine ka_v (va_runS (As := [.int v23]) (rest := []) S9 (c_Ke_needAllowed_ok l hl9 D A (GW A u6 r) _ v23 c9) (cwS 1 hts (tg_S wl_Ke_123 ws_Ke_needAllowed wi_Ke wo_Ke_needAllowed) rfl rfl rfl wq_Ke_needAllowed ⟨Nat.le_of_ble_eq_true rfl, Nat.le_of_ble_eq_true rfl⟩) (ka_preS X9 hP hD hS) rfl rfl hl.1 rfl (lv_room (Nat.le_of_ble_eq_true rfl)) d_Ke_enter_177 ⟨Nat.le_of_ble_eq_true rfl, Nat.le_of_ble_eq_true rfl⟩) X9 hD hS rfl (fun H locs hP hD hS => ?_)
  refine lv_aload_n hx hb d_Ke_enter_180 rfl (lv_at hl 0 rfl) ?_
  refine va_get (D := D) (ci := 4) (v := .ref (A 2)) (C := R_Ke) (T := T_Ke) (N := 5) hx hb hts wu_Ke hown hK hP 0 rfl rfl 2 (by decide) (hts _ wf_Ke_23) (fun _ h9 => h9) rfl d_Ke_enter_181 ?_
  refine lv_iload hx hb d_Ke_enter_184 (lv_at hl 5 rfl) ?_
  refine lv_aload_n hx hb d_Ke_enter_186 rfl (lv_at hl 0 rfl) ?_
  refine va_get (D := D) (ci := 4) (v := .ref (A 4)) (C := R_Ke) (T := T_Ke) (N := 5) hx hb hts wu_Ke hown hK hP 0 rfl rfl 3 (by decide) (hts _ wf_Ke_28) (fun _ h9 => h9) rfl d_Ke_enter_187 ?_
  refine lv_iload_n hx hb d_Ke_enter_190 rfl (lv_at hl 1 rfl) ?_
  obtain ⟨v24, e9, h⟩ := zo_b h
  refine ka_i (va_runV (As := [.int x1]) (rest := [.int x5, .ref (A 2)]) S9 (c_Tg_clearanceOf l hl9 D A r _ u6 x1 _ e9) (cwV 1 hts (tg_V wl_Ke_90 wm_Tg_clearanceOf we_Tg_clearanceOf wi_Tg wo_Tg_clearanceOf) rfl rfl rfl wq_Tg_clearanceOf ⟨Nat.le_of_ble_eq_true rfl, Nat.le_of_ble_eq_true rfl⟩) (ka_preV X9 hP hD hS 4 rfl rfl) rfl rfl hl.1 rfl (lv_room (Nat.le_of_ble_eq_true rfl)) d_Ke_enter_191 ⟨Nat.le_of_ble_eq_true rfl, Nat.le_of_ble_eq_true rfl⟩) X9 hD hS rfl (fun H locs hP hD hS => ?_)
  refine lv_aload_n hx hb d_Ke_enter_194 rfl (lv_at hl 0 rfl) ?_
  refine va_get (D := D) (ci := 4) (v := .ref (A 4)) (C := R_Ke) (T := T_Ke) (N := 5) hx hb hts wu_Ke hown hK hP 0 rfl rfl 3 (by decide) (hts _ wf_Ke_28) (fun _ h9 => h9) rfl d_Ke_enter_195 ?_
  refine lv_iload_n hx hb d_Ke_enter_198 rfl (lv_at hl 3 rfl) ?_
  obtain ⟨v25, e9, h⟩ := zo_b h
  refine ka_i (va_runV (As := [.int x3]) (rest := [.int v24, .int x5, .ref (A 2)]) S9 (c_Tg_clearanceOf l hl9 D A r _ u6 x3 _ e9) (cwV 1 hts (tg_V wl_Ke_90 wm_Tg_clearanceOf we_Tg_clearanceOf wi_Tg wo_Tg_clearanceOf) rfl rfl rfl wq_Tg_clearanceOf ⟨Nat.le_of_ble_eq_true rfl, Nat.le_of_ble_eq_true rfl⟩) (ka_preV X9 hP hD hS 4 rfl rfl) rfl rfl hl.1 rfl (lv_room (Nat.le_of_ble_eq_true rfl)) d_Ke_enter_199 ⟨Nat.le_of_ble_eq_true rfl, Nat.le_of_ble_eq_true rfl⟩) X9 hD hS rfl (fun H locs hP hD hS => ?_)
  obtain ⟨v26, e9, h⟩ := zo_b h
  refine ka_i (va_runV (As := [.int x5, .int v24, .int v25]) (rest := []) S9 (c_Lb_isNowhereAboveBoth l hl9 D A r _ u6 x5 v24 v25 _ e9) (cwV 3 hts (tg_V wl_Ke_178 wm_Lb_isNowhereAboveBoth we_Lb_isNowhereAboveBoth wi_Lb wo_Lb_isNowhereAboveBoth) rfl rfl rfl wq_Lb_isNowhereAboveBoth ⟨Nat.le_of_ble_eq_true rfl, Nat.le_of_ble_eq_true rfl⟩) (ka_preV X9 hP hD hS 2 rfl rfl) rfl rfl hl.1 rfl (lv_room (Nat.le_of_ble_eq_true rfl)) d_Ke_enter_202 ⟨Nat.le_of_ble_eq_true rfl, Nat.le_of_ble_eq_true rfl⟩) X9 hD hS rfl (fun H locs hP hD hS => ?_)
  rcases zo_n h with ⟨c9, h⟩ | ⟨c9, h⟩
  · cases h
  refine ka_v (va_runS (As := [.int v26]) (rest := []) S9 (c_Ke_needAllowed_ok l hl9 D A (GW A u6 r) _ v26 c9) (cwS 1 hts (tg_S wl_Ke_123 ws_Ke_needAllowed wi_Ke wo_Ke_needAllowed) rfl rfl rfl wq_Ke_needAllowed ⟨Nat.le_of_ble_eq_true rfl, Nat.le_of_ble_eq_true rfl⟩) (ka_preS X9 hP hD hS) rfl rfl hl.1 rfl (lv_room (Nat.le_of_ble_eq_true rfl)) d_Ke_enter_205 ⟨Nat.le_of_ble_eq_true rfl, Nat.le_of_ble_eq_true rfl⟩) X9 hD hS rfl (fun H locs hP hD hS => ?_)
  refine lv_aload_n hx hb d_Ke_enter_208 rfl (lv_at hl 0 rfl) ?_
  refine va_get (D := D) (ci := 4) (v := .ref (A 4)) (C := R_Ke) (T := T_Ke) (N := 5) hx hb hts wu_Ke hown hK hP 0 rfl rfl 3 (by decide) (hts _ wf_Ke_28) (fun _ h9 => h9) rfl d_Ke_enter_209 ?_
  refine lv_iload_n hx hb d_Ke_enter_212 rfl (lv_at hl 1 rfl) ?_
  refine lv_iload hx hb d_Ke_enter_213 (lv_at hl 4 rfl) ?_
  obtain ⟨v27, e9, h⟩ := zo_b h
  refine ka_v (va_runV (As := [.int x1, .int x4]) (rest := []) S9 (c_Tg_setLabel l hl9 D A r _ u6 x1 x4 _ e9) (cwV 2 hts (tg_V wl_Ke_93 wm_Tg_setLabel we_Tg_setLabel wi_Tg wo_Tg_setLabel) rfl rfl rfl wq_Tg_setLabel ⟨Nat.le_of_ble_eq_true rfl, Nat.le_of_ble_eq_true rfl⟩) (ka_preV X9 hP hD hS 4 rfl rfl) rfl rfl hl.1 rfl (lv_room (Nat.le_of_ble_eq_true rfl)) d_Ke_enter_215 ⟨Nat.le_of_ble_eq_true rfl, Nat.le_of_ble_eq_true rfl⟩) X9 hD hS rfl (fun H locs hP hD hS => ?_)
  refine lv_aload_n hx hb d_Ke_enter_218 rfl (lv_at hl 0 rfl) ?_
  refine va_get (D := D) (ci := 4) (v := .ref (A 4)) (C := R_Ke) (T := T_Ke) (N := 5) hx hb hts wu_Ke hown hK hP 0 rfl rfl 3 (by decide) (hts _ wf_Ke_28) (fun _ h9 => h9) rfl d_Ke_enter_219 ?_
  refine lv_iload_n hx hb d_Ke_enter_222 rfl (lv_at hl 1 rfl) ?_
  refine lv_iload hx hb d_Ke_enter_223 (lv_at hl 5 rfl) ?_
  obtain ⟨v28, e9, h⟩ := zo_b h
  refine ka_v (va_runV (As := [.int x1, .int x5]) (rest := []) S9 (c_Tg_setClearance l hl9 D A r _ v27 x1 x5 _ e9) (cwV 2 hts (tg_V wl_Ke_97 wm_Tg_setClearance we_Tg_setClearance wi_Tg wo_Tg_setClearance) rfl rfl rfl wq_Tg_setClearance ⟨Nat.le_of_ble_eq_true rfl, Nat.le_of_ble_eq_true rfl⟩) (ka_preV X9 hP hD hS 4 rfl rfl) rfl rfl hl.1 rfl (lv_room (Nat.le_of_ble_eq_true rfl)) d_Ke_enter_225 ⟨Nat.le_of_ble_eq_true rfl, Nat.le_of_ble_eq_true rfl⟩) X9 hD hS rfl (fun H locs hP hD hS => ?_)
  refine lv_aload_n hx hb d_Ke_enter_228 rfl (lv_at hl 0 rfl) ?_
  refine va_get (D := D) (ci := 4) (v := .ref (A 4)) (C := R_Ke) (T := T_Ke) (N := 5) hx hb hts wu_Ke hown hK hP 0 rfl rfl 3 (by decide) (hts _ wf_Ke_28) (fun _ h9 => h9) rfl d_Ke_enter_229 ?_
  refine lv_iload_n hx hb d_Ke_enter_232 rfl (lv_at hl 3 rfl) ?_
  obtain ⟨v29, e9, h⟩ := zo_b h
  refine ka_i (va_runV (As := [.int x3]) (rest := []) S9 (c_Tg_entryOf l hl9 D A r _ v28 x3 _ e9) (cwV 1 hts (tg_V wl_Ke_181 wm_Tg_entryOf we_Tg_entryOf wi_Tg wo_Tg_entryOf) rfl rfl rfl wq_Tg_entryOf ⟨Nat.le_of_ble_eq_true rfl, Nat.le_of_ble_eq_true rfl⟩) (ka_preV X9 hP hD hS 4 rfl rfl) rfl rfl hl.1 rfl (lv_room (Nat.le_of_ble_eq_true rfl)) d_Ke_enter_233 ⟨Nat.le_of_ble_eq_true rfl, Nat.le_of_ble_eq_true rfl⟩) X9 hD hS rfl (fun H locs hP hD hS => ?_)
  cases h
  exact W.iret hx hb hr (fun t ht hW => ⟨⟨_, (), rfl, rfl, ka_at ht hP⟩, hS.F ht⟩) hS.2.2 d_Ke_enter_236 hlk
set_option maxRecDepth 100000 in
set_option maxHeartbeats 4000000 in
theorem c_Ke_enter_err (l : Launch) (hl9 : l.stackTraces = false) (D : va_G) (A : Nat → Nat) (r : va_W) (sz : Nat) (σ : KS) (x1 x2 x3 x4 x5 : Int32) (k9 : Nat) (z : KS) (h : f_Ke_enter σ x1 x2 x3 x4 x5 = some (.error k9, z)) : vx_Met l y_Ke_enter (Cond.code y_Ke_enter b_Ke_enter 6 (some .int) :: T0) ({ frames := 8, cells := 1, slots := 6, locals := 124 } : Room) (va_Pc [.ref (A 0), .int x1, .int x2, .int x3, .int x4, .int x5] (ka_Wd D A (GW A σ r) sz)) ka_No (ka_Xe D k9 (GW A z r) (va_A (GW A σ r) sz)) 1 6 (va_A (GW A σ r) sz) := by
  unfold f_Ke_enter at h
  refine ka_ofX (own := R_Ke) (fun A9 => ka_Xe D k9 (GW A z r) A9) (by decide) rfl (Nat.le_of_ble_eq_true rfl) ?_
  intro p e s m below meth c A9 ls S9 hr hlk hex X9 hP hD hl
  obtain ⟨hx, hb, hml, hown, hts⟩ := id S9
  have hK := X9.2.1
  have hS : va_S A9 s.heap s.heap [] := va_S.rf
  replace hl : lv_has ls 6 [(0, .ref (A 0)), (1, .int x1), (2, .int x2), (3, .int x3), (4, .int x4), (5, .int x5)] := hl
  refine lv_aload_n hx hb d_Ke_enter_0 rfl (lv_at hl 0 rfl) ?_
  refine va_get (D := D) (ci := 4) (v := .ref (A 2)) (C := R_Ke) (T := T_Ke) (N := 5) hx hb hts wu_Ke hown hK hP 0 rfl rfl 2 (by decide) (hts _ wf_Ke_23) (fun _ h9 => h9) rfl d_Ke_enter_1 ?_
  refine lv_iload hx hb d_Ke_enter_4 (lv_at hl 4 rfl) ?_
  obtain ⟨v1, e9, h⟩ := zo_b h
  refine ka_i (va_runV (As := [.int x4]) (rest := []) S9 (c_Lb_has l hl9 D A r _ σ x4 _ e9) (cwV 1 hts (tg_V wl_Ke_34 wm_Lb_has we_Lb_has wi_Lb wo_Lb_has) rfl rfl rfl wq_Lb_has ⟨Nat.le_of_ble_eq_true rfl, Nat.le_of_ble_eq_true rfl⟩) (ka_preV X9 hP hD hS 2 rfl rfl) rfl rfl hl.1 rfl (lv_room (Nat.le_of_ble_eq_true rfl)) d_Ke_enter_6 ⟨Nat.le_of_ble_eq_true rfl, Nat.le_of_ble_eq_true rfl⟩) X9 hD hS rfl (fun H locs hP hD hS => ?_)
  refine lv_if_eq (tgt := 28) hx hb d_Ke_enter_9 (by decide) (fun c2 => ?_) (fun c2 => ?_)
  · replace h := zo_t c2 h
    refine lv_iconst (v := 0) hx hb d_Ke_enter_28 (by decide) ?_
    obtain ⟨rfl, rfl⟩ := zo_e h
    exact ka_err (vx_runS (As := [.int 0]) (rest := []) S9 (c_Ke_needNumber_err l hl9 D A (GW A σ r) _ 0 rfl) (cwS 1 hts (tg_S wl_Ke_44 ws_Ke_needNumber wi_Ke wo_Ke_needNumber) rfl rfl rfl wq_Ke_needNumber ⟨Nat.le_of_ble_eq_true rfl, Nat.le_of_ble_eq_true rfl⟩) (ka_preS X9 hP hD hS) rfl rfl hl.1 rfl (lv_room (Nat.le_of_ble_eq_true rfl)) d_Ke_enter_29 ⟨Nat.le_of_ble_eq_true rfl, Nat.le_of_ble_eq_true rfl⟩) hlk hex X9 hD hS (Nat.le_of_ble_eq_true rfl) (Nat.le_of_ble_eq_true rfl)
  replace h := zo_f c2 h
  refine lv_aload_n hx hb d_Ke_enter_12 rfl (lv_at hl 0 rfl) ?_
  refine va_get (D := D) (ci := 4) (v := .ref (A 2)) (C := R_Ke) (T := T_Ke) (N := 5) hx hb hts wu_Ke hown hK hP 0 rfl rfl 2 (by decide) (hts _ wf_Ke_23) (fun _ h9 => h9) rfl d_Ke_enter_13 ?_
  refine lv_iload hx hb d_Ke_enter_16 (lv_at hl 5 rfl) ?_
  obtain ⟨v3, e9, h⟩ := zo_b h
  refine ka_i (va_runV (As := [.int x5]) (rest := []) S9 (c_Lb_isStarless l hl9 D A r _ σ x5 _ e9) (cwV 1 hts (tg_V wl_Ke_100 wm_Lb_isStarless we_Lb_isStarless wi_Lb wo_Lb_isStarless) rfl rfl rfl wq_Lb_isStarless ⟨Nat.le_of_ble_eq_true rfl, Nat.le_of_ble_eq_true rfl⟩) (ka_preV X9 hP hD hS 2 rfl rfl) rfl rfl hl.1 rfl (lv_room (Nat.le_of_ble_eq_true rfl)) d_Ke_enter_18 ⟨Nat.le_of_ble_eq_true rfl, Nat.le_of_ble_eq_true rfl⟩) X9 hD hS rfl (fun H locs hP hD hS => ?_)
  refine lv_if_eq (tgt := 28) hx hb d_Ke_enter_21 (by decide) (fun c4 => ?_) (fun c4 => ?_)
  · replace h := zo_t c4 h
    refine lv_iconst (v := 0) hx hb d_Ke_enter_28 (by decide) ?_
    obtain ⟨rfl, rfl⟩ := zo_e h
    exact ka_err (vx_runS (As := [.int 0]) (rest := []) S9 (c_Ke_needNumber_err l hl9 D A (GW A σ r) _ 0 rfl) (cwS 1 hts (tg_S wl_Ke_44 ws_Ke_needNumber wi_Ke wo_Ke_needNumber) rfl rfl rfl wq_Ke_needNumber ⟨Nat.le_of_ble_eq_true rfl, Nat.le_of_ble_eq_true rfl⟩) (ka_preS X9 hP hD hS) rfl rfl hl.1 rfl (lv_room (Nat.le_of_ble_eq_true rfl)) d_Ke_enter_29 ⟨Nat.le_of_ble_eq_true rfl, Nat.le_of_ble_eq_true rfl⟩) hlk hex X9 hD hS (Nat.le_of_ble_eq_true rfl) (Nat.le_of_ble_eq_true rfl)
  replace h := zo_f c4 h
  refine lv_iconst (v := 1) hx hb d_Ke_enter_24 (by decide) ?_
  refine lv_goto (tgt := 29) hx hb d_Ke_enter_25 (by decide) ?_
  refine ka_v (va_runS (As := [.int 1]) (rest := []) S9 (c_Ke_needNumber_ok l hl9 D A (GW A σ r) _ 1 (by decide)) (cwS 1 hts (tg_S wl_Ke_44 ws_Ke_needNumber wi_Ke wo_Ke_needNumber) rfl rfl rfl wq_Ke_needNumber ⟨Nat.le_of_ble_eq_true rfl, Nat.le_of_ble_eq_true rfl⟩) (ka_preS X9 hP hD hS) rfl rfl hl.1 rfl (lv_room (Nat.le_of_ble_eq_true rfl)) d_Ke_enter_29 ⟨Nat.le_of_ble_eq_true rfl, Nat.le_of_ble_eq_true rfl⟩) X9 hD hS rfl (fun H locs hP hD hS => ?_)
  refine lv_aload_n hx hb d_Ke_enter_32 rfl (lv_at hl 0 rfl) ?_
  refine lv_iload_n hx hb d_Ke_enter_33 rfl (lv_at hl 1 rfl) ?_
  refine lv_iload_n hx hb d_Ke_enter_34 rfl (lv_at hl 2 rfl) ?_
  refine lv_iload_n hx hb d_Ke_enter_35 rfl (lv_at hl 3 rfl) ?_
  rcases zo_x h with ⟨k9, u6, e9, h⟩ | ⟨v5, u6, e9, h⟩
  · cases h
    exact ka_err (vx_runV (As := [.int x1, .int x2, .int x3]) (rest := []) S9 (c_Ke_needThere_err l hl9 D A r _ σ x1 x2 x3 _ _ e9) (cwV 3 hts (tg_V wl_Ke_160 wm_Ke_needThere we_Ke_needThere wi_Ke wo_Ke_needThere) rfl rfl rfl wq_Ke_needThere ⟨Nat.le_of_ble_eq_true rfl, Nat.le_of_ble_eq_true rfl⟩) (ka_preV X9 hP hD hS 0 rfl rfl) rfl rfl hl.1 rfl (lv_room (Nat.le_of_ble_eq_true rfl)) d_Ke_enter_36 ⟨Nat.le_of_ble_eq_true rfl, Nat.le_of_ble_eq_true rfl⟩) hlk hex X9 hD hS (Nat.le_of_ble_eq_true rfl) (Nat.le_of_ble_eq_true rfl)
  refine ka_v (va_runV (As := [.int x1, .int x2, .int x3]) (rest := []) S9 (c_Ke_needThere_ok l hl9 D A r _ σ x1 x2 x3 _ _ e9) (cwV 3 hts (tg_V wl_Ke_160 wm_Ke_needThere we_Ke_needThere wi_Ke wo_Ke_needThere) rfl rfl rfl wq_Ke_needThere ⟨Nat.le_of_ble_eq_true rfl, Nat.le_of_ble_eq_true rfl⟩) (ka_preV X9 hP hD hS 0 rfl rfl) rfl rfl hl.1 rfl (lv_room (Nat.le_of_ble_eq_true rfl)) d_Ke_enter_36 ⟨Nat.le_of_ble_eq_true rfl, Nat.le_of_ble_eq_true rfl⟩) X9 hD hS rfl (fun H locs hP hD hS => ?_)
  refine lv_aload_n hx hb d_Ke_enter_39 rfl (lv_at hl 0 rfl) ?_
  refine va_get (D := D) (ci := 4) (v := .ref (A 4)) (C := R_Ke) (T := T_Ke) (N := 5) hx hb hts wu_Ke hown hK hP 0 rfl rfl 3 (by decide) (hts _ wf_Ke_28) (fun _ h9 => h9) rfl d_Ke_enter_40 ?_
  refine lv_iload_n hx hb d_Ke_enter_43 rfl (lv_at hl 1 rfl) ?_
  refine lv_iconst (v := 3) hx hb d_Ke_enter_44 (by decide) ?_
  obtain ⟨v7, e9, h⟩ := zo_b h
  refine ka_i (va_runV (As := [.int x1, .int 3]) (rest := []) S9 (c_Tg_isOfKind l hl9 D A r _ u6 x1 3 _ e9) (cwV 2 hts (tg_V wl_Ke_163 wm_Tg_isOfKind we_Tg_isOfKind wi_Tg wo_Tg_isOfKind) rfl rfl rfl wq_Tg_isOfKind ⟨Nat.le_of_ble_eq_true rfl, Nat.le_of_ble_eq_true rfl⟩) (ka_preV X9 hP hD hS 4 rfl rfl) rfl rfl hl.1 rfl (lv_room (Nat.le_of_ble_eq_true rfl)) d_Ke_enter_45 ⟨Nat.le_of_ble_eq_true rfl, Nat.le_of_ble_eq_true rfl⟩) X9 hD hS rfl (fun H locs hP hD hS => ?_)
  refine lv_if_eq (tgt := 79) hx hb d_Ke_enter_48 (by decide) (fun c8 => ?_) (fun c8 => ?_)
  · replace h := zo_t c8 h
    refine lv_iconst (v := 0) hx hb d_Ke_enter_79 (by decide) ?_
    obtain ⟨rfl, rfl⟩ := zo_e h
    exact ka_err (vx_runS (As := [.int 0]) (rest := []) S9 (c_Ke_needNumber_err l hl9 D A (GW A u6 r) _ 0 rfl) (cwS 1 hts (tg_S wl_Ke_44 ws_Ke_needNumber wi_Ke wo_Ke_needNumber) rfl rfl rfl wq_Ke_needNumber ⟨Nat.le_of_ble_eq_true rfl, Nat.le_of_ble_eq_true rfl⟩) (ka_preS X9 hP hD hS) rfl rfl hl.1 rfl (lv_room (Nat.le_of_ble_eq_true rfl)) d_Ke_enter_80 ⟨Nat.le_of_ble_eq_true rfl, Nat.le_of_ble_eq_true rfl⟩) hlk hex X9 hD hS (Nat.le_of_ble_eq_true rfl) (Nat.le_of_ble_eq_true rfl)
  replace h := zo_f c8 h
  refine lv_aload_n hx hb d_Ke_enter_51 rfl (lv_at hl 0 rfl) ?_
  refine va_get (D := D) (ci := 4) (v := .ref (A 4)) (C := R_Ke) (T := T_Ke) (N := 5) hx hb hts wu_Ke hown hK hP 0 rfl rfl 3 (by decide) (hts _ wf_Ke_28) (fun _ h9 => h9) rfl d_Ke_enter_52 ?_
  refine lv_iload_n hx hb d_Ke_enter_55 rfl (lv_at hl 2 rfl) ?_
  refine lv_iconst (v := 0) hx hb d_Ke_enter_56 (by decide) ?_
  obtain ⟨v9, e9, h⟩ := zo_b h
  refine ka_i (va_runV (As := [.int x2, .int 0]) (rest := []) S9 (c_Tg_isOfKind l hl9 D A r _ u6 x2 0 _ e9) (cwV 2 hts (tg_V wl_Ke_163 wm_Tg_isOfKind we_Tg_isOfKind wi_Tg wo_Tg_isOfKind) rfl rfl rfl wq_Tg_isOfKind ⟨Nat.le_of_ble_eq_true rfl, Nat.le_of_ble_eq_true rfl⟩) (ka_preV X9 hP hD hS 4 rfl rfl) rfl rfl hl.1 rfl (lv_room (Nat.le_of_ble_eq_true rfl)) d_Ke_enter_57 ⟨Nat.le_of_ble_eq_true rfl, Nat.le_of_ble_eq_true rfl⟩) X9 hD hS rfl (fun H locs hP hD hS => ?_)
  refine lv_if_eq (tgt := 79) hx hb d_Ke_enter_60 (by decide) (fun c10 => ?_) (fun c10 => ?_)
  · replace h := zo_t c10 h
    refine lv_iconst (v := 0) hx hb d_Ke_enter_79 (by decide) ?_
    obtain ⟨rfl, rfl⟩ := zo_e h
    exact ka_err (vx_runS (As := [.int 0]) (rest := []) S9 (c_Ke_needNumber_err l hl9 D A (GW A u6 r) _ 0 rfl) (cwS 1 hts (tg_S wl_Ke_44 ws_Ke_needNumber wi_Ke wo_Ke_needNumber) rfl rfl rfl wq_Ke_needNumber ⟨Nat.le_of_ble_eq_true rfl, Nat.le_of_ble_eq_true rfl⟩) (ka_preS X9 hP hD hS) rfl rfl hl.1 rfl (lv_room (Nat.le_of_ble_eq_true rfl)) d_Ke_enter_80 ⟨Nat.le_of_ble_eq_true rfl, Nat.le_of_ble_eq_true rfl⟩) hlk hex X9 hD hS (Nat.le_of_ble_eq_true rfl) (Nat.le_of_ble_eq_true rfl)
  replace h := zo_f c10 h
  refine lv_aload_n hx hb d_Ke_enter_63 rfl (lv_at hl 0 rfl) ?_
  refine va_get (D := D) (ci := 4) (v := .ref (A 4)) (C := R_Ke) (T := T_Ke) (N := 5) hx hb hts wu_Ke hown hK hP 0 rfl rfl 3 (by decide) (hts _ wf_Ke_28) (fun _ h9 => h9) rfl d_Ke_enter_64 ?_
  refine lv_iload_n hx hb d_Ke_enter_67 rfl (lv_at hl 3 rfl) ?_
  refine lv_iconst (v := 2) hx hb d_Ke_enter_68 (by decide) ?_
  obtain ⟨v11, e9, h⟩ := zo_b h
  refine ka_i (va_runV (As := [.int x3, .int 2]) (rest := []) S9 (c_Tg_isOfKind l hl9 D A r _ u6 x3 2 _ e9) (cwV 2 hts (tg_V wl_Ke_163 wm_Tg_isOfKind we_Tg_isOfKind wi_Tg wo_Tg_isOfKind) rfl rfl rfl wq_Tg_isOfKind ⟨Nat.le_of_ble_eq_true rfl, Nat.le_of_ble_eq_true rfl⟩) (ka_preV X9 hP hD hS 4 rfl rfl) rfl rfl hl.1 rfl (lv_room (Nat.le_of_ble_eq_true rfl)) d_Ke_enter_69 ⟨Nat.le_of_ble_eq_true rfl, Nat.le_of_ble_eq_true rfl⟩) X9 hD hS rfl (fun H locs hP hD hS => ?_)
  refine lv_if_eq (tgt := 79) hx hb d_Ke_enter_72 (by decide) (fun c12 => ?_) (fun c12 => ?_)
  · replace h := zo_t c12 h
    refine lv_iconst (v := 0) hx hb d_Ke_enter_79 (by decide) ?_
    obtain ⟨rfl, rfl⟩ := zo_e h
    exact ka_err (vx_runS (As := [.int 0]) (rest := []) S9 (c_Ke_needNumber_err l hl9 D A (GW A u6 r) _ 0 rfl) (cwS 1 hts (tg_S wl_Ke_44 ws_Ke_needNumber wi_Ke wo_Ke_needNumber) rfl rfl rfl wq_Ke_needNumber ⟨Nat.le_of_ble_eq_true rfl, Nat.le_of_ble_eq_true rfl⟩) (ka_preS X9 hP hD hS) rfl rfl hl.1 rfl (lv_room (Nat.le_of_ble_eq_true rfl)) d_Ke_enter_80 ⟨Nat.le_of_ble_eq_true rfl, Nat.le_of_ble_eq_true rfl⟩) hlk hex X9 hD hS (Nat.le_of_ble_eq_true rfl) (Nat.le_of_ble_eq_true rfl)
  replace h := zo_f c12 h
  refine lv_iconst (v := 1) hx hb d_Ke_enter_75 (by decide) ?_
  refine lv_goto (tgt := 80) hx hb d_Ke_enter_76 (by decide) ?_
  refine ka_v (va_runS (As := [.int 1]) (rest := []) S9 (c_Ke_needNumber_ok l hl9 D A (GW A u6 r) _ 1 (by decide)) (cwS 1 hts (tg_S wl_Ke_44 ws_Ke_needNumber wi_Ke wo_Ke_needNumber) rfl rfl rfl wq_Ke_needNumber ⟨Nat.le_of_ble_eq_true rfl, Nat.le_of_ble_eq_true rfl⟩) (ka_preS X9 hP hD hS) rfl rfl hl.1 rfl (lv_room (Nat.le_of_ble_eq_true rfl)) d_Ke_enter_80 ⟨Nat.le_of_ble_eq_true rfl, Nat.le_of_ble_eq_true rfl⟩) X9 hD hS rfl (fun H locs hP hD hS => ?_)
  refine lv_aload_n hx hb d_Ke_enter_83 rfl (lv_at hl 0 rfl) ?_
  refine va_get (D := D) (ci := 4) (v := .ref (A 4)) (C := R_Ke) (T := T_Ke) (N := 5) hx hb hts wu_Ke hown hK hP 0 rfl rfl 3 (by decide) (hts _ wf_Ke_28) (fun _ h9 => h9) rfl d_Ke_enter_84 ?_
  refine lv_iload_n hx hb d_Ke_enter_87 rfl (lv_at hl 3 rfl) ?_
  refine lv_iload_n hx hb d_Ke_enter_88 rfl (lv_at hl 2 rfl) ?_
  obtain ⟨v13, e9, h⟩ := zo_b h
  refine ka_i (va_runV (As := [.int x3, .int x2]) (rest := []) S9 (c_Tg_isIn l hl9 D A r _ u6 x3 x2 _ e9) (cwV 2 hts (tg_V wl_Ke_166 wm_Tg_isIn we_Tg_isIn wi_Tg wo_Tg_isIn) rfl rfl rfl wq_Tg_isIn ⟨Nat.le_of_ble_eq_true rfl, Nat.le_of_ble_eq_true rfl⟩) (ka_preV X9 hP hD hS 4 rfl rfl) rfl rfl hl.1 rfl (lv_room (Nat.le_of_ble_eq_true rfl)) d_Ke_enter_89 ⟨Nat.le_of_ble_eq_true rfl, Nat.le_of_ble_eq_true rfl⟩) X9 hD hS rfl (fun H locs hP hD hS => ?_)
  rcases zo_n h with ⟨c9, h⟩ | ⟨c9, h⟩
  · obtain ⟨rfl, rfl⟩ := zo_e h
    exact ka_err (vx_runS (As := [.int v13]) (rest := []) S9 (c_Ke_needFound_err l hl9 D A (GW A u6 r) _ v13 c9) (cwS 1 hts (tg_S wl_Ke_169 ws_Ke_needFound wi_Ke wo_Ke_needFound) rfl rfl rfl wq_Ke_needFound ⟨Nat.le_of_ble_eq_true rfl, Nat.le_of_ble_eq_true rfl⟩) (ka_preS X9 hP hD hS) rfl rfl hl.1 rfl (lv_room (Nat.le_of_ble_eq_true rfl)) d_Ke_enter_92 ⟨Nat.le_of_ble_eq_true rfl, Nat.le_of_ble_eq_true rfl⟩) hlk hex X9 hD hS (Nat.le_of_ble_eq_true rfl) (Nat.le_of_ble_eq_true rfl)
  refine ka_v (va_runS (As := [.int v13]) (rest := []) S9 (c_Ke_needFound_ok l hl9 D A (GW A u6 r) _ v13 c9) (cwS 1 hts (tg_S wl_Ke_169 ws_Ke_needFound wi_Ke wo_Ke_needFound) rfl rfl rfl wq_Ke_needFound ⟨Nat.le_of_ble_eq_true rfl, Nat.le_of_ble_eq_true rfl⟩) (ka_preS X9 hP hD hS) rfl rfl hl.1 rfl (lv_room (Nat.le_of_ble_eq_true rfl)) d_Ke_enter_92 ⟨Nat.le_of_ble_eq_true rfl, Nat.le_of_ble_eq_true rfl⟩) X9 hD hS rfl (fun H locs hP hD hS => ?_)
  refine lv_aload_n hx hb d_Ke_enter_95 rfl (lv_at hl 0 rfl) ?_
  refine lv_iload_n hx hb d_Ke_enter_96 rfl (lv_at hl 1 rfl) ?_
  refine lv_iload_n hx hb d_Ke_enter_97 rfl (lv_at hl 2 rfl) ?_
  obtain ⟨v14, e9, h⟩ := zo_b h
  refine ka_i (va_runV (As := [.int x1, .int x2]) (rest := []) S9 (c_Ke_maySee l hl9 D A r _ u6 x1 x2 _ e9) (cwV 2 hts (tg_V wl_Ke_130 wm_Ke_maySee we_Ke_maySee wi_Ke wo_Ke_maySee) rfl rfl rfl wq_Ke_maySee ⟨Nat.le_of_ble_eq_true rfl, Nat.le_of_ble_eq_true rfl⟩) (ka_preV X9 hP hD hS 0 rfl rfl) rfl rfl hl.1 rfl (lv_room (Nat.le_of_ble_eq_true rfl)) d_Ke_enter_98 ⟨Nat.le_of_ble_eq_true rfl, Nat.le_of_ble_eq_true rfl⟩) X9 hD hS rfl (fun H locs hP hD hS => ?_)
  refine lv_if_eq (tgt := 134) hx hb d_Ke_enter_101 (by decide) (fun c15 => ?_) (fun c15 => ?_)
  · replace h := zo_t c15 h
    refine lv_iconst (v := 0) hx hb d_Ke_enter_134 (by decide) ?_
    obtain ⟨rfl, rfl⟩ := zo_e h
    exact ka_err (vx_runS (As := [.int 0]) (rest := []) S9 (c_Ke_needAllowed_err l hl9 D A (GW A u6 r) _ 0 rfl) (cwS 1 hts (tg_S wl_Ke_123 ws_Ke_needAllowed wi_Ke wo_Ke_needAllowed) rfl rfl rfl wq_Ke_needAllowed ⟨Nat.le_of_ble_eq_true rfl, Nat.le_of_ble_eq_true rfl⟩) (ka_preS X9 hP hD hS) rfl rfl hl.1 rfl (lv_room (Nat.le_of_ble_eq_true rfl)) d_Ke_enter_135 ⟨Nat.le_of_ble_eq_true rfl, Nat.le_of_ble_eq_true rfl⟩) hlk hex X9 hD hS (Nat.le_of_ble_eq_true rfl) (Nat.le_of_ble_eq_true rfl)
  replace h := zo_f c15 h
  refine lv_aload_n hx hb d_Ke_enter_104 rfl (lv_at hl 0 rfl) ?_
  refine va_get (D := D) (ci := 4) (v := .ref (A 2)) (C := R_Ke) (T := T_Ke) (N := 5) hx hb hts wu_Ke hown hK hP 0 rfl rfl 2 (by decide) (hts _ wf_Ke_23) (fun _ h9 => h9) rfl d_Ke_enter_105 ?_
  refine lv_aload_n hx hb d_Ke_enter_108 rfl (lv_at hl 0 rfl) ?_
  refine va_get (D := D) (ci := 4) (v := .ref (A 4)) (C := R_Ke) (T := T_Ke) (N := 5) hx hb hts wu_Ke hown hK hP 0 rfl rfl 3 (by decide) (hts _ wf_Ke_28) (fun _ h9 => h9) rfl d_Ke_enter_109 ?_
  refine lv_iload_n hx hb d_Ke_enter_112 rfl (lv_at hl 1 rfl) ?_
  obtain ⟨v16, e9, h⟩ := zo_b h
  refine ka_i (va_runV (As := [.int x1]) (rest := [.ref (A 2)]) S9 (c_Tg_labelOf l hl9 D A r _ u6 x1 _ e9) (cwV 1 hts (tg_V wl_Ke_85 wm_Tg_labelOf we_Tg_labelOf wi_Tg wo_Tg_labelOf) rfl rfl rfl wq_Tg_labelOf ⟨Nat.le_of_ble_eq_true rfl, Nat.le_of_ble_eq_true rfl⟩) (ka_preV X9 hP hD hS 4 rfl rfl) rfl rfl hl.1 rfl (lv_room (Nat.le_of_ble_eq_true rfl)) d_Ke_enter_113 ⟨Nat.le_of_ble_eq_true rfl, Nat.le_of_ble_eq_true rfl⟩) X9 hD hS rfl (fun H locs hP hD hS => ?_)
  refine lv_aload_n hx hb d_Ke_enter_116 rfl (lv_at hl 0 rfl) ?_
  refine va_get (D := D) (ci := 4) (v := .ref (A 4)) (C := R_Ke) (T := T_Ke) (N := 5) hx hb hts wu_Ke hown hK hP 0 rfl rfl 3 (by decide) (hts _ wf_Ke_28) (fun _ h9 => h9) rfl d_Ke_enter_117 ?_
  refine lv_iload_n hx hb d_Ke_enter_120 rfl (lv_at hl 3 rfl) ?_
  obtain ⟨v17, e9, h⟩ := zo_b h
  refine ka_i (va_runV (As := [.int x3]) (rest := [.int v16, .ref (A 2)]) S9 (c_Tg_guardOf l hl9 D A r _ u6 x3 _ e9) (cwV 1 hts (tg_V wl_Ke_172 wm_Tg_guardOf we_Tg_guardOf wi_Tg wo_Tg_guardOf) rfl rfl rfl wq_Tg_guardOf ⟨Nat.le_of_ble_eq_true rfl, Nat.le_of_ble_eq_true rfl⟩) (ka_preV X9 hP hD hS 4 rfl rfl) rfl rfl hl.1 rfl (lv_room (Nat.le_of_ble_eq_true rfl)) d_Ke_enter_121 ⟨Nat.le_of_ble_eq_true rfl, Nat.le_of_ble_eq_true rfl⟩) X9 hD hS rfl (fun H locs hP hD hS => ?_)
  obtain ⟨v18, e9, h⟩ := zo_b h
  refine ka_i (va_runV (As := [.int v16, .int v17]) (rest := []) S9 (c_Lb_fitsUnder l hl9 D A r _ u6 v16 v17 _ e9) (cwV 2 hts (tg_V wl_Ke_74 wm_Lb_fitsUnder we_Lb_fitsUnder wi_Lb wo_Lb_fitsUnder) rfl rfl rfl wq_Lb_fitsUnder ⟨Nat.le_of_ble_eq_true rfl, Nat.le_of_ble_eq_true rfl⟩) (ka_preV X9 hP hD hS 2 rfl rfl) rfl rfl hl.1 rfl (lv_room (Nat.le_of_ble_eq_true rfl)) d_Ke_enter_124 ⟨Nat.le_of_ble_eq_true rfl, Nat.le_of_ble_eq_true rfl⟩) X9 hD hS rfl (fun H locs hP hD hS => ?_)
  refine lv_if_eq (tgt := 134) hx hb d_Ke_enter_127 (by decide) (fun c19 => ?_) (fun c19 => ?_)
  · replace h := zo_t c19 h
    refine lv_iconst (v := 0) hx hb d_Ke_enter_134 (by decide) ?_
    obtain ⟨rfl, rfl⟩ := zo_e h
    exact ka_err (vx_runS (As := [.int 0]) (rest := []) S9 (c_Ke_needAllowed_err l hl9 D A (GW A u6 r) _ 0 rfl) (cwS 1 hts (tg_S wl_Ke_123 ws_Ke_needAllowed wi_Ke wo_Ke_needAllowed) rfl rfl rfl wq_Ke_needAllowed ⟨Nat.le_of_ble_eq_true rfl, Nat.le_of_ble_eq_true rfl⟩) (ka_preS X9 hP hD hS) rfl rfl hl.1 rfl (lv_room (Nat.le_of_ble_eq_true rfl)) d_Ke_enter_135 ⟨Nat.le_of_ble_eq_true rfl, Nat.le_of_ble_eq_true rfl⟩) hlk hex X9 hD hS (Nat.le_of_ble_eq_true rfl) (Nat.le_of_ble_eq_true rfl)
  replace h := zo_f c19 h
  refine lv_iconst (v := 1) hx hb d_Ke_enter_130 (by decide) ?_
  refine lv_goto (tgt := 135) hx hb d_Ke_enter_131 (by decide) ?_
  refine ka_v (va_runS (As := [.int 1]) (rest := []) S9 (c_Ke_needAllowed_ok l hl9 D A (GW A u6 r) _ 1 (by decide)) (cwS 1 hts (tg_S wl_Ke_123 ws_Ke_needAllowed wi_Ke wo_Ke_needAllowed) rfl rfl rfl wq_Ke_needAllowed ⟨Nat.le_of_ble_eq_true rfl, Nat.le_of_ble_eq_true rfl⟩) (ka_preS X9 hP hD hS) rfl rfl hl.1 rfl (lv_room (Nat.le_of_ble_eq_true rfl)) d_Ke_enter_135 ⟨Nat.le_of_ble_eq_true rfl, Nat.le_of_ble_eq_true rfl⟩) X9 hD hS rfl (fun H locs hP hD hS => ?_)
  refine lv_aload_n hx hb d_Ke_enter_138 rfl (lv_at hl 0 rfl) ?_
  refine va_get (D := D) (ci := 4) (v := .ref (A 2)) (C := R_Ke) (T := T_Ke) (N := 5) hx hb hts wu_Ke hown hK hP 0 rfl rfl 2 (by decide) (hts _ wf_Ke_23) (fun _ h9 => h9) rfl d_Ke_enter_139 ?_
  refine lv_iload hx hb d_Ke_enter_142 (lv_at hl 4 rfl) ?_
  refine lv_aload_n hx hb d_Ke_enter_144 rfl (lv_at hl 0 rfl) ?_
  refine va_get (D := D) (ci := 4) (v := .ref (A 4)) (C := R_Ke) (T := T_Ke) (N := 5) hx hb hts wu_Ke hown hK hP 0 rfl rfl 3 (by decide) (hts _ wf_Ke_28) (fun _ h9 => h9) rfl d_Ke_enter_145 ?_
  refine lv_iload_n hx hb d_Ke_enter_148 rfl (lv_at hl 1 rfl) ?_
  obtain ⟨v20, e9, h⟩ := zo_b h
  refine ka_i (va_runV (As := [.int x1]) (rest := [.int x4, .ref (A 2)]) S9 (c_Tg_labelOf l hl9 D A r _ u6 x1 _ e9) (cwV 1 hts (tg_V wl_Ke_85 wm_Tg_labelOf we_Tg_labelOf wi_Tg wo_Tg_labelOf) rfl rfl rfl wq_Tg_labelOf ⟨Nat.le_of_ble_eq_true rfl, Nat.le_of_ble_eq_true rfl⟩) (ka_preV X9 hP hD hS 4 rfl rfl) rfl rfl hl.1 rfl (lv_room (Nat.le_of_ble_eq_true rfl)) d_Ke_enter_149 ⟨Nat.le_of_ble_eq_true rfl, Nat.le_of_ble_eq_true rfl⟩) X9 hD hS rfl (fun H locs hP hD hS => ?_)
  refine lv_aload_n hx hb d_Ke_enter_152 rfl (lv_at hl 0 rfl) ?_
  refine va_get (D := D) (ci := 4) (v := .ref (A 4)) (C := R_Ke) (T := T_Ke) (N := 5) hx hb hts wu_Ke hown hK hP 0 rfl rfl 3 (by decide) (hts _ wf_Ke_28) (fun _ h9 => h9) rfl d_Ke_enter_153 ?_
  refine lv_iload_n hx hb d_Ke_enter_156 rfl (lv_at hl 3 rfl) ?_
  obtain ⟨v21, e9, h⟩ := zo_b h
  refine ka_i (va_runV (As := [.int x3]) (rest := [.int v20, .int x4, .ref (A 2)]) S9 (c_Tg_labelOf l hl9 D A r _ u6 x3 _ e9) (cwV 1 hts (tg_V wl_Ke_85 wm_Tg_labelOf we_Tg_labelOf wi_Tg wo_Tg_labelOf) rfl rfl rfl wq_Tg_labelOf ⟨Nat.le_of_ble_eq_true rfl, Nat.le_of_ble_eq_true rfl⟩) (ka_preV X9 hP hD hS 4 rfl rfl) rfl rfl hl.1 rfl (lv_room (Nat.le_of_ble_eq_true rfl)) d_Ke_enter_157 ⟨Nat.le_of_ble_eq_true rfl, Nat.le_of_ble_eq_true rfl⟩) X9 hD hS rfl (fun H locs hP hD hS => ?_)
  obtain ⟨v22, e9, h⟩ := zo_b h
  refine ka_i (va_runV (As := [.int x4, .int v20, .int v21]) (rest := []) S9 (c_Lb_isJoinOf l hl9 D A r _ u6 x4 v20 v21 _ e9) (cwV 3 hts (tg_V wl_Ke_175 wm_Lb_isJoinOf we_Lb_isJoinOf wi_Lb wo_Lb_isJoinOf) rfl rfl rfl wq_Lb_isJoinOf ⟨Nat.le_of_ble_eq_true rfl, Nat.le_of_ble_eq_true rfl⟩) (ka_preV X9 hP hD hS 2 rfl rfl) rfl rfl hl.1 rfl (lv_room (Nat.le_of_ble_eq_true rfl)) d_Ke_enter_160 ⟨Nat.le_of_ble_eq_true rfl, Nat.le_of_ble_eq_true rfl⟩) X9 hD hS rfl (fun H locs hP hD hS => ?_)
  rcases zo_n h with ⟨c9, h⟩ | ⟨c9, h⟩
  · obtain ⟨rfl, rfl⟩ := zo_e h
    exact ka_err (vx_runS (As := [.int v22]) (rest := []) S9 (c_Ke_needAllowed_err l hl9 D A (GW A u6 r) _ v22 c9) (cwS 1 hts (tg_S wl_Ke_123 ws_Ke_needAllowed wi_Ke wo_Ke_needAllowed) rfl rfl rfl wq_Ke_needAllowed ⟨Nat.le_of_ble_eq_true rfl, Nat.le_of_ble_eq_true rfl⟩) (ka_preS X9 hP hD hS) rfl rfl hl.1 rfl (lv_room (Nat.le_of_ble_eq_true rfl)) d_Ke_enter_163 ⟨Nat.le_of_ble_eq_true rfl, Nat.le_of_ble_eq_true rfl⟩) hlk hex X9 hD hS (Nat.le_of_ble_eq_true rfl) (Nat.le_of_ble_eq_true rfl)
  refine ka_v (va_runS (As := [.int v22]) (rest := []) S9 (c_Ke_needAllowed_ok l hl9 D A (GW A u6 r) _ v22 c9) (cwS 1 hts (tg_S wl_Ke_123 ws_Ke_needAllowed wi_Ke wo_Ke_needAllowed) rfl rfl rfl wq_Ke_needAllowed ⟨Nat.le_of_ble_eq_true rfl, Nat.le_of_ble_eq_true rfl⟩) (ka_preS X9 hP hD hS) rfl rfl hl.1 rfl (lv_room (Nat.le_of_ble_eq_true rfl)) d_Ke_enter_163 ⟨Nat.le_of_ble_eq_true rfl, Nat.le_of_ble_eq_true rfl⟩) X9 hD hS rfl (fun H locs hP hD hS => ?_)
  refine lv_aload_n hx hb d_Ke_enter_166 rfl (lv_at hl 0 rfl) ?_
  refine va_get (D := D) (ci := 4) (v := .ref (A 2)) (C := R_Ke) (T := T_Ke) (N := 5) hx hb hts wu_Ke hown hK hP 0 rfl rfl 2 (by decide) (hts _ wf_Ke_23) (fun _ h9 => h9) rfl d_Ke_enter_167 ?_
  refine lv_iload hx hb d_Ke_enter_170 (lv_at hl 4 rfl) ?_
  refine lv_iload hx hb d_Ke_enter_172 (lv_at hl 5 rfl) ?_
  obtain ⟨v23, e9, h⟩ := zo_b h
  refine ka_i (va_runV (As := [.int x4, .int x5]) (rest := []) S9 (c_Lb_fitsUnder l hl9 D A r _ u6 x4 x5 _ e9) (cwV 2 hts (tg_V wl_Ke_74 wm_Lb_fitsUnder we_Lb_fitsUnder wi_Lb wo_Lb_fitsUnder) rfl rfl rfl wq_Lb_fitsUnder ⟨Nat.le_of_ble_eq_true rfl, Nat.le_of_ble_eq_true rfl⟩) (ka_preV X9 hP hD hS 2 rfl rfl) rfl rfl hl.1 rfl (lv_room (Nat.le_of_ble_eq_true rfl)) d_Ke_enter_174 ⟨Nat.le_of_ble_eq_true rfl, Nat.le_of_ble_eq_true rfl⟩) X9 hD hS rfl (fun H locs hP hD hS => ?_)
  rcases zo_n h with ⟨c9, h⟩ | ⟨c9, h⟩
  · obtain ⟨rfl, rfl⟩ := zo_e h
    exact ka_err (vx_runS (As := [.int v23]) (rest := []) S9 (c_Ke_needAllowed_err l hl9 D A (GW A u6 r) _ v23 c9) (cwS 1 hts (tg_S wl_Ke_123 ws_Ke_needAllowed wi_Ke wo_Ke_needAllowed) rfl rfl rfl wq_Ke_needAllowed ⟨Nat.le_of_ble_eq_true rfl, Nat.le_of_ble_eq_true rfl⟩) (ka_preS X9 hP hD hS) rfl rfl hl.1 rfl (lv_room (Nat.le_of_ble_eq_true rfl)) d_Ke_enter_177 ⟨Nat.le_of_ble_eq_true rfl, Nat.le_of_ble_eq_true rfl⟩) hlk hex X9 hD hS (Nat.le_of_ble_eq_true rfl) (Nat.le_of_ble_eq_true rfl)
  refine ka_v (va_runS (As := [.int v23]) (rest := []) S9 (c_Ke_needAllowed_ok l hl9 D A (GW A u6 r) _ v23 c9) (cwS 1 hts (tg_S wl_Ke_123 ws_Ke_needAllowed wi_Ke wo_Ke_needAllowed) rfl rfl rfl wq_Ke_needAllowed ⟨Nat.le_of_ble_eq_true rfl, Nat.le_of_ble_eq_true rfl⟩) (ka_preS X9 hP hD hS) rfl rfl hl.1 rfl (lv_room (Nat.le_of_ble_eq_true rfl)) d_Ke_enter_177 ⟨Nat.le_of_ble_eq_true rfl, Nat.le_of_ble_eq_true rfl⟩) X9 hD hS rfl (fun H locs hP hD hS => ?_)
  refine lv_aload_n hx hb d_Ke_enter_180 rfl (lv_at hl 0 rfl) ?_
  refine va_get (D := D) (ci := 4) (v := .ref (A 2)) (C := R_Ke) (T := T_Ke) (N := 5) hx hb hts wu_Ke hown hK hP 0 rfl rfl 2 (by decide) (hts _ wf_Ke_23) (fun _ h9 => h9) rfl d_Ke_enter_181 ?_
  refine lv_iload hx hb d_Ke_enter_184 (lv_at hl 5 rfl) ?_
  refine lv_aload_n hx hb d_Ke_enter_186 rfl (lv_at hl 0 rfl) ?_
  refine va_get (D := D) (ci := 4) (v := .ref (A 4)) (C := R_Ke) (T := T_Ke) (N := 5) hx hb hts wu_Ke hown hK hP 0 rfl rfl 3 (by decide) (hts _ wf_Ke_28) (fun _ h9 => h9) rfl d_Ke_enter_187 ?_
  refine lv_iload_n hx hb d_Ke_enter_190 rfl (lv_at hl 1 rfl) ?_
  obtain ⟨v24, e9, h⟩ := zo_b h
  refine ka_i (va_runV (As := [.int x1]) (rest := [.int x5, .ref (A 2)]) S9 (c_Tg_clearanceOf l hl9 D A r _ u6 x1 _ e9) (cwV 1 hts (tg_V wl_Ke_90 wm_Tg_clearanceOf we_Tg_clearanceOf wi_Tg wo_Tg_clearanceOf) rfl rfl rfl wq_Tg_clearanceOf ⟨Nat.le_of_ble_eq_true rfl, Nat.le_of_ble_eq_true rfl⟩) (ka_preV X9 hP hD hS 4 rfl rfl) rfl rfl hl.1 rfl (lv_room (Nat.le_of_ble_eq_true rfl)) d_Ke_enter_191 ⟨Nat.le_of_ble_eq_true rfl, Nat.le_of_ble_eq_true rfl⟩) X9 hD hS rfl (fun H locs hP hD hS => ?_)
  refine lv_aload_n hx hb d_Ke_enter_194 rfl (lv_at hl 0 rfl) ?_
  refine va_get (D := D) (ci := 4) (v := .ref (A 4)) (C := R_Ke) (T := T_Ke) (N := 5) hx hb hts wu_Ke hown hK hP 0 rfl rfl 3 (by decide) (hts _ wf_Ke_28) (fun _ h9 => h9) rfl d_Ke_enter_195 ?_
  refine lv_iload_n hx hb d_Ke_enter_198 rfl (lv_at hl 3 rfl) ?_
  obtain ⟨v25, e9, h⟩ := zo_b h
  refine ka_i (va_runV (As := [.int x3]) (rest := [.int v24, .int x5, .ref (A 2)]) S9 (c_Tg_clearanceOf l hl9 D A r _ u6 x3 _ e9) (cwV 1 hts (tg_V wl_Ke_90 wm_Tg_clearanceOf we_Tg_clearanceOf wi_Tg wo_Tg_clearanceOf) rfl rfl rfl wq_Tg_clearanceOf ⟨Nat.le_of_ble_eq_true rfl, Nat.le_of_ble_eq_true rfl⟩) (ka_preV X9 hP hD hS 4 rfl rfl) rfl rfl hl.1 rfl (lv_room (Nat.le_of_ble_eq_true rfl)) d_Ke_enter_199 ⟨Nat.le_of_ble_eq_true rfl, Nat.le_of_ble_eq_true rfl⟩) X9 hD hS rfl (fun H locs hP hD hS => ?_)
  obtain ⟨v26, e9, h⟩ := zo_b h
  refine ka_i (va_runV (As := [.int x5, .int v24, .int v25]) (rest := []) S9 (c_Lb_isNowhereAboveBoth l hl9 D A r _ u6 x5 v24 v25 _ e9) (cwV 3 hts (tg_V wl_Ke_178 wm_Lb_isNowhereAboveBoth we_Lb_isNowhereAboveBoth wi_Lb wo_Lb_isNowhereAboveBoth) rfl rfl rfl wq_Lb_isNowhereAboveBoth ⟨Nat.le_of_ble_eq_true rfl, Nat.le_of_ble_eq_true rfl⟩) (ka_preV X9 hP hD hS 2 rfl rfl) rfl rfl hl.1 rfl (lv_room (Nat.le_of_ble_eq_true rfl)) d_Ke_enter_202 ⟨Nat.le_of_ble_eq_true rfl, Nat.le_of_ble_eq_true rfl⟩) X9 hD hS rfl (fun H locs hP hD hS => ?_)
  rcases zo_n h with ⟨c9, h⟩ | ⟨c9, h⟩
  · obtain ⟨rfl, rfl⟩ := zo_e h
    exact ka_err (vx_runS (As := [.int v26]) (rest := []) S9 (c_Ke_needAllowed_err l hl9 D A (GW A u6 r) _ v26 c9) (cwS 1 hts (tg_S wl_Ke_123 ws_Ke_needAllowed wi_Ke wo_Ke_needAllowed) rfl rfl rfl wq_Ke_needAllowed ⟨Nat.le_of_ble_eq_true rfl, Nat.le_of_ble_eq_true rfl⟩) (ka_preS X9 hP hD hS) rfl rfl hl.1 rfl (lv_room (Nat.le_of_ble_eq_true rfl)) d_Ke_enter_205 ⟨Nat.le_of_ble_eq_true rfl, Nat.le_of_ble_eq_true rfl⟩) hlk hex X9 hD hS (Nat.le_of_ble_eq_true rfl) (Nat.le_of_ble_eq_true rfl)
  refine ka_v (va_runS (As := [.int v26]) (rest := []) S9 (c_Ke_needAllowed_ok l hl9 D A (GW A u6 r) _ v26 c9) (cwS 1 hts (tg_S wl_Ke_123 ws_Ke_needAllowed wi_Ke wo_Ke_needAllowed) rfl rfl rfl wq_Ke_needAllowed ⟨Nat.le_of_ble_eq_true rfl, Nat.le_of_ble_eq_true rfl⟩) (ka_preS X9 hP hD hS) rfl rfl hl.1 rfl (lv_room (Nat.le_of_ble_eq_true rfl)) d_Ke_enter_205 ⟨Nat.le_of_ble_eq_true rfl, Nat.le_of_ble_eq_true rfl⟩) X9 hD hS rfl (fun H locs hP hD hS => ?_)
  refine lv_aload_n hx hb d_Ke_enter_208 rfl (lv_at hl 0 rfl) ?_
  refine va_get (D := D) (ci := 4) (v := .ref (A 4)) (C := R_Ke) (T := T_Ke) (N := 5) hx hb hts wu_Ke hown hK hP 0 rfl rfl 3 (by decide) (hts _ wf_Ke_28) (fun _ h9 => h9) rfl d_Ke_enter_209 ?_
  refine lv_iload_n hx hb d_Ke_enter_212 rfl (lv_at hl 1 rfl) ?_
  refine lv_iload hx hb d_Ke_enter_213 (lv_at hl 4 rfl) ?_
  obtain ⟨v27, e9, h⟩ := zo_b h
  refine ka_v (va_runV (As := [.int x1, .int x4]) (rest := []) S9 (c_Tg_setLabel l hl9 D A r _ u6 x1 x4 _ e9) (cwV 2 hts (tg_V wl_Ke_93 wm_Tg_setLabel we_Tg_setLabel wi_Tg wo_Tg_setLabel) rfl rfl rfl wq_Tg_setLabel ⟨Nat.le_of_ble_eq_true rfl, Nat.le_of_ble_eq_true rfl⟩) (ka_preV X9 hP hD hS 4 rfl rfl) rfl rfl hl.1 rfl (lv_room (Nat.le_of_ble_eq_true rfl)) d_Ke_enter_215 ⟨Nat.le_of_ble_eq_true rfl, Nat.le_of_ble_eq_true rfl⟩) X9 hD hS rfl (fun H locs hP hD hS => ?_)
  refine lv_aload_n hx hb d_Ke_enter_218 rfl (lv_at hl 0 rfl) ?_
  refine va_get (D := D) (ci := 4) (v := .ref (A 4)) (C := R_Ke) (T := T_Ke) (N := 5) hx hb hts wu_Ke hown hK hP 0 rfl rfl 3 (by decide) (hts _ wf_Ke_28) (fun _ h9 => h9) rfl d_Ke_enter_219 ?_
  refine lv_iload_n hx hb d_Ke_enter_222 rfl (lv_at hl 1 rfl) ?_
  refine lv_iload hx hb d_Ke_enter_223 (lv_at hl 5 rfl) ?_
  obtain ⟨v28, e9, h⟩ := zo_b h
  refine ka_v (va_runV (As := [.int x1, .int x5]) (rest := []) S9 (c_Tg_setClearance l hl9 D A r _ v27 x1 x5 _ e9) (cwV 2 hts (tg_V wl_Ke_97 wm_Tg_setClearance we_Tg_setClearance wi_Tg wo_Tg_setClearance) rfl rfl rfl wq_Tg_setClearance ⟨Nat.le_of_ble_eq_true rfl, Nat.le_of_ble_eq_true rfl⟩) (ka_preV X9 hP hD hS 4 rfl rfl) rfl rfl hl.1 rfl (lv_room (Nat.le_of_ble_eq_true rfl)) d_Ke_enter_225 ⟨Nat.le_of_ble_eq_true rfl, Nat.le_of_ble_eq_true rfl⟩) X9 hD hS rfl (fun H locs hP hD hS => ?_)
  refine lv_aload_n hx hb d_Ke_enter_228 rfl (lv_at hl 0 rfl) ?_
  refine va_get (D := D) (ci := 4) (v := .ref (A 4)) (C := R_Ke) (T := T_Ke) (N := 5) hx hb hts wu_Ke hown hK hP 0 rfl rfl 3 (by decide) (hts _ wf_Ke_28) (fun _ h9 => h9) rfl d_Ke_enter_229 ?_
  refine lv_iload_n hx hb d_Ke_enter_232 rfl (lv_at hl 3 rfl) ?_
  obtain ⟨v29, e9, h⟩ := zo_b h
  refine ka_i (va_runV (As := [.int x3]) (rest := []) S9 (c_Tg_entryOf l hl9 D A r _ v28 x3 _ e9) (cwV 1 hts (tg_V wl_Ke_181 wm_Tg_entryOf we_Tg_entryOf wi_Tg wo_Tg_entryOf) rfl rfl rfl wq_Tg_entryOf ⟨Nat.le_of_ble_eq_true rfl, Nat.le_of_ble_eq_true rfl⟩) (ka_preV X9 hP hD hS 4 rfl rfl) rfl rfl hl.1 rfl (lv_room (Nat.le_of_ble_eq_true rfl)) d_Ke_enter_233 ⟨Nat.le_of_ble_eq_true rfl, Nat.le_of_ble_eq_true rfl⟩) X9 hD hS rfl (fun H locs hP hD hS => ?_)
  cases h
def f_Ke_user (σ : KS) (x1 x2 x3 : Int32) : Option (Except Nat Int32 × KS) := (f_Ke_isBetween x2 0 3).bind fun v1 => if v1 = 0 then (some (.error 1, σ)) else ((f_Us_isThere σ x2).bind fun v3 => if v3 = 0 then (zx (f_Ke_category σ x1) fun v5 u6 => zx (f_Ke_category u6 x1) fun v7 u8 => zx (f_Ke_label u8 0 v5 3) fun v9 u10 => zx (f_Ke_label u10 v9 v7 0) fun v11 u12 => zx (f_Ke_container u12 x1 1 v11 40) fun v13 u14 => zx (f_Ke_segment u14 x1 v13 v11 4) fun v15 u16 => zx (f_Ke_label u16 0 v5 4) fun v17 u18 => zx (f_Ke_label u18 v17 v7 4) fun v19 u20 => zx (f_Ke_gate u20 x1 1 v19 1 x2) fun v21 u22 => (f_Us_setCategories u22 x2 v5 v7).bind fun v23 => (f_Us_setObjects v23 x2 v13 v15 v21).bind fun v24 => (f_Us_add v24 x2 x3).bind fun v25 => some (.ok v13, v25)) else (some (.error 1, σ)))
set_option maxRecDepth 100000 in
set_option maxHeartbeats 4000000 in
theorem c_Ke_user_ok (l : Launch) (hl9 : l.stackTraces = false) (D : va_G) (A : Nat → Nat) (r : va_W) (sz : Nat) (σ : KS) (x1 x2 x3 : Int32) (z9 : Int32) (z : KS) (h : f_Ke_user σ x1 x2 x3 = some (.ok z9, z)) : Met l y_Ke_user (Cond.code y_Ke_user b_Ke_user 11 (some .int) :: T0) ({ frames := 6, cells := 0, slots := 0, locals := 138 } : Room) (va_Pc [.ref (A 0), .int x1, .int x2, .int x3] (ka_Wd D A (GW A σ r) sz)) (ka_Ri D z9 (GW A z r) (va_A (GW A σ r) sz)) 0 0 (va_A (GW A σ r) sz) := by
  unfold f_Ke_user at h
  refine ka_of (own := R_Ke) (fun A9 => ka_Ri D z9 (GW A z r) A9) (by decide) rfl (Nat.le_of_ble_eq_true rfl) ?_
  intro p e s m below meth c A9 ls S9 hr hlk hex X9 hP hD hl
  obtain ⟨hx, hb, hml, hown, hts⟩ := id S9
  have hK := X9.2.1
  have hS : va_S A9 s.heap s.heap [] := va_S.rf
  replace hl : lv_has ls 11 [(0, .ref (A 0)), (1, .int x1), (2, .int x2), (3, .int x3)] := hl
  refine lv_iload_n hx hb d_Ke_user_0 rfl (lv_at hl 2 rfl) ?_
  refine lv_iconst (v := 0) hx hb d_Ke_user_1 (by decide) ?_
  refine lv_iconst (v := 3) hx hb d_Ke_user_2 (by decide) ?_
  obtain ⟨v1, e9, h⟩ := zo_b h
  refine ka_i (va_runS (As := [.int x2, .int 0, .int 3]) (rest := []) S9 (c_Ke_isBetween l hl9 D A (GW A σ r) _ x2 0 3 _ e9) (cwS 3 hts (tg_S wl_Ke_40 ws_Ke_isBetween wi_Ke wo_Ke_isBetween) rfl rfl rfl wq_Ke_isBetween ⟨Nat.le_of_ble_eq_true rfl, Nat.le_of_ble_eq_true rfl⟩) (ka_preS X9 hP hD hS) rfl rfl hl.1 rfl (lv_room (Nat.le_of_ble_eq_true rfl)) d_Ke_user_3 ⟨Nat.le_of_ble_eq_true rfl, Nat.le_of_ble_eq_true rfl⟩) X9 hD hS rfl (fun H locs hP hD hS => ?_)
  refine lv_if_eq (tgt := 24) hx hb d_Ke_user_6 (by decide) (fun c2 => ?_) (fun c2 => ?_)
  · replace h := zo_t c2 h
    refine lv_iconst (v := 0) hx hb d_Ke_user_24 (by decide) ?_
    cases h
  replace h := zo_f c2 h
  refine lv_aload_n hx hb d_Ke_user_9 rfl (lv_at hl 0 rfl) ?_
  refine va_get (D := D) (ci := 4) (v := .ref (A 16)) (C := R_Ke) (T := T_Ke) (N := 5) hx hb hts wu_Ke hown hK hP 0 rfl rfl 4 (by decide) (hts _ wf_Ke_33) (fun _ h9 => h9) rfl d_Ke_user_10 ?_
  refine lv_iload_n hx hb d_Ke_user_13 rfl (lv_at hl 2 rfl) ?_
  obtain ⟨v3, e9, h⟩ := zo_b h
  refine ka_i (va_runV (As := [.int x2]) (rest := []) S9 (c_Us_isThere l hl9 D A r _ σ x2 _ e9) (cwV 1 hts (tg_V wl_Ke_184 wm_Us_isThere we_Us_isThere wi_Us wo_Us_isThere) rfl rfl rfl wq_Us_isThere ⟨Nat.le_of_ble_eq_true rfl, Nat.le_of_ble_eq_true rfl⟩) (ka_preV X9 hP hD hS 16 rfl rfl) rfl rfl hl.1 rfl (lv_room (Nat.le_of_ble_eq_true rfl)) d_Ke_user_14 ⟨Nat.le_of_ble_eq_true rfl, Nat.le_of_ble_eq_true rfl⟩) X9 hD hS rfl (fun H locs hP hD hS => ?_)
  refine lv_if_ne (tgt := 24) hx hb d_Ke_user_17 (by decide) (fun c4 => ?_) (fun c4 => ?_)
  · replace h := zo_f c4 h
    refine lv_iconst (v := 0) hx hb d_Ke_user_24 (by decide) ?_
    cases h
  replace h := zo_t c4 h
  refine lv_iconst (v := 1) hx hb d_Ke_user_20 (by decide) ?_
  refine lv_goto (tgt := 25) hx hb d_Ke_user_21 (by decide) ?_
  refine ka_v (va_runS (As := [.int 1]) (rest := []) S9 (c_Ke_needNumber_ok l hl9 D A (GW A σ r) _ 1 (by decide)) (cwS 1 hts (tg_S wl_Ke_44 ws_Ke_needNumber wi_Ke wo_Ke_needNumber) rfl rfl rfl wq_Ke_needNumber ⟨Nat.le_of_ble_eq_true rfl, Nat.le_of_ble_eq_true rfl⟩) (ka_preS X9 hP hD hS) rfl rfl hl.1 rfl (lv_room (Nat.le_of_ble_eq_true rfl)) d_Ke_user_25 ⟨Nat.le_of_ble_eq_true rfl, Nat.le_of_ble_eq_true rfl⟩) X9 hD hS rfl (fun H locs hP hD hS => ?_)
  refine lv_aload_n hx hb d_Ke_user_28 rfl (lv_at hl 0 rfl) ?_
  refine lv_iload_n hx hb d_Ke_user_29 rfl (lv_at hl 1 rfl) ?_
  rcases zo_x h with ⟨k9, u6, e9, h⟩ | ⟨v5, u6, e9, h⟩
  · cases h
  refine ka_i (va_runV (As := [.int x1]) (rest := []) S9 (c_Ke_category_ok l hl9 D A r _ σ x1 _ _ e9) (cwV 1 hts (tg_V wl_Ke_189 wm_Ke_category we_Ke_category wi_Ke wo_Ke_category) rfl rfl rfl wq_Ke_category ⟨Nat.le_of_ble_eq_true rfl, Nat.le_of_ble_eq_true rfl⟩) (ka_preV X9 hP hD hS 0 rfl rfl) rfl rfl hl.1 rfl (lv_room (Nat.le_of_ble_eq_true rfl)) d_Ke_user_30 ⟨Nat.le_of_ble_eq_true rfl, Nat.le_of_ble_eq_true rfl⟩) X9 hD hS rfl (fun H locs hP hD hS => ?_)
  refine lv_istore (lv' := [(4, .int v5), (0, .ref (A 0)), (1, .int x1), (2, .int x2), (3, .int x3)]) hx hb d_Ke_user_33 hl (by decide) rfl (fun ls hl => ?_)
  refine lv_aload_n hx hb d_Ke_user_35 rfl (lv_at hl 1 rfl) ?_
  refine lv_iload_n hx hb d_Ke_user_36 rfl (lv_at hl 2 rfl) ?_
  rcases zo_x h with ⟨k9, u8, e9, h⟩ | ⟨v7, u8, e9, h⟩
  · cases h
  refine ka_i (va_runV (As := [.int x1]) (rest := []) S9 (c_Ke_category_ok l hl9 D A r _ u6 x1 _ _ e9) (cwV 1 hts (tg_V wl_Ke_189 wm_Ke_category we_Ke_category wi_Ke wo_Ke_category) rfl rfl rfl wq_Ke_category ⟨Nat.le_of_ble_eq_true rfl, Nat.le_of_ble_eq_true rfl⟩) (ka_preV X9 hP hD hS 0 rfl rfl) rfl rfl hl.1 rfl (lv_room (Nat.le_of_ble_eq_true rfl)) d_Ke_user_37 ⟨Nat.le_of_ble_eq_true rfl, Nat.le_of_ble_eq_true rfl⟩) X9 hD hS rfl (fun H locs hP hD hS => ?_)
  refine lv_istore (lv' := [(5, .int v7), (4, .int v5), (0, .ref (A 0)), (1, .int x1), (2, .int x2), (3, .int x3)]) hx hb d_Ke_user_40 hl (by decide) rfl (fun ls hl => ?_)
  refine lv_aload_n hx hb d_Ke_user_42 rfl (lv_at hl 2 rfl) ?_
  refine lv_aload_n hx hb d_Ke_user_43 rfl (lv_at hl 2 rfl) ?_
  refine lv_iconst (v := 0) hx hb d_Ke_user_44 (by decide) ?_
  refine lv_iload hx hb d_Ke_user_45 (lv_at hl 1 rfl) ?_
  refine lv_iconst (v := 3) hx hb d_Ke_user_47 (by decide) ?_
  rcases zo_x h with ⟨k9, u10, e9, h⟩ | ⟨v9, u10, e9, h⟩
  · cases h
  refine ka_i (va_runV (As := [.int 0, .int v5, .int 3]) (rest := [.ref (A 0)]) S9 (c_Ke_label_ok l hl9 D A r _ u8 0 v5 3 _ _ e9) (cwV 3 hts (tg_V wl_Ke_192 wm_Ke_label we_Ke_label wi_Ke wo_Ke_label) rfl rfl rfl wq_Ke_label ⟨Nat.le_of_ble_eq_true rfl, Nat.le_of_ble_eq_true rfl⟩) (ka_preV X9 hP hD hS 0 rfl rfl) rfl rfl hl.1 rfl (lv_room (Nat.le_of_ble_eq_true rfl)) d_Ke_user_48 ⟨Nat.le_of_ble_eq_true rfl, Nat.le_of_ble_eq_true rfl⟩) X9 hD hS rfl (fun H locs hP hD hS => ?_)
  refine lv_iload hx hb d_Ke_user_51 (lv_at hl 0 rfl) ?_
  refine lv_iconst (v := 0) hx hb d_Ke_user_53 (by decide) ?_
  rcases zo_x h with ⟨k9, u12, e9, h⟩ | ⟨v11, u12, e9, h⟩
  · cases h
  refine ka_i (va_runV (As := [.int v9, .int v7, .int 0]) (rest := []) S9 (c_Ke_label_ok l hl9 D A r _ u10 v9 v7 0 _ _ e9) (cwV 3 hts (tg_V wl_Ke_192 wm_Ke_label we_Ke_label wi_Ke wo_Ke_label) rfl rfl rfl wq_Ke_label ⟨Nat.le_of_ble_eq_true rfl, Nat.le_of_ble_eq_true rfl⟩) (ka_preV X9 hP hD hS 0 rfl rfl) rfl rfl hl.1 rfl (lv_room (Nat.le_of_ble_eq_true rfl)) d_Ke_user_54 ⟨Nat.le_of_ble_eq_true rfl, Nat.le_of_ble_eq_true rfl⟩) X9 hD hS rfl (fun H locs hP hD hS => ?_)
  refine lv_istore (lv' := [(6, .int v11), (5, .int v7), (4, .int v5), (0, .ref (A 0)), (1, .int x1), (2, .int x2), (3, .int x3)]) hx hb d_Ke_user_57 hl (by decide) rfl (fun ls hl => ?_)
  refine lv_aload_n hx hb d_Ke_user_59 rfl (lv_at hl 3 rfl) ?_
  refine lv_iload_n hx hb d_Ke_user_60 rfl (lv_at hl 4 rfl) ?_
  refine lv_iconst (v := 1) hx hb d_Ke_user_61 (by decide) ?_
  refine lv_iload hx hb d_Ke_user_62 (lv_at hl 0 rfl) ?_
  refine lv_bipush (v := 40) hx hb d_Ke_user_64 (by decide) ?_
  rcases zo_x h with ⟨k9, u14, e9, h⟩ | ⟨v13, u14, e9, h⟩
  · cases h
  refine ka_i (va_runV (As := [.int x1, .int 1, .int v11, .int 40]) (rest := []) S9 (c_Ke_container_ok l hl9 D A r _ u12 x1 1 v11 40 _ _ e9) (cwV 4 hts (tg_V wl_Ke_195 wm_Ke_container we_Ke_container wi_Ke wo_Ke_container) rfl rfl rfl wq_Ke_container ⟨Nat.le_of_ble_eq_true rfl, Nat.le_of_ble_eq_true rfl⟩) (ka_preV X9 hP hD hS 0 rfl rfl) rfl rfl hl.1 rfl (lv_room (Nat.le_of_ble_eq_true rfl)) d_Ke_user_66 ⟨Nat.le_of_ble_eq_true rfl, Nat.le_of_ble_eq_true rfl⟩) X9 hD hS rfl (fun H locs hP hD hS => ?_)
  refine lv_istore (lv' := [(7, .int v13), (6, .int v11), (5, .int v7), (4, .int v5), (0, .ref (A 0)), (1, .int x1), (2, .int x2), (3, .int x3)]) hx hb d_Ke_user_69 hl (by decide) rfl (fun ls hl => ?_)
  refine lv_aload_n hx hb d_Ke_user_71 rfl (lv_at hl 4 rfl) ?_
  refine lv_iload_n hx hb d_Ke_user_72 rfl (lv_at hl 5 rfl) ?_
  refine lv_iload hx hb d_Ke_user_73 (lv_at hl 0 rfl) ?_
  refine lv_iload hx hb d_Ke_user_75 (lv_at hl 1 rfl) ?_
  refine lv_iconst (v := 4) hx hb d_Ke_user_77 (by decide) ?_
  rcases zo_x h with ⟨k9, u16, e9, h⟩ | ⟨v15, u16, e9, h⟩
  · cases h
  refine ka_i (va_runV (As := [.int x1, .int v13, .int v11, .int 4]) (rest := []) S9 (c_Ke_segment_ok l hl9 D A r _ u14 x1 v13 v11 4 _ _ e9) (cwV 4 hts (tg_V wl_Ke_198 wm_Ke_segment we_Ke_segment wi_Ke wo_Ke_segment) rfl rfl rfl wq_Ke_segment ⟨Nat.le_of_ble_eq_true rfl, Nat.le_of_ble_eq_true rfl⟩) (ka_preV X9 hP hD hS 0 rfl rfl) rfl rfl hl.1 rfl (lv_room (Nat.le_of_ble_eq_true rfl)) d_Ke_user_78 ⟨Nat.le_of_ble_eq_true rfl, Nat.le_of_ble_eq_true rfl⟩) X9 hD hS rfl (fun H locs hP hD hS => ?_)
  refine lv_istore (lv' := [(8, .int v15), (7, .int v13), (6, .int v11), (5, .int v7), (4, .int v5), (0, .ref (A 0)), (1, .int x1), (2, .int x2), (3, .int x3)]) hx hb d_Ke_user_81 hl (by decide) rfl (fun ls hl => ?_)
  refine lv_aload_n hx hb d_Ke_user_83 rfl (lv_at hl 5 rfl) ?_
  refine lv_aload_n hx hb d_Ke_user_84 rfl (lv_at hl 5 rfl) ?_
  refine lv_iconst (v := 0) hx hb d_Ke_user_85 (by decide) ?_
  refine lv_iload hx hb d_Ke_user_86 (lv_at hl 4 rfl) ?_
  refine lv_iconst (v := 4) hx hb d_Ke_user_88 (by decide) ?_
  rcases zo_x h with ⟨k9, u18, e9, h⟩ | ⟨v17, u18, e9, h⟩
  · cases h
  refine ka_i (va_runV (As := [.int 0, .int v5, .int 4]) (rest := [.ref (A 0)]) S9 (c_Ke_label_ok l hl9 D A r _ u16 0 v5 4 _ _ e9) (cwV 3 hts (tg_V wl_Ke_192 wm_Ke_label we_Ke_label wi_Ke wo_Ke_label) rfl rfl rfl wq_Ke_label ⟨Nat.le_of_ble_eq_true rfl, Nat.le_of_ble_eq_true rfl⟩) (ka_preV X9 hP hD hS 0 rfl rfl) rfl rfl hl.1 rfl (lv_room (Nat.le_of_ble_eq_true rfl)) d_Ke_user_89 ⟨Nat.le_of_ble_eq_true rfl, Nat.le_of_ble_eq_true rfl⟩) X9 hD hS rfl (fun H locs hP hD hS => ?_)
  refine lv_iload hx hb d_Ke_user_92 (lv_at hl 3 rfl) ?_
  refine lv_iconst (v := 4) hx hb d_Ke_user_94 (by decide) ?_
  rcases zo_x h with ⟨k9, u20, e9, h⟩ | ⟨v19, u20, e9, h⟩
  · cases h
  refine ka_i (va_runV (As := [.int v17, .int v7, .int 4]) (rest := []) S9 (c_Ke_label_ok l hl9 D A r _ u18 v17 v7 4 _ _ e9) (cwV 3 hts (tg_V wl_Ke_192 wm_Ke_label we_Ke_label wi_Ke wo_Ke_label) rfl rfl rfl wq_Ke_label ⟨Nat.le_of_ble_eq_true rfl, Nat.le_of_ble_eq_true rfl⟩) (ka_preV X9 hP hD hS 0 rfl rfl) rfl rfl hl.1 rfl (lv_room (Nat.le_of_ble_eq_true rfl)) d_Ke_user_95 ⟨Nat.le_of_ble_eq_true rfl, Nat.le_of_ble_eq_true rfl⟩) X9 hD hS rfl (fun H locs hP hD hS => ?_)
  refine lv_istore (lv' := [(9, .int v19), (8, .int v15), (7, .int v13), (6, .int v11), (5, .int v7), (4, .int v5), (0, .ref (A 0)), (1, .int x1), (2, .int x2), (3, .int x3)]) hx hb d_Ke_user_98 hl (by decide) rfl (fun ls hl => ?_)
  refine lv_aload_n hx hb d_Ke_user_100 rfl (lv_at hl 6 rfl) ?_
  refine lv_iload_n hx hb d_Ke_user_101 rfl (lv_at hl 7 rfl) ?_
  refine lv_iconst (v := 1) hx hb d_Ke_user_102 (by decide) ?_
  refine lv_iload hx hb d_Ke_user_103 (lv_at hl 0 rfl) ?_
  refine lv_iconst (v := 1) hx hb d_Ke_user_105 (by decide) ?_
  refine lv_iload_n hx hb d_Ke_user_106 rfl (lv_at hl 8 rfl) ?_
  rcases zo_x h with ⟨k9, u22, e9, h⟩ | ⟨v21, u22, e9, h⟩
  · cases h
  refine ka_i (va_runV (As := [.int x1, .int 1, .int v19, .int 1, .int x2]) (rest := []) S9 (c_Ke_gate_ok l hl9 D A r _ u20 x1 1 v19 1 x2 _ _ e9) (cwV 5 hts (tg_V wl_Ke_201 wm_Ke_gate we_Ke_gate wi_Ke wo_Ke_gate) rfl rfl rfl wq_Ke_gate ⟨Nat.le_of_ble_eq_true rfl, Nat.le_of_ble_eq_true rfl⟩) (ka_preV X9 hP hD hS 0 rfl rfl) rfl rfl hl.1 rfl (lv_room (Nat.le_of_ble_eq_true rfl)) d_Ke_user_107 ⟨Nat.le_of_ble_eq_true rfl, Nat.le_of_ble_eq_true rfl⟩) X9 hD hS rfl (fun H locs hP hD hS => ?_)
  refine lv_istore (lv' := [(10, .int v21), (9, .int v19), (8, .int v15), (7, .int v13), (6, .int v11), (5, .int v7), (4, .int v5), (0, .ref (A 0)), (1, .int x1), (2, .int x2), (3, .int x3)]) hx hb d_Ke_user_110 hl (by decide) rfl (fun ls hl => ?_)
  refine lv_aload_n hx hb d_Ke_user_112 rfl (lv_at hl 7 rfl) ?_
  refine va_get (D := D) (ci := 4) (v := .ref (A 16)) (C := R_Ke) (T := T_Ke) (N := 5) hx hb hts wu_Ke hown hK hP 0 rfl rfl 4 (by decide) (hts _ wf_Ke_33) (fun _ h9 => h9) rfl d_Ke_user_113 ?_
  refine lv_iload_n hx hb d_Ke_user_116 rfl (lv_at hl 9 rfl) ?_
  refine lv_iload hx hb d_Ke_user_117 (lv_at hl 6 rfl) ?_
  refine lv_iload hx hb d_Ke_user_119 (lv_at hl 5 rfl) ?_
  obtain ⟨v23, e9, h⟩ := zo_b h
  refine ka_v (va_runV (As := [.int x2, .int v5, .int v7]) (rest := []) S9 (c_Us_setCategories l hl9 D A r _ u22 x2 v5 v7 _ e9) (cwV 3 hts (tg_V wl_Ke_205 wm_Us_setCategories we_Us_setCategories wi_Us wo_Us_setCategories) rfl rfl rfl wq_Us_setCategories ⟨Nat.le_of_ble_eq_true rfl, Nat.le_of_ble_eq_true rfl⟩) (ka_preV X9 hP hD hS 16 rfl rfl) rfl rfl hl.1 rfl (lv_room (Nat.le_of_ble_eq_true rfl)) d_Ke_user_121 ⟨Nat.le_of_ble_eq_true rfl, Nat.le_of_ble_eq_true rfl⟩) X9 hD hS rfl (fun H locs hP hD hS => ?_)
  refine lv_aload_n hx hb d_Ke_user_124 rfl (lv_at hl 7 rfl) ?_
  refine va_get (D := D) (ci := 4) (v := .ref (A 16)) (C := R_Ke) (T := T_Ke) (N := 5) hx hb hts wu_Ke hown hK hP 0 rfl rfl 4 (by decide) (hts _ wf_Ke_33) (fun _ h9 => h9) rfl d_Ke_user_125 ?_
  refine lv_iload_n hx hb d_Ke_user_128 rfl (lv_at hl 9 rfl) ?_
  refine lv_iload hx hb d_Ke_user_129 (lv_at hl 3 rfl) ?_
  refine lv_iload hx hb d_Ke_user_131 (lv_at hl 2 rfl) ?_
  refine lv_iload hx hb d_Ke_user_133 (lv_at hl 0 rfl) ?_
  obtain ⟨v24, e9, h⟩ := zo_b h
  refine ka_v (va_runV (As := [.int x2, .int v13, .int v15, .int v21]) (rest := []) S9 (c_Us_setObjects l hl9 D A r _ v23 x2 v13 v15 v21 _ e9) (cwV 4 hts (tg_V wl_Ke_208 wm_Us_setObjects we_Us_setObjects wi_Us wo_Us_setObjects) rfl rfl rfl wq_Us_setObjects ⟨Nat.le_of_ble_eq_true rfl, Nat.le_of_ble_eq_true rfl⟩) (ka_preV X9 hP hD hS 16 rfl rfl) rfl rfl hl.1 rfl (lv_room (Nat.le_of_ble_eq_true rfl)) d_Ke_user_135 ⟨Nat.le_of_ble_eq_true rfl, Nat.le_of_ble_eq_true rfl⟩) X9 hD hS rfl (fun H locs hP hD hS => ?_)
  refine lv_aload_n hx hb d_Ke_user_138 rfl (lv_at hl 7 rfl) ?_
  refine va_get (D := D) (ci := 4) (v := .ref (A 16)) (C := R_Ke) (T := T_Ke) (N := 5) hx hb hts wu_Ke hown hK hP 0 rfl rfl 4 (by decide) (hts _ wf_Ke_33) (fun _ h9 => h9) rfl d_Ke_user_139 ?_
  refine lv_iload_n hx hb d_Ke_user_142 rfl (lv_at hl 9 rfl) ?_
  refine lv_iload_n hx hb d_Ke_user_143 rfl (lv_at hl 10 rfl) ?_
  obtain ⟨v25, e9, h⟩ := zo_b h
  refine ka_v (va_runV (As := [.int x2, .int x3]) (rest := []) S9 (c_Us_add l hl9 D A r _ v24 x2 x3 _ e9) (cwV 2 hts (tg_V wl_Ke_211 wm_Us_add we_Us_add wi_Us wo_Us_add) rfl rfl rfl wq_Us_add ⟨Nat.le_of_ble_eq_true rfl, Nat.le_of_ble_eq_true rfl⟩) (ka_preV X9 hP hD hS 16 rfl rfl) rfl rfl hl.1 rfl (lv_room (Nat.le_of_ble_eq_true rfl)) d_Ke_user_144 ⟨Nat.le_of_ble_eq_true rfl, Nat.le_of_ble_eq_true rfl⟩) X9 hD hS rfl (fun H locs hP hD hS => ?_)
  refine lv_iload hx hb d_Ke_user_147 (lv_at hl 3 rfl) ?_
  cases h
  exact W.iret hx hb hr (fun t ht hW => ⟨⟨_, (), rfl, rfl, ka_at ht hP⟩, hS.F ht⟩) hS.2.2 d_Ke_user_149 hlk
set_option maxRecDepth 100000 in
set_option maxHeartbeats 4000000 in
theorem c_Ke_user_err (l : Launch) (hl9 : l.stackTraces = false) (D : va_G) (A : Nat → Nat) (r : va_W) (sz : Nat) (σ : KS) (x1 x2 x3 : Int32) (k9 : Nat) (z : KS) (h : f_Ke_user σ x1 x2 x3 = some (.error k9, z)) : vx_Met l y_Ke_user (Cond.code y_Ke_user b_Ke_user 11 (some .int) :: T0) ({ frames := 9, cells := 1, slots := 6, locals := 150 } : Room) (va_Pc [.ref (A 0), .int x1, .int x2, .int x3] (ka_Wd D A (GW A σ r) sz)) ka_No (ka_Xe D k9 (GW A z r) (va_A (GW A σ r) sz)) 1 6 (va_A (GW A σ r) sz) := by
  unfold f_Ke_user at h
  refine ka_ofX (own := R_Ke) (fun A9 => ka_Xe D k9 (GW A z r) A9) (by decide) rfl (Nat.le_of_ble_eq_true rfl) ?_
  intro p e s m below meth c A9 ls S9 hr hlk hex X9 hP hD hl
  obtain ⟨hx, hb, hml, hown, hts⟩ := id S9
  have hK := X9.2.1
  have hS : va_S A9 s.heap s.heap [] := va_S.rf
  replace hl : lv_has ls 11 [(0, .ref (A 0)), (1, .int x1), (2, .int x2), (3, .int x3)] := hl
  refine lv_iload_n hx hb d_Ke_user_0 rfl (lv_at hl 2 rfl) ?_
  refine lv_iconst (v := 0) hx hb d_Ke_user_1 (by decide) ?_
  refine lv_iconst (v := 3) hx hb d_Ke_user_2 (by decide) ?_
  obtain ⟨v1, e9, h⟩ := zo_b h
  refine ka_i (va_runS (As := [.int x2, .int 0, .int 3]) (rest := []) S9 (c_Ke_isBetween l hl9 D A (GW A σ r) _ x2 0 3 _ e9) (cwS 3 hts (tg_S wl_Ke_40 ws_Ke_isBetween wi_Ke wo_Ke_isBetween) rfl rfl rfl wq_Ke_isBetween ⟨Nat.le_of_ble_eq_true rfl, Nat.le_of_ble_eq_true rfl⟩) (ka_preS X9 hP hD hS) rfl rfl hl.1 rfl (lv_room (Nat.le_of_ble_eq_true rfl)) d_Ke_user_3 ⟨Nat.le_of_ble_eq_true rfl, Nat.le_of_ble_eq_true rfl⟩) X9 hD hS rfl (fun H locs hP hD hS => ?_)
  refine lv_if_eq (tgt := 24) hx hb d_Ke_user_6 (by decide) (fun c2 => ?_) (fun c2 => ?_)
  · replace h := zo_t c2 h
    refine lv_iconst (v := 0) hx hb d_Ke_user_24 (by decide) ?_
    obtain ⟨rfl, rfl⟩ := zo_e h
    exact ka_err (vx_runS (As := [.int 0]) (rest := []) S9 (c_Ke_needNumber_err l hl9 D A (GW A σ r) _ 0 rfl) (cwS 1 hts (tg_S wl_Ke_44 ws_Ke_needNumber wi_Ke wo_Ke_needNumber) rfl rfl rfl wq_Ke_needNumber ⟨Nat.le_of_ble_eq_true rfl, Nat.le_of_ble_eq_true rfl⟩) (ka_preS X9 hP hD hS) rfl rfl hl.1 rfl (lv_room (Nat.le_of_ble_eq_true rfl)) d_Ke_user_25 ⟨Nat.le_of_ble_eq_true rfl, Nat.le_of_ble_eq_true rfl⟩) hlk hex X9 hD hS (Nat.le_of_ble_eq_true rfl) (Nat.le_of_ble_eq_true rfl)
  replace h := zo_f c2 h
  refine lv_aload_n hx hb d_Ke_user_9 rfl (lv_at hl 0 rfl) ?_
  refine va_get (D := D) (ci := 4) (v := .ref (A 16)) (C := R_Ke) (T := T_Ke) (N := 5) hx hb hts wu_Ke hown hK hP 0 rfl rfl 4 (by decide) (hts _ wf_Ke_33) (fun _ h9 => h9) rfl d_Ke_user_10 ?_
  refine lv_iload_n hx hb d_Ke_user_13 rfl (lv_at hl 2 rfl) ?_
  obtain ⟨v3, e9, h⟩ := zo_b h
  refine ka_i (va_runV (As := [.int x2]) (rest := []) S9 (c_Us_isThere l hl9 D A r _ σ x2 _ e9) (cwV 1 hts (tg_V wl_Ke_184 wm_Us_isThere we_Us_isThere wi_Us wo_Us_isThere) rfl rfl rfl wq_Us_isThere ⟨Nat.le_of_ble_eq_true rfl, Nat.le_of_ble_eq_true rfl⟩) (ka_preV X9 hP hD hS 16 rfl rfl) rfl rfl hl.1 rfl (lv_room (Nat.le_of_ble_eq_true rfl)) d_Ke_user_14 ⟨Nat.le_of_ble_eq_true rfl, Nat.le_of_ble_eq_true rfl⟩) X9 hD hS rfl (fun H locs hP hD hS => ?_)
  refine lv_if_ne (tgt := 24) hx hb d_Ke_user_17 (by decide) (fun c4 => ?_) (fun c4 => ?_)
  · replace h := zo_f c4 h
    refine lv_iconst (v := 0) hx hb d_Ke_user_24 (by decide) ?_
    obtain ⟨rfl, rfl⟩ := zo_e h
    exact ka_err (vx_runS (As := [.int 0]) (rest := []) S9 (c_Ke_needNumber_err l hl9 D A (GW A σ r) _ 0 rfl) (cwS 1 hts (tg_S wl_Ke_44 ws_Ke_needNumber wi_Ke wo_Ke_needNumber) rfl rfl rfl wq_Ke_needNumber ⟨Nat.le_of_ble_eq_true rfl, Nat.le_of_ble_eq_true rfl⟩) (ka_preS X9 hP hD hS) rfl rfl hl.1 rfl (lv_room (Nat.le_of_ble_eq_true rfl)) d_Ke_user_25 ⟨Nat.le_of_ble_eq_true rfl, Nat.le_of_ble_eq_true rfl⟩) hlk hex X9 hD hS (Nat.le_of_ble_eq_true rfl) (Nat.le_of_ble_eq_true rfl)
  replace h := zo_t c4 h
  refine lv_iconst (v := 1) hx hb d_Ke_user_20 (by decide) ?_
  refine lv_goto (tgt := 25) hx hb d_Ke_user_21 (by decide) ?_
  refine ka_v (va_runS (As := [.int 1]) (rest := []) S9 (c_Ke_needNumber_ok l hl9 D A (GW A σ r) _ 1 (by decide)) (cwS 1 hts (tg_S wl_Ke_44 ws_Ke_needNumber wi_Ke wo_Ke_needNumber) rfl rfl rfl wq_Ke_needNumber ⟨Nat.le_of_ble_eq_true rfl, Nat.le_of_ble_eq_true rfl⟩) (ka_preS X9 hP hD hS) rfl rfl hl.1 rfl (lv_room (Nat.le_of_ble_eq_true rfl)) d_Ke_user_25 ⟨Nat.le_of_ble_eq_true rfl, Nat.le_of_ble_eq_true rfl⟩) X9 hD hS rfl (fun H locs hP hD hS => ?_)
  refine lv_aload_n hx hb d_Ke_user_28 rfl (lv_at hl 0 rfl) ?_
  refine lv_iload_n hx hb d_Ke_user_29 rfl (lv_at hl 1 rfl) ?_
  rcases zo_x h with ⟨k9, u6, e9, h⟩ | ⟨v5, u6, e9, h⟩
  · cases h
    exact ka_err (vx_runV (As := [.int x1]) (rest := []) S9 (c_Ke_category_err l hl9 D A r _ σ x1 _ _ e9) (cwV 1 hts (tg_V wl_Ke_189 wm_Ke_category we_Ke_category wi_Ke wo_Ke_category) rfl rfl rfl wq_Ke_category ⟨Nat.le_of_ble_eq_true rfl, Nat.le_of_ble_eq_true rfl⟩) (ka_preV X9 hP hD hS 0 rfl rfl) rfl rfl hl.1 rfl (lv_room (Nat.le_of_ble_eq_true rfl)) d_Ke_user_30 ⟨Nat.le_of_ble_eq_true rfl, Nat.le_of_ble_eq_true rfl⟩) hlk hex X9 hD hS (Nat.le_of_ble_eq_true rfl) (Nat.le_of_ble_eq_true rfl)
  refine ka_i (va_runV (As := [.int x1]) (rest := []) S9 (c_Ke_category_ok l hl9 D A r _ σ x1 _ _ e9) (cwV 1 hts (tg_V wl_Ke_189 wm_Ke_category we_Ke_category wi_Ke wo_Ke_category) rfl rfl rfl wq_Ke_category ⟨Nat.le_of_ble_eq_true rfl, Nat.le_of_ble_eq_true rfl⟩) (ka_preV X9 hP hD hS 0 rfl rfl) rfl rfl hl.1 rfl (lv_room (Nat.le_of_ble_eq_true rfl)) d_Ke_user_30 ⟨Nat.le_of_ble_eq_true rfl, Nat.le_of_ble_eq_true rfl⟩) X9 hD hS rfl (fun H locs hP hD hS => ?_)
  refine lv_istore (lv' := [(4, .int v5), (0, .ref (A 0)), (1, .int x1), (2, .int x2), (3, .int x3)]) hx hb d_Ke_user_33 hl (by decide) rfl (fun ls hl => ?_)
  refine lv_aload_n hx hb d_Ke_user_35 rfl (lv_at hl 1 rfl) ?_
  refine lv_iload_n hx hb d_Ke_user_36 rfl (lv_at hl 2 rfl) ?_
  rcases zo_x h with ⟨k9, u8, e9, h⟩ | ⟨v7, u8, e9, h⟩
  · cases h
    exact ka_err (vx_runV (As := [.int x1]) (rest := []) S9 (c_Ke_category_err l hl9 D A r _ u6 x1 _ _ e9) (cwV 1 hts (tg_V wl_Ke_189 wm_Ke_category we_Ke_category wi_Ke wo_Ke_category) rfl rfl rfl wq_Ke_category ⟨Nat.le_of_ble_eq_true rfl, Nat.le_of_ble_eq_true rfl⟩) (ka_preV X9 hP hD hS 0 rfl rfl) rfl rfl hl.1 rfl (lv_room (Nat.le_of_ble_eq_true rfl)) d_Ke_user_37 ⟨Nat.le_of_ble_eq_true rfl, Nat.le_of_ble_eq_true rfl⟩) hlk hex X9 hD hS (Nat.le_of_ble_eq_true rfl) (Nat.le_of_ble_eq_true rfl)
  refine ka_i (va_runV (As := [.int x1]) (rest := []) S9 (c_Ke_category_ok l hl9 D A r _ u6 x1 _ _ e9) (cwV 1 hts (tg_V wl_Ke_189 wm_Ke_category we_Ke_category wi_Ke wo_Ke_category) rfl rfl rfl wq_Ke_category ⟨Nat.le_of_ble_eq_true rfl, Nat.le_of_ble_eq_true rfl⟩) (ka_preV X9 hP hD hS 0 rfl rfl) rfl rfl hl.1 rfl (lv_room (Nat.le_of_ble_eq_true rfl)) d_Ke_user_37 ⟨Nat.le_of_ble_eq_true rfl, Nat.le_of_ble_eq_true rfl⟩) X9 hD hS rfl (fun H locs hP hD hS => ?_)
  refine lv_istore (lv' := [(5, .int v7), (4, .int v5), (0, .ref (A 0)), (1, .int x1), (2, .int x2), (3, .int x3)]) hx hb d_Ke_user_40 hl (by decide) rfl (fun ls hl => ?_)
  refine lv_aload_n hx hb d_Ke_user_42 rfl (lv_at hl 2 rfl) ?_
  refine lv_aload_n hx hb d_Ke_user_43 rfl (lv_at hl 2 rfl) ?_
  refine lv_iconst (v := 0) hx hb d_Ke_user_44 (by decide) ?_
  refine lv_iload hx hb d_Ke_user_45 (lv_at hl 1 rfl) ?_
  refine lv_iconst (v := 3) hx hb d_Ke_user_47 (by decide) ?_
  rcases zo_x h with ⟨k9, u10, e9, h⟩ | ⟨v9, u10, e9, h⟩
  · cases h
    exact ka_err (vx_runV (As := [.int 0, .int v5, .int 3]) (rest := [.ref (A 0)]) S9 (c_Ke_label_err l hl9 D A r _ u8 0 v5 3 _ _ e9) (cwV 3 hts (tg_V wl_Ke_192 wm_Ke_label we_Ke_label wi_Ke wo_Ke_label) rfl rfl rfl wq_Ke_label ⟨Nat.le_of_ble_eq_true rfl, Nat.le_of_ble_eq_true rfl⟩) (ka_preV X9 hP hD hS 0 rfl rfl) rfl rfl hl.1 rfl (lv_room (Nat.le_of_ble_eq_true rfl)) d_Ke_user_48 ⟨Nat.le_of_ble_eq_true rfl, Nat.le_of_ble_eq_true rfl⟩) hlk hex X9 hD hS (Nat.le_of_ble_eq_true rfl) (Nat.le_of_ble_eq_true rfl)
  refine ka_i (va_runV (As := [.int 0, .int v5, .int 3]) (rest := [.ref (A 0)]) S9 (c_Ke_label_ok l hl9 D A r _ u8 0 v5 3 _ _ e9) (cwV 3 hts (tg_V wl_Ke_192 wm_Ke_label we_Ke_label wi_Ke wo_Ke_label) rfl rfl rfl wq_Ke_label ⟨Nat.le_of_ble_eq_true rfl, Nat.le_of_ble_eq_true rfl⟩) (ka_preV X9 hP hD hS 0 rfl rfl) rfl rfl hl.1 rfl (lv_room (Nat.le_of_ble_eq_true rfl)) d_Ke_user_48 ⟨Nat.le_of_ble_eq_true rfl, Nat.le_of_ble_eq_true rfl⟩) X9 hD hS rfl (fun H locs hP hD hS => ?_)
  refine lv_iload hx hb d_Ke_user_51 (lv_at hl 0 rfl) ?_
  refine lv_iconst (v := 0) hx hb d_Ke_user_53 (by decide) ?_
  rcases zo_x h with ⟨k9, u12, e9, h⟩ | ⟨v11, u12, e9, h⟩
  · cases h
    exact ka_err (vx_runV (As := [.int v9, .int v7, .int 0]) (rest := []) S9 (c_Ke_label_err l hl9 D A r _ u10 v9 v7 0 _ _ e9) (cwV 3 hts (tg_V wl_Ke_192 wm_Ke_label we_Ke_label wi_Ke wo_Ke_label) rfl rfl rfl wq_Ke_label ⟨Nat.le_of_ble_eq_true rfl, Nat.le_of_ble_eq_true rfl⟩) (ka_preV X9 hP hD hS 0 rfl rfl) rfl rfl hl.1 rfl (lv_room (Nat.le_of_ble_eq_true rfl)) d_Ke_user_54 ⟨Nat.le_of_ble_eq_true rfl, Nat.le_of_ble_eq_true rfl⟩) hlk hex X9 hD hS (Nat.le_of_ble_eq_true rfl) (Nat.le_of_ble_eq_true rfl)
  refine ka_i (va_runV (As := [.int v9, .int v7, .int 0]) (rest := []) S9 (c_Ke_label_ok l hl9 D A r _ u10 v9 v7 0 _ _ e9) (cwV 3 hts (tg_V wl_Ke_192 wm_Ke_label we_Ke_label wi_Ke wo_Ke_label) rfl rfl rfl wq_Ke_label ⟨Nat.le_of_ble_eq_true rfl, Nat.le_of_ble_eq_true rfl⟩) (ka_preV X9 hP hD hS 0 rfl rfl) rfl rfl hl.1 rfl (lv_room (Nat.le_of_ble_eq_true rfl)) d_Ke_user_54 ⟨Nat.le_of_ble_eq_true rfl, Nat.le_of_ble_eq_true rfl⟩) X9 hD hS rfl (fun H locs hP hD hS => ?_)
  refine lv_istore (lv' := [(6, .int v11), (5, .int v7), (4, .int v5), (0, .ref (A 0)), (1, .int x1), (2, .int x2), (3, .int x3)]) hx hb d_Ke_user_57 hl (by decide) rfl (fun ls hl => ?_)
  refine lv_aload_n hx hb d_Ke_user_59 rfl (lv_at hl 3 rfl) ?_
  refine lv_iload_n hx hb d_Ke_user_60 rfl (lv_at hl 4 rfl) ?_
  refine lv_iconst (v := 1) hx hb d_Ke_user_61 (by decide) ?_
  refine lv_iload hx hb d_Ke_user_62 (lv_at hl 0 rfl) ?_
  refine lv_bipush (v := 40) hx hb d_Ke_user_64 (by decide) ?_
  rcases zo_x h with ⟨k9, u14, e9, h⟩ | ⟨v13, u14, e9, h⟩
  · cases h
    exact ka_err (vx_runV (As := [.int x1, .int 1, .int v11, .int 40]) (rest := []) S9 (c_Ke_container_err l hl9 D A r _ u12 x1 1 v11 40 _ _ e9) (cwV 4 hts (tg_V wl_Ke_195 wm_Ke_container we_Ke_container wi_Ke wo_Ke_container) rfl rfl rfl wq_Ke_container ⟨Nat.le_of_ble_eq_true rfl, Nat.le_of_ble_eq_true rfl⟩) (ka_preV X9 hP hD hS 0 rfl rfl) rfl rfl hl.1 rfl (lv_room (Nat.le_of_ble_eq_true rfl)) d_Ke_user_66 ⟨Nat.le_of_ble_eq_true rfl, Nat.le_of_ble_eq_true rfl⟩) hlk hex X9 hD hS (Nat.le_of_ble_eq_true rfl) (Nat.le_of_ble_eq_true rfl)
  refine ka_i (va_runV (As := [.int x1, .int 1, .int v11, .int 40]) (rest := []) S9 (c_Ke_container_ok l hl9 D A r _ u12 x1 1 v11 40 _ _ e9) (cwV 4 hts (tg_V wl_Ke_195 wm_Ke_container we_Ke_container wi_Ke wo_Ke_container) rfl rfl rfl wq_Ke_container ⟨Nat.le_of_ble_eq_true rfl, Nat.le_of_ble_eq_true rfl⟩) (ka_preV X9 hP hD hS 0 rfl rfl) rfl rfl hl.1 rfl (lv_room (Nat.le_of_ble_eq_true rfl)) d_Ke_user_66 ⟨Nat.le_of_ble_eq_true rfl, Nat.le_of_ble_eq_true rfl⟩) X9 hD hS rfl (fun H locs hP hD hS => ?_)
  refine lv_istore (lv' := [(7, .int v13), (6, .int v11), (5, .int v7), (4, .int v5), (0, .ref (A 0)), (1, .int x1), (2, .int x2), (3, .int x3)]) hx hb d_Ke_user_69 hl (by decide) rfl (fun ls hl => ?_)
  refine lv_aload_n hx hb d_Ke_user_71 rfl (lv_at hl 4 rfl) ?_
  refine lv_iload_n hx hb d_Ke_user_72 rfl (lv_at hl 5 rfl) ?_
  refine lv_iload hx hb d_Ke_user_73 (lv_at hl 0 rfl) ?_
  refine lv_iload hx hb d_Ke_user_75 (lv_at hl 1 rfl) ?_
  refine lv_iconst (v := 4) hx hb d_Ke_user_77 (by decide) ?_
  rcases zo_x h with ⟨k9, u16, e9, h⟩ | ⟨v15, u16, e9, h⟩
  · cases h
    exact ka_err (vx_runV (As := [.int x1, .int v13, .int v11, .int 4]) (rest := []) S9 (c_Ke_segment_err l hl9 D A r _ u14 x1 v13 v11 4 _ _ e9) (cwV 4 hts (tg_V wl_Ke_198 wm_Ke_segment we_Ke_segment wi_Ke wo_Ke_segment) rfl rfl rfl wq_Ke_segment ⟨Nat.le_of_ble_eq_true rfl, Nat.le_of_ble_eq_true rfl⟩) (ka_preV X9 hP hD hS 0 rfl rfl) rfl rfl hl.1 rfl (lv_room (Nat.le_of_ble_eq_true rfl)) d_Ke_user_78 ⟨Nat.le_of_ble_eq_true rfl, Nat.le_of_ble_eq_true rfl⟩) hlk hex X9 hD hS (Nat.le_of_ble_eq_true rfl) (Nat.le_of_ble_eq_true rfl)
  refine ka_i (va_runV (As := [.int x1, .int v13, .int v11, .int 4]) (rest := []) S9 (c_Ke_segment_ok l hl9 D A r _ u14 x1 v13 v11 4 _ _ e9) (cwV 4 hts (tg_V wl_Ke_198 wm_Ke_segment we_Ke_segment wi_Ke wo_Ke_segment) rfl rfl rfl wq_Ke_segment ⟨Nat.le_of_ble_eq_true rfl, Nat.le_of_ble_eq_true rfl⟩) (ka_preV X9 hP hD hS 0 rfl rfl) rfl rfl hl.1 rfl (lv_room (Nat.le_of_ble_eq_true rfl)) d_Ke_user_78 ⟨Nat.le_of_ble_eq_true rfl, Nat.le_of_ble_eq_true rfl⟩) X9 hD hS rfl (fun H locs hP hD hS => ?_)
  refine lv_istore (lv' := [(8, .int v15), (7, .int v13), (6, .int v11), (5, .int v7), (4, .int v5), (0, .ref (A 0)), (1, .int x1), (2, .int x2), (3, .int x3)]) hx hb d_Ke_user_81 hl (by decide) rfl (fun ls hl => ?_)
  refine lv_aload_n hx hb d_Ke_user_83 rfl (lv_at hl 5 rfl) ?_
  refine lv_aload_n hx hb d_Ke_user_84 rfl (lv_at hl 5 rfl) ?_
  refine lv_iconst (v := 0) hx hb d_Ke_user_85 (by decide) ?_
  refine lv_iload hx hb d_Ke_user_86 (lv_at hl 4 rfl) ?_
  refine lv_iconst (v := 4) hx hb d_Ke_user_88 (by decide) ?_
  rcases zo_x h with ⟨k9, u18, e9, h⟩ | ⟨v17, u18, e9, h⟩
  · cases h
    exact ka_err (vx_runV (As := [.int 0, .int v5, .int 4]) (rest := [.ref (A 0)]) S9 (c_Ke_label_err l hl9 D A r _ u16 0 v5 4 _ _ e9) (cwV 3 hts (tg_V wl_Ke_192 wm_Ke_label we_Ke_label wi_Ke wo_Ke_label) rfl rfl rfl wq_Ke_label ⟨Nat.le_of_ble_eq_true rfl, Nat.le_of_ble_eq_true rfl⟩) (ka_preV X9 hP hD hS 0 rfl rfl) rfl rfl hl.1 rfl (lv_room (Nat.le_of_ble_eq_true rfl)) d_Ke_user_89 ⟨Nat.le_of_ble_eq_true rfl, Nat.le_of_ble_eq_true rfl⟩) hlk hex X9 hD hS (Nat.le_of_ble_eq_true rfl) (Nat.le_of_ble_eq_true rfl)
  refine ka_i (va_runV (As := [.int 0, .int v5, .int 4]) (rest := [.ref (A 0)]) S9 (c_Ke_label_ok l hl9 D A r _ u16 0 v5 4 _ _ e9) (cwV 3 hts (tg_V wl_Ke_192 wm_Ke_label we_Ke_label wi_Ke wo_Ke_label) rfl rfl rfl wq_Ke_label ⟨Nat.le_of_ble_eq_true rfl, Nat.le_of_ble_eq_true rfl⟩) (ka_preV X9 hP hD hS 0 rfl rfl) rfl rfl hl.1 rfl (lv_room (Nat.le_of_ble_eq_true rfl)) d_Ke_user_89 ⟨Nat.le_of_ble_eq_true rfl, Nat.le_of_ble_eq_true rfl⟩) X9 hD hS rfl (fun H locs hP hD hS => ?_)
  refine lv_iload hx hb d_Ke_user_92 (lv_at hl 3 rfl) ?_
  refine lv_iconst (v := 4) hx hb d_Ke_user_94 (by decide) ?_
  rcases zo_x h with ⟨k9, u20, e9, h⟩ | ⟨v19, u20, e9, h⟩
  · cases h
    exact ka_err (vx_runV (As := [.int v17, .int v7, .int 4]) (rest := []) S9 (c_Ke_label_err l hl9 D A r _ u18 v17 v7 4 _ _ e9) (cwV 3 hts (tg_V wl_Ke_192 wm_Ke_label we_Ke_label wi_Ke wo_Ke_label) rfl rfl rfl wq_Ke_label ⟨Nat.le_of_ble_eq_true rfl, Nat.le_of_ble_eq_true rfl⟩) (ka_preV X9 hP hD hS 0 rfl rfl) rfl rfl hl.1 rfl (lv_room (Nat.le_of_ble_eq_true rfl)) d_Ke_user_95 ⟨Nat.le_of_ble_eq_true rfl, Nat.le_of_ble_eq_true rfl⟩) hlk hex X9 hD hS (Nat.le_of_ble_eq_true rfl) (Nat.le_of_ble_eq_true rfl)
  refine ka_i (va_runV (As := [.int v17, .int v7, .int 4]) (rest := []) S9 (c_Ke_label_ok l hl9 D A r _ u18 v17 v7 4 _ _ e9) (cwV 3 hts (tg_V wl_Ke_192 wm_Ke_label we_Ke_label wi_Ke wo_Ke_label) rfl rfl rfl wq_Ke_label ⟨Nat.le_of_ble_eq_true rfl, Nat.le_of_ble_eq_true rfl⟩) (ka_preV X9 hP hD hS 0 rfl rfl) rfl rfl hl.1 rfl (lv_room (Nat.le_of_ble_eq_true rfl)) d_Ke_user_95 ⟨Nat.le_of_ble_eq_true rfl, Nat.le_of_ble_eq_true rfl⟩) X9 hD hS rfl (fun H locs hP hD hS => ?_)
  refine lv_istore (lv' := [(9, .int v19), (8, .int v15), (7, .int v13), (6, .int v11), (5, .int v7), (4, .int v5), (0, .ref (A 0)), (1, .int x1), (2, .int x2), (3, .int x3)]) hx hb d_Ke_user_98 hl (by decide) rfl (fun ls hl => ?_)
  refine lv_aload_n hx hb d_Ke_user_100 rfl (lv_at hl 6 rfl) ?_
  refine lv_iload_n hx hb d_Ke_user_101 rfl (lv_at hl 7 rfl) ?_
  refine lv_iconst (v := 1) hx hb d_Ke_user_102 (by decide) ?_
  refine lv_iload hx hb d_Ke_user_103 (lv_at hl 0 rfl) ?_
  refine lv_iconst (v := 1) hx hb d_Ke_user_105 (by decide) ?_
  refine lv_iload_n hx hb d_Ke_user_106 rfl (lv_at hl 8 rfl) ?_
  rcases zo_x h with ⟨k9, u22, e9, h⟩ | ⟨v21, u22, e9, h⟩
  · cases h
    exact ka_err (vx_runV (As := [.int x1, .int 1, .int v19, .int 1, .int x2]) (rest := []) S9 (c_Ke_gate_err l hl9 D A r _ u20 x1 1 v19 1 x2 _ _ e9) (cwV 5 hts (tg_V wl_Ke_201 wm_Ke_gate we_Ke_gate wi_Ke wo_Ke_gate) rfl rfl rfl wq_Ke_gate ⟨Nat.le_of_ble_eq_true rfl, Nat.le_of_ble_eq_true rfl⟩) (ka_preV X9 hP hD hS 0 rfl rfl) rfl rfl hl.1 rfl (lv_room (Nat.le_of_ble_eq_true rfl)) d_Ke_user_107 ⟨Nat.le_of_ble_eq_true rfl, Nat.le_of_ble_eq_true rfl⟩) hlk hex X9 hD hS (Nat.le_of_ble_eq_true rfl) (Nat.le_of_ble_eq_true rfl)
  refine ka_i (va_runV (As := [.int x1, .int 1, .int v19, .int 1, .int x2]) (rest := []) S9 (c_Ke_gate_ok l hl9 D A r _ u20 x1 1 v19 1 x2 _ _ e9) (cwV 5 hts (tg_V wl_Ke_201 wm_Ke_gate we_Ke_gate wi_Ke wo_Ke_gate) rfl rfl rfl wq_Ke_gate ⟨Nat.le_of_ble_eq_true rfl, Nat.le_of_ble_eq_true rfl⟩) (ka_preV X9 hP hD hS 0 rfl rfl) rfl rfl hl.1 rfl (lv_room (Nat.le_of_ble_eq_true rfl)) d_Ke_user_107 ⟨Nat.le_of_ble_eq_true rfl, Nat.le_of_ble_eq_true rfl⟩) X9 hD hS rfl (fun H locs hP hD hS => ?_)
  refine lv_istore (lv' := [(10, .int v21), (9, .int v19), (8, .int v15), (7, .int v13), (6, .int v11), (5, .int v7), (4, .int v5), (0, .ref (A 0)), (1, .int x1), (2, .int x2), (3, .int x3)]) hx hb d_Ke_user_110 hl (by decide) rfl (fun ls hl => ?_)
  refine lv_aload_n hx hb d_Ke_user_112 rfl (lv_at hl 7 rfl) ?_
  refine va_get (D := D) (ci := 4) (v := .ref (A 16)) (C := R_Ke) (T := T_Ke) (N := 5) hx hb hts wu_Ke hown hK hP 0 rfl rfl 4 (by decide) (hts _ wf_Ke_33) (fun _ h9 => h9) rfl d_Ke_user_113 ?_
  refine lv_iload_n hx hb d_Ke_user_116 rfl (lv_at hl 9 rfl) ?_
  refine lv_iload hx hb d_Ke_user_117 (lv_at hl 6 rfl) ?_
  refine lv_iload hx hb d_Ke_user_119 (lv_at hl 5 rfl) ?_
  obtain ⟨v23, e9, h⟩ := zo_b h
  refine ka_v (va_runV (As := [.int x2, .int v5, .int v7]) (rest := []) S9 (c_Us_setCategories l hl9 D A r _ u22 x2 v5 v7 _ e9) (cwV 3 hts (tg_V wl_Ke_205 wm_Us_setCategories we_Us_setCategories wi_Us wo_Us_setCategories) rfl rfl rfl wq_Us_setCategories ⟨Nat.le_of_ble_eq_true rfl, Nat.le_of_ble_eq_true rfl⟩) (ka_preV X9 hP hD hS 16 rfl rfl) rfl rfl hl.1 rfl (lv_room (Nat.le_of_ble_eq_true rfl)) d_Ke_user_121 ⟨Nat.le_of_ble_eq_true rfl, Nat.le_of_ble_eq_true rfl⟩) X9 hD hS rfl (fun H locs hP hD hS => ?_)
  refine lv_aload_n hx hb d_Ke_user_124 rfl (lv_at hl 7 rfl) ?_
  refine va_get (D := D) (ci := 4) (v := .ref (A 16)) (C := R_Ke) (T := T_Ke) (N := 5) hx hb hts wu_Ke hown hK hP 0 rfl rfl 4 (by decide) (hts _ wf_Ke_33) (fun _ h9 => h9) rfl d_Ke_user_125 ?_
  refine lv_iload_n hx hb d_Ke_user_128 rfl (lv_at hl 9 rfl) ?_
  refine lv_iload hx hb d_Ke_user_129 (lv_at hl 3 rfl) ?_
  refine lv_iload hx hb d_Ke_user_131 (lv_at hl 2 rfl) ?_
  refine lv_iload hx hb d_Ke_user_133 (lv_at hl 0 rfl) ?_
  obtain ⟨v24, e9, h⟩ := zo_b h
  refine ka_v (va_runV (As := [.int x2, .int v13, .int v15, .int v21]) (rest := []) S9 (c_Us_setObjects l hl9 D A r _ v23 x2 v13 v15 v21 _ e9) (cwV 4 hts (tg_V wl_Ke_208 wm_Us_setObjects we_Us_setObjects wi_Us wo_Us_setObjects) rfl rfl rfl wq_Us_setObjects ⟨Nat.le_of_ble_eq_true rfl, Nat.le_of_ble_eq_true rfl⟩) (ka_preV X9 hP hD hS 16 rfl rfl) rfl rfl hl.1 rfl (lv_room (Nat.le_of_ble_eq_true rfl)) d_Ke_user_135 ⟨Nat.le_of_ble_eq_true rfl, Nat.le_of_ble_eq_true rfl⟩) X9 hD hS rfl (fun H locs hP hD hS => ?_)
  refine lv_aload_n hx hb d_Ke_user_138 rfl (lv_at hl 7 rfl) ?_
  refine va_get (D := D) (ci := 4) (v := .ref (A 16)) (C := R_Ke) (T := T_Ke) (N := 5) hx hb hts wu_Ke hown hK hP 0 rfl rfl 4 (by decide) (hts _ wf_Ke_33) (fun _ h9 => h9) rfl d_Ke_user_139 ?_
  refine lv_iload_n hx hb d_Ke_user_142 rfl (lv_at hl 9 rfl) ?_
  refine lv_iload_n hx hb d_Ke_user_143 rfl (lv_at hl 10 rfl) ?_
  obtain ⟨v25, e9, h⟩ := zo_b h
  refine ka_v (va_runV (As := [.int x2, .int x3]) (rest := []) S9 (c_Us_add l hl9 D A r _ v24 x2 x3 _ e9) (cwV 2 hts (tg_V wl_Ke_211 wm_Us_add we_Us_add wi_Us wo_Us_add) rfl rfl rfl wq_Us_add ⟨Nat.le_of_ble_eq_true rfl, Nat.le_of_ble_eq_true rfl⟩) (ka_preV X9 hP hD hS 16 rfl rfl) rfl rfl hl.1 rfl (lv_room (Nat.le_of_ble_eq_true rfl)) d_Ke_user_144 ⟨Nat.le_of_ble_eq_true rfl, Nat.le_of_ble_eq_true rfl⟩) X9 hD hS rfl (fun H locs hP hD hS => ?_)
  refine lv_iload hx hb d_Ke_user_147 (lv_at hl 3 rfl) ?_
  cases h
def f_Ke_login (σ : KS) (x1 x2 x3 : Int32) : Option (Except Nat Int32 × KS) := (f_Ke_isBetween x2 0 3).bind fun v1 => if v1 = 0 then some (.error 1, σ) else (f_Us_isThere σ x2).bind fun v2 => if v2 = 0 then some (.error 2, σ) else (f_Us_passwordOf σ x2).bind fun v3 => if v3 = x3 then (zx (f_Ke_needThread σ x1) fun _ u6 => (f_Us_firstCategoryOf u6 x2).bind fun v7 => (f_Us_secondCategoryOf u6 x2).bind fun v8 => (f_Tg_labelOf u6 x1).bind fun v9 => zx (f_Ke_label u6 v9 v7 4) fun v10 u11 => zx (f_Ke_label u11 v10 v8 4) fun v12 u13 => (f_Tg_clearanceOf u13 x1).bind fun v14 => zx (f_Ke_label u13 v14 v7 3) fun v15 u16 => zx (f_Ke_label u16 v15 v8 3) fun v17 u18 => (f_Us_gateOf u18 x2).bind fun v19 => zx (f_Ke_enter u18 x1 1 v19 v12 v17) fun v20 u21 => some (.ok v20, u21)) else (some (.error 3, σ))
set_option maxRecDepth 100000 in
set_option maxHeartbeats 4000000 in
theorem c_Ke_login_ok (l : Launch) (hl9 : l.stackTraces = false) (D : va_G) (A : Nat → Nat) (r : va_W) (sz : Nat) (σ : KS) (x1 x2 x3 : Int32) (z9 : Int32) (z : KS) (h : f_Ke_login σ x1 x2 x3 = some (.ok z9, z)) : Met l y_Ke_login (Cond.code y_Ke_login b_Ke_login 8 (some .int) :: T0) ({ frames := 4, cells := 0, slots := 0, locals := 98 } : Room) (va_Pc [.ref (A 0), .int x1, .int x2, .int x3] (ka_Wd D A (GW A σ r) sz)) (ka_Ri D z9 (GW A z r) (va_A (GW A σ r) sz)) 0 0 (va_A (GW A σ r) sz) := by
  unfold f_Ke_login at h
  refine ka_of (own := R_Ke) (fun A9 => ka_Ri D z9 (GW A z r) A9) (by decide) rfl (Nat.le_of_ble_eq_true rfl) ?_
  intro p e s m below meth c A9 ls S9 hr hlk hex X9 hP hD hl
  obtain ⟨hx, hb, hml, hown, hts⟩ := id S9
  have hK := X9.2.1
  have hS : va_S A9 s.heap s.heap [] := va_S.rf
  replace hl : lv_has ls 8 [(0, .ref (A 0)), (1, .int x1), (2, .int x2), (3, .int x3)] := hl
  refine lv_iload_n hx hb d_Ke_login_0 rfl (lv_at hl 2 rfl) ?_
  refine lv_iconst (v := 0) hx hb d_Ke_login_1 (by decide) ?_
  refine lv_iconst (v := 3) hx hb d_Ke_login_2 (by decide) ?_
  obtain ⟨v1, e9, h⟩ := zo_b h
  refine ka_i (va_runS (As := [.int x2, .int 0, .int 3]) (rest := []) S9 (c_Ke_isBetween l hl9 D A (GW A σ r) _ x2 0 3 _ e9) (cwS 3 hts (tg_S wl_Ke_40 ws_Ke_isBetween wi_Ke wo_Ke_isBetween) rfl rfl rfl wq_Ke_isBetween ⟨Nat.le_of_ble_eq_true rfl, Nat.le_of_ble_eq_true rfl⟩) (ka_preS X9 hP hD hS) rfl rfl hl.1 rfl (lv_room (Nat.le_of_ble_eq_true rfl)) d_Ke_login_3 ⟨Nat.le_of_ble_eq_true rfl, Nat.le_of_ble_eq_true rfl⟩) X9 hD hS rfl (fun H locs hP hD hS => ?_)
  rcases zo_n h with ⟨c9, h⟩ | ⟨c9, h⟩
  · cases h
  refine ka_v (va_runS (As := [.int v1]) (rest := []) S9 (c_Ke_needNumber_ok l hl9 D A (GW A σ r) _ v1 c9) (cwS 1 hts (tg_S wl_Ke_44 ws_Ke_needNumber wi_Ke wo_Ke_needNumber) rfl rfl rfl wq_Ke_needNumber ⟨Nat.le_of_ble_eq_true rfl, Nat.le_of_ble_eq_true rfl⟩) (ka_preS X9 hP hD hS) rfl rfl hl.1 rfl (lv_room (Nat.le_of_ble_eq_true rfl)) d_Ke_login_6 ⟨Nat.le_of_ble_eq_true rfl, Nat.le_of_ble_eq_true rfl⟩) X9 hD hS rfl (fun H locs hP hD hS => ?_)
  refine lv_aload_n hx hb d_Ke_login_9 rfl (lv_at hl 0 rfl) ?_
  refine va_get (D := D) (ci := 4) (v := .ref (A 16)) (C := R_Ke) (T := T_Ke) (N := 5) hx hb hts wu_Ke hown hK hP 0 rfl rfl 4 (by decide) (hts _ wf_Ke_33) (fun _ h9 => h9) rfl d_Ke_login_10 ?_
  refine lv_iload_n hx hb d_Ke_login_13 rfl (lv_at hl 2 rfl) ?_
  obtain ⟨v2, e9, h⟩ := zo_b h
  refine ka_i (va_runV (As := [.int x2]) (rest := []) S9 (c_Us_isThere l hl9 D A r _ σ x2 _ e9) (cwV 1 hts (tg_V wl_Ke_184 wm_Us_isThere we_Us_isThere wi_Us wo_Us_isThere) rfl rfl rfl wq_Us_isThere ⟨Nat.le_of_ble_eq_true rfl, Nat.le_of_ble_eq_true rfl⟩) (ka_preV X9 hP hD hS 16 rfl rfl) rfl rfl hl.1 rfl (lv_room (Nat.le_of_ble_eq_true rfl)) d_Ke_login_14 ⟨Nat.le_of_ble_eq_true rfl, Nat.le_of_ble_eq_true rfl⟩) X9 hD hS rfl (fun H locs hP hD hS => ?_)
  rcases zo_n h with ⟨c9, h⟩ | ⟨c9, h⟩
  · cases h
  refine ka_v (va_runS (As := [.int v2]) (rest := []) S9 (c_Ke_needFound_ok l hl9 D A (GW A σ r) _ v2 c9) (cwS 1 hts (tg_S wl_Ke_169 ws_Ke_needFound wi_Ke wo_Ke_needFound) rfl rfl rfl wq_Ke_needFound ⟨Nat.le_of_ble_eq_true rfl, Nat.le_of_ble_eq_true rfl⟩) (ka_preS X9 hP hD hS) rfl rfl hl.1 rfl (lv_room (Nat.le_of_ble_eq_true rfl)) d_Ke_login_17 ⟨Nat.le_of_ble_eq_true rfl, Nat.le_of_ble_eq_true rfl⟩) X9 hD hS rfl (fun H locs hP hD hS => ?_)
  refine lv_aload_n hx hb d_Ke_login_20 rfl (lv_at hl 0 rfl) ?_
  refine va_get (D := D) (ci := 4) (v := .ref (A 16)) (C := R_Ke) (T := T_Ke) (N := 5) hx hb hts wu_Ke hown hK hP 0 rfl rfl 4 (by decide) (hts _ wf_Ke_33) (fun _ h9 => h9) rfl d_Ke_login_21 ?_
  refine lv_iload_n hx hb d_Ke_login_24 rfl (lv_at hl 2 rfl) ?_
  obtain ⟨v3, e9, h⟩ := zo_b h
  refine ka_i (va_runV (As := [.int x2]) (rest := []) S9 (c_Us_passwordOf l hl9 D A r _ σ x2 _ e9) (cwV 1 hts (tg_V wl_Ke_213 wm_Us_passwordOf we_Us_passwordOf wi_Us wo_Us_passwordOf) rfl rfl rfl wq_Us_passwordOf ⟨Nat.le_of_ble_eq_true rfl, Nat.le_of_ble_eq_true rfl⟩) (ka_preV X9 hP hD hS 16 rfl rfl) rfl rfl hl.1 rfl (lv_room (Nat.le_of_ble_eq_true rfl)) d_Ke_login_25 ⟨Nat.le_of_ble_eq_true rfl, Nat.le_of_ble_eq_true rfl⟩) X9 hD hS rfl (fun H locs hP hD hS => ?_)
  refine lv_iload_n hx hb d_Ke_login_28 rfl (lv_at hl 3 rfl) ?_
  refine lv_icmp_ne (tgt := 36) hx hb d_Ke_login_29 (by decide) (fun c4 => ?_) (fun c4 => ?_)
  · replace h := zo_f c4 h
    refine lv_iconst (v := 0) hx hb d_Ke_login_36 (by decide) ?_
    cases h
  replace h := zo_t c4 h
  refine lv_iconst (v := 1) hx hb d_Ke_login_32 (by decide) ?_
  refine lv_goto (tgt := 37) hx hb d_Ke_login_33 (by decide) ?_
  refine ka_v (va_runS (As := [.int 1]) (rest := []) S9 (c_Ke_needAllowed_ok l hl9 D A (GW A σ r) _ 1 (by decide)) (cwS 1 hts (tg_S wl_Ke_123 ws_Ke_needAllowed wi_Ke wo_Ke_needAllowed) rfl rfl rfl wq_Ke_needAllowed ⟨Nat.le_of_ble_eq_true rfl, Nat.le_of_ble_eq_true rfl⟩) (ka_preS X9 hP hD hS) rfl rfl hl.1 rfl (lv_room (Nat.le_of_ble_eq_true rfl)) d_Ke_login_37 ⟨Nat.le_of_ble_eq_true rfl, Nat.le_of_ble_eq_true rfl⟩) X9 hD hS rfl (fun H locs hP hD hS => ?_)
  refine lv_aload_n hx hb d_Ke_login_40 rfl (lv_at hl 0 rfl) ?_
  refine lv_iload_n hx hb d_Ke_login_41 rfl (lv_at hl 1 rfl) ?_
  rcases zo_x h with ⟨k9, u6, e9, h⟩ | ⟨v5, u6, e9, h⟩
  · cases h
  refine ka_v (va_runV (As := [.int x1]) (rest := []) S9 (c_Ke_needThread_ok l hl9 D A r _ σ x1 _ _ e9) (cwV 1 hts (tg_V wl_Ke_77 wm_Ke_needThread we_Ke_needThread wi_Ke wo_Ke_needThread) rfl rfl rfl wq_Ke_needThread ⟨Nat.le_of_ble_eq_true rfl, Nat.le_of_ble_eq_true rfl⟩) (ka_preV X9 hP hD hS 0 rfl rfl) rfl rfl hl.1 rfl (lv_room (Nat.le_of_ble_eq_true rfl)) d_Ke_login_42 ⟨Nat.le_of_ble_eq_true rfl, Nat.le_of_ble_eq_true rfl⟩) X9 hD hS rfl (fun H locs hP hD hS => ?_)
  refine lv_aload_n hx hb d_Ke_login_45 rfl (lv_at hl 0 rfl) ?_
  refine va_get (D := D) (ci := 4) (v := .ref (A 16)) (C := R_Ke) (T := T_Ke) (N := 5) hx hb hts wu_Ke hown hK hP 0 rfl rfl 4 (by decide) (hts _ wf_Ke_33) (fun _ h9 => h9) rfl d_Ke_login_46 ?_
  refine lv_iload_n hx hb d_Ke_login_49 rfl (lv_at hl 2 rfl) ?_
  obtain ⟨v7, e9, h⟩ := zo_b h
  refine ka_i (va_runV (As := [.int x2]) (rest := []) S9 (c_Us_firstCategoryOf l hl9 D A r _ u6 x2 _ e9) (cwV 1 hts (tg_V wl_Ke_216 wm_Us_firstCategoryOf we_Us_firstCategoryOf wi_Us wo_Us_firstCategoryOf) rfl rfl rfl wq_Us_firstCategoryOf ⟨Nat.le_of_ble_eq_true rfl, Nat.le_of_ble_eq_true rfl⟩) (ka_preV X9 hP hD hS 16 rfl rfl) rfl rfl hl.1 rfl (lv_room (Nat.le_of_ble_eq_true rfl)) d_Ke_login_50 ⟨Nat.le_of_ble_eq_true rfl, Nat.le_of_ble_eq_true rfl⟩) X9 hD hS rfl (fun H locs hP hD hS => ?_)
  refine lv_istore (lv' := [(4, .int v7), (0, .ref (A 0)), (1, .int x1), (2, .int x2), (3, .int x3)]) hx hb d_Ke_login_53 hl (by decide) rfl (fun ls hl => ?_)
  refine lv_aload_n hx hb d_Ke_login_55 rfl (lv_at hl 1 rfl) ?_
  refine va_get (D := D) (ci := 4) (v := .ref (A 16)) (C := R_Ke) (T := T_Ke) (N := 5) hx hb hts wu_Ke hown hK hP 0 rfl rfl 4 (by decide) (hts _ wf_Ke_33) (fun _ h9 => h9) rfl d_Ke_login_56 ?_
  refine lv_iload_n hx hb d_Ke_login_59 rfl (lv_at hl 3 rfl) ?_
  obtain ⟨v8, e9, h⟩ := zo_b h
  refine ka_i (va_runV (As := [.int x2]) (rest := []) S9 (c_Us_secondCategoryOf l hl9 D A r _ u6 x2 _ e9) (cwV 1 hts (tg_V wl_Ke_219 wm_Us_secondCategoryOf we_Us_secondCategoryOf wi_Us wo_Us_secondCategoryOf) rfl rfl rfl wq_Us_secondCategoryOf ⟨Nat.le_of_ble_eq_true rfl, Nat.le_of_ble_eq_true rfl⟩) (ka_preV X9 hP hD hS 16 rfl rfl) rfl rfl hl.1 rfl (lv_room (Nat.le_of_ble_eq_true rfl)) d_Ke_login_60 ⟨Nat.le_of_ble_eq_true rfl, Nat.le_of_ble_eq_true rfl⟩) X9 hD hS rfl (fun H locs hP hD hS => ?_)
  refine lv_istore (lv' := [(5, .int v8), (4, .int v7), (0, .ref (A 0)), (1, .int x1), (2, .int x2), (3, .int x3)]) hx hb d_Ke_login_63 hl (by decide) rfl (fun ls hl => ?_)
  refine lv_aload_n hx hb d_Ke_login_65 rfl (lv_at hl 2 rfl) ?_
  refine lv_aload_n hx hb d_Ke_login_66 rfl (lv_at hl 2 rfl) ?_
  refine lv_aload_n hx hb d_Ke_login_67 rfl (lv_at hl 2 rfl) ?_
  refine va_get (D := D) (ci := 4) (v := .ref (A 4)) (C := R_Ke) (T := T_Ke) (N := 5) hx hb hts wu_Ke hown hK hP 0 rfl rfl 3 (by decide) (hts _ wf_Ke_28) (fun _ h9 => h9) rfl d_Ke_login_68 ?_
  refine lv_iload_n hx hb d_Ke_login_71 rfl (lv_at hl 3 rfl) ?_
  obtain ⟨v9, e9, h⟩ := zo_b h
  refine ka_i (va_runV (As := [.int x1]) (rest := [.ref (A 0), .ref (A 0)]) S9 (c_Tg_labelOf l hl9 D A r _ u6 x1 _ e9) (cwV 1 hts (tg_V wl_Ke_85 wm_Tg_labelOf we_Tg_labelOf wi_Tg wo_Tg_labelOf) rfl rfl rfl wq_Tg_labelOf ⟨Nat.le_of_ble_eq_true rfl, Nat.le_of_ble_eq_true rfl⟩) (ka_preV X9 hP hD hS 4 rfl rfl) rfl rfl hl.1 rfl (lv_room (Nat.le_of_ble_eq_true rfl)) d_Ke_login_72 ⟨Nat.le_of_ble_eq_true rfl, Nat.le_of_ble_eq_true rfl⟩) X9 hD hS rfl (fun H locs hP hD hS => ?_)
  refine lv_iload hx hb d_Ke_login_75 (lv_at hl 1 rfl) ?_
  refine lv_iconst (v := 4) hx hb d_Ke_login_77 (by decide) ?_
  rcases zo_x h with ⟨k9, u11, e9, h⟩ | ⟨v10, u11, e9, h⟩
  · cases h
  refine ka_i (va_runV (As := [.int v9, .int v7, .int 4]) (rest := [.ref (A 0)]) S9 (c_Ke_label_ok l hl9 D A r _ u6 v9 v7 4 _ _ e9) (cwV 3 hts (tg_V wl_Ke_192 wm_Ke_label we_Ke_label wi_Ke wo_Ke_label) rfl rfl rfl wq_Ke_label ⟨Nat.le_of_ble_eq_true rfl, Nat.le_of_ble_eq_true rfl⟩) (ka_preV X9 hP hD hS 0 rfl rfl) rfl rfl hl.1 rfl (lv_room (Nat.le_of_ble_eq_true rfl)) d_Ke_login_78 ⟨Nat.le_of_ble_eq_true rfl, Nat.le_of_ble_eq_true rfl⟩) X9 hD hS rfl (fun H locs hP hD hS => ?_)
  refine lv_iload hx hb d_Ke_login_81 (lv_at hl 0 rfl) ?_
  refine lv_iconst (v := 4) hx hb d_Ke_login_83 (by decide) ?_
  rcases zo_x h with ⟨k9, u13, e9, h⟩ | ⟨v12, u13, e9, h⟩
  · cases h
  refine ka_i (va_runV (As := [.int v10, .int v8, .int 4]) (rest := []) S9 (c_Ke_label_ok l hl9 D A r _ u11 v10 v8 4 _ _ e9) (cwV 3 hts (tg_V wl_Ke_192 wm_Ke_label we_Ke_label wi_Ke wo_Ke_label) rfl rfl rfl wq_Ke_label ⟨Nat.le_of_ble_eq_true rfl, Nat.le_of_ble_eq_true rfl⟩) (ka_preV X9 hP hD hS 0 rfl rfl) rfl rfl hl.1 rfl (lv_room (Nat.le_of_ble_eq_true rfl)) d_Ke_login_84 ⟨Nat.le_of_ble_eq_true rfl, Nat.le_of_ble_eq_true rfl⟩) X9 hD hS rfl (fun H locs hP hD hS => ?_)
  refine lv_istore (lv' := [(6, .int v12), (5, .int v8), (4, .int v7), (0, .ref (A 0)), (1, .int x1), (2, .int x2), (3, .int x3)]) hx hb d_Ke_login_87 hl (by decide) rfl (fun ls hl => ?_)
  refine lv_aload_n hx hb d_Ke_login_89 rfl (lv_at hl 3 rfl) ?_
  refine lv_aload_n hx hb d_Ke_login_90 rfl (lv_at hl 3 rfl) ?_
  refine lv_aload_n hx hb d_Ke_login_91 rfl (lv_at hl 3 rfl) ?_
  refine va_get (D := D) (ci := 4) (v := .ref (A 4)) (C := R_Ke) (T := T_Ke) (N := 5) hx hb hts wu_Ke hown hK hP 0 rfl rfl 3 (by decide) (hts _ wf_Ke_28) (fun _ h9 => h9) rfl d_Ke_login_92 ?_
  refine lv_iload_n hx hb d_Ke_login_95 rfl (lv_at hl 4 rfl) ?_
  obtain ⟨v14, e9, h⟩ := zo_b h
  refine ka_i (va_runV (As := [.int x1]) (rest := [.ref (A 0), .ref (A 0)]) S9 (c_Tg_clearanceOf l hl9 D A r _ u13 x1 _ e9) (cwV 1 hts (tg_V wl_Ke_90 wm_Tg_clearanceOf we_Tg_clearanceOf wi_Tg wo_Tg_clearanceOf) rfl rfl rfl wq_Tg_clearanceOf ⟨Nat.le_of_ble_eq_true rfl, Nat.le_of_ble_eq_true rfl⟩) (ka_preV X9 hP hD hS 4 rfl rfl) rfl rfl hl.1 rfl (lv_room (Nat.le_of_ble_eq_true rfl)) d_Ke_login_96 ⟨Nat.le_of_ble_eq_true rfl, Nat.le_of_ble_eq_true rfl⟩) X9 hD hS rfl (fun H locs hP hD hS => ?_)
  refine lv_iload hx hb d_Ke_login_99 (lv_at hl 2 rfl) ?_
  refine lv_iconst (v := 3) hx hb d_Ke_login_101 (by decide) ?_
  rcases zo_x h with ⟨k9, u16, e9, h⟩ | ⟨v15, u16, e9, h⟩
  · cases h
  refine ka_i (va_runV (As := [.int v14, .int v7, .int 3]) (rest := [.ref (A 0)]) S9 (c_Ke_label_ok l hl9 D A r _ u13 v14 v7 3 _ _ e9) (cwV 3 hts (tg_V wl_Ke_192 wm_Ke_label we_Ke_label wi_Ke wo_Ke_label) rfl rfl rfl wq_Ke_label ⟨Nat.le_of_ble_eq_true rfl, Nat.le_of_ble_eq_true rfl⟩) (ka_preV X9 hP hD hS 0 rfl rfl) rfl rfl hl.1 rfl (lv_room (Nat.le_of_ble_eq_true rfl)) d_Ke_login_102 ⟨Nat.le_of_ble_eq_true rfl, Nat.le_of_ble_eq_true rfl⟩) X9 hD hS rfl (fun H locs hP hD hS => ?_)
  refine lv_iload hx hb d_Ke_login_105 (lv_at hl 1 rfl) ?_
  refine lv_iconst (v := 3) hx hb d_Ke_login_107 (by decide) ?_
  rcases zo_x h with ⟨k9, u18, e9, h⟩ | ⟨v17, u18, e9, h⟩
  · cases h
  refine ka_i (va_runV (As := [.int v15, .int v8, .int 3]) (rest := []) S9 (c_Ke_label_ok l hl9 D A r _ u16 v15 v8 3 _ _ e9) (cwV 3 hts (tg_V wl_Ke_192 wm_Ke_label we_Ke_label wi_Ke wo_Ke_label) rfl rfl rfl wq_Ke_label ⟨Nat.le_of_ble_eq_true rfl, Nat.le_of_ble_eq_true rfl⟩) (ka_preV X9 hP hD hS 0 rfl rfl) rfl rfl hl.1 rfl (lv_room (Nat.le_of_ble_eq_true rfl)) d_Ke_login_108 ⟨Nat.le_of_ble_eq_true rfl, Nat.le_of_ble_eq_true rfl⟩) X9 hD hS rfl (fun H locs hP hD hS => ?_)
  refine lv_istore (lv' := [(7, .int v17), (6, .int v12), (5, .int v8), (4, .int v7), (0, .ref (A 0)), (1, .int x1), (2, .int x2), (3, .int x3)]) hx hb d_Ke_login_111 hl (by decide) rfl (fun ls hl => ?_)
  refine lv_aload_n hx hb d_Ke_login_113 rfl (lv_at hl 4 rfl) ?_
  refine lv_iload_n hx hb d_Ke_login_114 rfl (lv_at hl 5 rfl) ?_
  refine lv_iconst (v := 1) hx hb d_Ke_login_115 (by decide) ?_
  refine lv_aload_n hx hb d_Ke_login_116 rfl (lv_at hl 4 rfl) ?_
  refine va_get (D := D) (ci := 4) (v := .ref (A 16)) (C := R_Ke) (T := T_Ke) (N := 5) hx hb hts wu_Ke hown hK hP 0 rfl rfl 4 (by decide) (hts _ wf_Ke_33) (fun _ h9 => h9) rfl d_Ke_login_117 ?_
  refine lv_iload_n hx hb d_Ke_login_120 rfl (lv_at hl 6 rfl) ?_
  obtain ⟨v19, e9, h⟩ := zo_b h
  refine ka_i (va_runV (As := [.int x2]) (rest := [.int 1, .int x1, .ref (A 0)]) S9 (c_Us_gateOf l hl9 D A r _ u18 x2 _ e9) (cwV 1 hts (tg_V wl_Ke_222 wm_Us_gateOf we_Us_gateOf wi_Us wo_Us_gateOf) rfl rfl rfl wq_Us_gateOf ⟨Nat.le_of_ble_eq_true rfl, Nat.le_of_ble_eq_true rfl⟩) (ka_preV X9 hP hD hS 16 rfl rfl) rfl rfl hl.1 rfl (lv_room (Nat.le_of_ble_eq_true rfl)) d_Ke_login_121 ⟨Nat.le_of_ble_eq_true rfl, Nat.le_of_ble_eq_true rfl⟩) X9 hD hS rfl (fun H locs hP hD hS => ?_)
  refine lv_iload hx hb d_Ke_login_124 (lv_at hl 1 rfl) ?_
  refine lv_iload hx hb d_Ke_login_126 (lv_at hl 0 rfl) ?_
  rcases zo_x h with ⟨k9, u21, e9, h⟩ | ⟨v20, u21, e9, h⟩
  · cases h
  refine ka_i (va_runV (As := [.int x1, .int 1, .int v19, .int v12, .int v17]) (rest := []) S9 (c_Ke_enter_ok l hl9 D A r _ u18 x1 1 v19 v12 v17 _ _ e9) (cwV 5 hts (tg_V wl_Ke_225 wm_Ke_enter we_Ke_enter wi_Ke wo_Ke_enter) rfl rfl rfl wq_Ke_enter ⟨Nat.le_of_ble_eq_true rfl, Nat.le_of_ble_eq_true rfl⟩) (ka_preV X9 hP hD hS 0 rfl rfl) rfl rfl hl.1 rfl (lv_room (Nat.le_of_ble_eq_true rfl)) d_Ke_login_128 ⟨Nat.le_of_ble_eq_true rfl, Nat.le_of_ble_eq_true rfl⟩) X9 hD hS rfl (fun H locs hP hD hS => ?_)
  cases h
  exact W.iret hx hb hr (fun t ht hW => ⟨⟨_, (), rfl, rfl, ka_at ht hP⟩, hS.F ht⟩) hS.2.2 d_Ke_login_131 hlk
set_option maxRecDepth 100000 in
set_option maxHeartbeats 4000000 in
theorem c_Ke_login_err (l : Launch) (hl9 : l.stackTraces = false) (D : va_G) (A : Nat → Nat) (r : va_W) (sz : Nat) (σ : KS) (x1 x2 x3 : Int32) (k9 : Nat) (z : KS) (h : f_Ke_login σ x1 x2 x3 = some (.error k9, z)) : vx_Met l y_Ke_login (Cond.code y_Ke_login b_Ke_login 8 (some .int) :: T0) ({ frames := 9, cells := 1, slots := 6, locals := 149 } : Room) (va_Pc [.ref (A 0), .int x1, .int x2, .int x3] (ka_Wd D A (GW A σ r) sz)) ka_No (ka_Xe D k9 (GW A z r) (va_A (GW A σ r) sz)) 1 6 (va_A (GW A σ r) sz) := by
  unfold f_Ke_login at h
  refine ka_ofX (own := R_Ke) (fun A9 => ka_Xe D k9 (GW A z r) A9) (by decide) rfl (Nat.le_of_ble_eq_true rfl) ?_
  intro p e s m below meth c A9 ls S9 hr hlk hex X9 hP hD hl
  obtain ⟨hx, hb, hml, hown, hts⟩ := id S9
  have hK := X9.2.1
  have hS : va_S A9 s.heap s.heap [] := va_S.rf
  replace hl : lv_has ls 8 [(0, .ref (A 0)), (1, .int x1), (2, .int x2), (3, .int x3)] := hl
  refine lv_iload_n hx hb d_Ke_login_0 rfl (lv_at hl 2 rfl) ?_
  refine lv_iconst (v := 0) hx hb d_Ke_login_1 (by decide) ?_
  refine lv_iconst (v := 3) hx hb d_Ke_login_2 (by decide) ?_
  obtain ⟨v1, e9, h⟩ := zo_b h
  refine ka_i (va_runS (As := [.int x2, .int 0, .int 3]) (rest := []) S9 (c_Ke_isBetween l hl9 D A (GW A σ r) _ x2 0 3 _ e9) (cwS 3 hts (tg_S wl_Ke_40 ws_Ke_isBetween wi_Ke wo_Ke_isBetween) rfl rfl rfl wq_Ke_isBetween ⟨Nat.le_of_ble_eq_true rfl, Nat.le_of_ble_eq_true rfl⟩) (ka_preS X9 hP hD hS) rfl rfl hl.1 rfl (lv_room (Nat.le_of_ble_eq_true rfl)) d_Ke_login_3 ⟨Nat.le_of_ble_eq_true rfl, Nat.le_of_ble_eq_true rfl⟩) X9 hD hS rfl (fun H locs hP hD hS => ?_)
  rcases zo_n h with ⟨c9, h⟩ | ⟨c9, h⟩
  · obtain ⟨rfl, rfl⟩ := zo_e h
    exact ka_err (vx_runS (As := [.int v1]) (rest := []) S9 (c_Ke_needNumber_err l hl9 D A (GW A σ r) _ v1 c9) (cwS 1 hts (tg_S wl_Ke_44 ws_Ke_needNumber wi_Ke wo_Ke_needNumber) rfl rfl rfl wq_Ke_needNumber ⟨Nat.le_of_ble_eq_true rfl, Nat.le_of_ble_eq_true rfl⟩) (ka_preS X9 hP hD hS) rfl rfl hl.1 rfl (lv_room (Nat.le_of_ble_eq_true rfl)) d_Ke_login_6 ⟨Nat.le_of_ble_eq_true rfl, Nat.le_of_ble_eq_true rfl⟩) hlk hex X9 hD hS (Nat.le_of_ble_eq_true rfl) (Nat.le_of_ble_eq_true rfl)
  refine ka_v (va_runS (As := [.int v1]) (rest := []) S9 (c_Ke_needNumber_ok l hl9 D A (GW A σ r) _ v1 c9) (cwS 1 hts (tg_S wl_Ke_44 ws_Ke_needNumber wi_Ke wo_Ke_needNumber) rfl rfl rfl wq_Ke_needNumber ⟨Nat.le_of_ble_eq_true rfl, Nat.le_of_ble_eq_true rfl⟩) (ka_preS X9 hP hD hS) rfl rfl hl.1 rfl (lv_room (Nat.le_of_ble_eq_true rfl)) d_Ke_login_6 ⟨Nat.le_of_ble_eq_true rfl, Nat.le_of_ble_eq_true rfl⟩) X9 hD hS rfl (fun H locs hP hD hS => ?_)
  refine lv_aload_n hx hb d_Ke_login_9 rfl (lv_at hl 0 rfl) ?_
  refine va_get (D := D) (ci := 4) (v := .ref (A 16)) (C := R_Ke) (T := T_Ke) (N := 5) hx hb hts wu_Ke hown hK hP 0 rfl rfl 4 (by decide) (hts _ wf_Ke_33) (fun _ h9 => h9) rfl d_Ke_login_10 ?_
  refine lv_iload_n hx hb d_Ke_login_13 rfl (lv_at hl 2 rfl) ?_
  obtain ⟨v2, e9, h⟩ := zo_b h
  refine ka_i (va_runV (As := [.int x2]) (rest := []) S9 (c_Us_isThere l hl9 D A r _ σ x2 _ e9) (cwV 1 hts (tg_V wl_Ke_184 wm_Us_isThere we_Us_isThere wi_Us wo_Us_isThere) rfl rfl rfl wq_Us_isThere ⟨Nat.le_of_ble_eq_true rfl, Nat.le_of_ble_eq_true rfl⟩) (ka_preV X9 hP hD hS 16 rfl rfl) rfl rfl hl.1 rfl (lv_room (Nat.le_of_ble_eq_true rfl)) d_Ke_login_14 ⟨Nat.le_of_ble_eq_true rfl, Nat.le_of_ble_eq_true rfl⟩) X9 hD hS rfl (fun H locs hP hD hS => ?_)
  rcases zo_n h with ⟨c9, h⟩ | ⟨c9, h⟩
  · obtain ⟨rfl, rfl⟩ := zo_e h
    exact ka_err (vx_runS (As := [.int v2]) (rest := []) S9 (c_Ke_needFound_err l hl9 D A (GW A σ r) _ v2 c9) (cwS 1 hts (tg_S wl_Ke_169 ws_Ke_needFound wi_Ke wo_Ke_needFound) rfl rfl rfl wq_Ke_needFound ⟨Nat.le_of_ble_eq_true rfl, Nat.le_of_ble_eq_true rfl⟩) (ka_preS X9 hP hD hS) rfl rfl hl.1 rfl (lv_room (Nat.le_of_ble_eq_true rfl)) d_Ke_login_17 ⟨Nat.le_of_ble_eq_true rfl, Nat.le_of_ble_eq_true rfl⟩) hlk hex X9 hD hS (Nat.le_of_ble_eq_true rfl) (Nat.le_of_ble_eq_true rfl)
  refine ka_v (va_runS (As := [.int v2]) (rest := []) S9 (c_Ke_needFound_ok l hl9 D A (GW A σ r) _ v2 c9) (cwS 1 hts (tg_S wl_Ke_169 ws_Ke_needFound wi_Ke wo_Ke_needFound) rfl rfl rfl wq_Ke_needFound ⟨Nat.le_of_ble_eq_true rfl, Nat.le_of_ble_eq_true rfl⟩) (ka_preS X9 hP hD hS) rfl rfl hl.1 rfl (lv_room (Nat.le_of_ble_eq_true rfl)) d_Ke_login_17 ⟨Nat.le_of_ble_eq_true rfl, Nat.le_of_ble_eq_true rfl⟩) X9 hD hS rfl (fun H locs hP hD hS => ?_)
  refine lv_aload_n hx hb d_Ke_login_20 rfl (lv_at hl 0 rfl) ?_
  refine va_get (D := D) (ci := 4) (v := .ref (A 16)) (C := R_Ke) (T := T_Ke) (N := 5) hx hb hts wu_Ke hown hK hP 0 rfl rfl 4 (by decide) (hts _ wf_Ke_33) (fun _ h9 => h9) rfl d_Ke_login_21 ?_
  refine lv_iload_n hx hb d_Ke_login_24 rfl (lv_at hl 2 rfl) ?_
  obtain ⟨v3, e9, h⟩ := zo_b h
  refine ka_i (va_runV (As := [.int x2]) (rest := []) S9 (c_Us_passwordOf l hl9 D A r _ σ x2 _ e9) (cwV 1 hts (tg_V wl_Ke_213 wm_Us_passwordOf we_Us_passwordOf wi_Us wo_Us_passwordOf) rfl rfl rfl wq_Us_passwordOf ⟨Nat.le_of_ble_eq_true rfl, Nat.le_of_ble_eq_true rfl⟩) (ka_preV X9 hP hD hS 16 rfl rfl) rfl rfl hl.1 rfl (lv_room (Nat.le_of_ble_eq_true rfl)) d_Ke_login_25 ⟨Nat.le_of_ble_eq_true rfl, Nat.le_of_ble_eq_true rfl⟩) X9 hD hS rfl (fun H locs hP hD hS => ?_)
  refine lv_iload_n hx hb d_Ke_login_28 rfl (lv_at hl 3 rfl) ?_
  refine lv_icmp_ne (tgt := 36) hx hb d_Ke_login_29 (by decide) (fun c4 => ?_) (fun c4 => ?_)
  · replace h := zo_f c4 h
    refine lv_iconst (v := 0) hx hb d_Ke_login_36 (by decide) ?_
    obtain ⟨rfl, rfl⟩ := zo_e h
    exact ka_err (vx_runS (As := [.int 0]) (rest := []) S9 (c_Ke_needAllowed_err l hl9 D A (GW A σ r) _ 0 rfl) (cwS 1 hts (tg_S wl_Ke_123 ws_Ke_needAllowed wi_Ke wo_Ke_needAllowed) rfl rfl rfl wq_Ke_needAllowed ⟨Nat.le_of_ble_eq_true rfl, Nat.le_of_ble_eq_true rfl⟩) (ka_preS X9 hP hD hS) rfl rfl hl.1 rfl (lv_room (Nat.le_of_ble_eq_true rfl)) d_Ke_login_37 ⟨Nat.le_of_ble_eq_true rfl, Nat.le_of_ble_eq_true rfl⟩) hlk hex X9 hD hS (Nat.le_of_ble_eq_true rfl) (Nat.le_of_ble_eq_true rfl)
  replace h := zo_t c4 h
  refine lv_iconst (v := 1) hx hb d_Ke_login_32 (by decide) ?_
  refine lv_goto (tgt := 37) hx hb d_Ke_login_33 (by decide) ?_
  refine ka_v (va_runS (As := [.int 1]) (rest := []) S9 (c_Ke_needAllowed_ok l hl9 D A (GW A σ r) _ 1 (by decide)) (cwS 1 hts (tg_S wl_Ke_123 ws_Ke_needAllowed wi_Ke wo_Ke_needAllowed) rfl rfl rfl wq_Ke_needAllowed ⟨Nat.le_of_ble_eq_true rfl, Nat.le_of_ble_eq_true rfl⟩) (ka_preS X9 hP hD hS) rfl rfl hl.1 rfl (lv_room (Nat.le_of_ble_eq_true rfl)) d_Ke_login_37 ⟨Nat.le_of_ble_eq_true rfl, Nat.le_of_ble_eq_true rfl⟩) X9 hD hS rfl (fun H locs hP hD hS => ?_)
  refine lv_aload_n hx hb d_Ke_login_40 rfl (lv_at hl 0 rfl) ?_
  refine lv_iload_n hx hb d_Ke_login_41 rfl (lv_at hl 1 rfl) ?_
  rcases zo_x h with ⟨k9, u6, e9, h⟩ | ⟨v5, u6, e9, h⟩
  · cases h
    exact ka_err (vx_runV (As := [.int x1]) (rest := []) S9 (c_Ke_needThread_err l hl9 D A r _ σ x1 _ _ e9) (cwV 1 hts (tg_V wl_Ke_77 wm_Ke_needThread we_Ke_needThread wi_Ke wo_Ke_needThread) rfl rfl rfl wq_Ke_needThread ⟨Nat.le_of_ble_eq_true rfl, Nat.le_of_ble_eq_true rfl⟩) (ka_preV X9 hP hD hS 0 rfl rfl) rfl rfl hl.1 rfl (lv_room (Nat.le_of_ble_eq_true rfl)) d_Ke_login_42 ⟨Nat.le_of_ble_eq_true rfl, Nat.le_of_ble_eq_true rfl⟩) hlk hex X9 hD hS (Nat.le_of_ble_eq_true rfl) (Nat.le_of_ble_eq_true rfl)
  refine ka_v (va_runV (As := [.int x1]) (rest := []) S9 (c_Ke_needThread_ok l hl9 D A r _ σ x1 _ _ e9) (cwV 1 hts (tg_V wl_Ke_77 wm_Ke_needThread we_Ke_needThread wi_Ke wo_Ke_needThread) rfl rfl rfl wq_Ke_needThread ⟨Nat.le_of_ble_eq_true rfl, Nat.le_of_ble_eq_true rfl⟩) (ka_preV X9 hP hD hS 0 rfl rfl) rfl rfl hl.1 rfl (lv_room (Nat.le_of_ble_eq_true rfl)) d_Ke_login_42 ⟨Nat.le_of_ble_eq_true rfl, Nat.le_of_ble_eq_true rfl⟩) X9 hD hS rfl (fun H locs hP hD hS => ?_)
  refine lv_aload_n hx hb d_Ke_login_45 rfl (lv_at hl 0 rfl) ?_
  refine va_get (D := D) (ci := 4) (v := .ref (A 16)) (C := R_Ke) (T := T_Ke) (N := 5) hx hb hts wu_Ke hown hK hP 0 rfl rfl 4 (by decide) (hts _ wf_Ke_33) (fun _ h9 => h9) rfl d_Ke_login_46 ?_
  refine lv_iload_n hx hb d_Ke_login_49 rfl (lv_at hl 2 rfl) ?_
  obtain ⟨v7, e9, h⟩ := zo_b h
  refine ka_i (va_runV (As := [.int x2]) (rest := []) S9 (c_Us_firstCategoryOf l hl9 D A r _ u6 x2 _ e9) (cwV 1 hts (tg_V wl_Ke_216 wm_Us_firstCategoryOf we_Us_firstCategoryOf wi_Us wo_Us_firstCategoryOf) rfl rfl rfl wq_Us_firstCategoryOf ⟨Nat.le_of_ble_eq_true rfl, Nat.le_of_ble_eq_true rfl⟩) (ka_preV X9 hP hD hS 16 rfl rfl) rfl rfl hl.1 rfl (lv_room (Nat.le_of_ble_eq_true rfl)) d_Ke_login_50 ⟨Nat.le_of_ble_eq_true rfl, Nat.le_of_ble_eq_true rfl⟩) X9 hD hS rfl (fun H locs hP hD hS => ?_)
  refine lv_istore (lv' := [(4, .int v7), (0, .ref (A 0)), (1, .int x1), (2, .int x2), (3, .int x3)]) hx hb d_Ke_login_53 hl (by decide) rfl (fun ls hl => ?_)
  refine lv_aload_n hx hb d_Ke_login_55 rfl (lv_at hl 1 rfl) ?_
  refine va_get (D := D) (ci := 4) (v := .ref (A 16)) (C := R_Ke) (T := T_Ke) (N := 5) hx hb hts wu_Ke hown hK hP 0 rfl rfl 4 (by decide) (hts _ wf_Ke_33) (fun _ h9 => h9) rfl d_Ke_login_56 ?_
  refine lv_iload_n hx hb d_Ke_login_59 rfl (lv_at hl 3 rfl) ?_
  obtain ⟨v8, e9, h⟩ := zo_b h
  refine ka_i (va_runV (As := [.int x2]) (rest := []) S9 (c_Us_secondCategoryOf l hl9 D A r _ u6 x2 _ e9) (cwV 1 hts (tg_V wl_Ke_219 wm_Us_secondCategoryOf we_Us_secondCategoryOf wi_Us wo_Us_secondCategoryOf) rfl rfl rfl wq_Us_secondCategoryOf ⟨Nat.le_of_ble_eq_true rfl, Nat.le_of_ble_eq_true rfl⟩) (ka_preV X9 hP hD hS 16 rfl rfl) rfl rfl hl.1 rfl (lv_room (Nat.le_of_ble_eq_true rfl)) d_Ke_login_60 ⟨Nat.le_of_ble_eq_true rfl, Nat.le_of_ble_eq_true rfl⟩) X9 hD hS rfl (fun H locs hP hD hS => ?_)
  refine lv_istore (lv' := [(5, .int v8), (4, .int v7), (0, .ref (A 0)), (1, .int x1), (2, .int x2), (3, .int x3)]) hx hb d_Ke_login_63 hl (by decide) rfl (fun ls hl => ?_)
  refine lv_aload_n hx hb d_Ke_login_65 rfl (lv_at hl 2 rfl) ?_
  refine lv_aload_n hx hb d_Ke_login_66 rfl (lv_at hl 2 rfl) ?_
  refine lv_aload_n hx hb d_Ke_login_67 rfl (lv_at hl 2 rfl) ?_
  refine va_get (D := D) (ci := 4) (v := .ref (A 4)) (C := R_Ke) (T := T_Ke) (N := 5) hx hb hts wu_Ke hown hK hP 0 rfl rfl 3 (by decide) (hts _ wf_Ke_28) (fun _ h9 => h9) rfl d_Ke_login_68 ?_
  refine lv_iload_n hx hb d_Ke_login_71 rfl (lv_at hl 3 rfl) ?_
  obtain ⟨v9, e9, h⟩ := zo_b h
  refine ka_i (va_runV (As := [.int x1]) (rest := [.ref (A 0), .ref (A 0)]) S9 (c_Tg_labelOf l hl9 D A r _ u6 x1 _ e9) (cwV 1 hts (tg_V wl_Ke_85 wm_Tg_labelOf we_Tg_labelOf wi_Tg wo_Tg_labelOf) rfl rfl rfl wq_Tg_labelOf ⟨Nat.le_of_ble_eq_true rfl, Nat.le_of_ble_eq_true rfl⟩) (ka_preV X9 hP hD hS 4 rfl rfl) rfl rfl hl.1 rfl (lv_room (Nat.le_of_ble_eq_true rfl)) d_Ke_login_72 ⟨Nat.le_of_ble_eq_true rfl, Nat.le_of_ble_eq_true rfl⟩) X9 hD hS rfl (fun H locs hP hD hS => ?_)
  refine lv_iload hx hb d_Ke_login_75 (lv_at hl 1 rfl) ?_
  refine lv_iconst (v := 4) hx hb d_Ke_login_77 (by decide) ?_
  rcases zo_x h with ⟨k9, u11, e9, h⟩ | ⟨v10, u11, e9, h⟩
  · cases h
    exact ka_err (vx_runV (As := [.int v9, .int v7, .int 4]) (rest := [.ref (A 0)]) S9 (c_Ke_label_err l hl9 D A r _ u6 v9 v7 4 _ _ e9) (cwV 3 hts (tg_V wl_Ke_192 wm_Ke_label we_Ke_label wi_Ke wo_Ke_label) rfl rfl rfl wq_Ke_label ⟨Nat.le_of_ble_eq_true rfl, Nat.le_of_ble_eq_true rfl⟩) (ka_preV X9 hP hD hS 0 rfl rfl) rfl rfl hl.1 rfl (lv_room (Nat.le_of_ble_eq_true rfl)) d_Ke_login_78 ⟨Nat.le_of_ble_eq_true rfl, Nat.le_of_ble_eq_true rfl⟩) hlk hex X9 hD hS (Nat.le_of_ble_eq_true rfl) (Nat.le_of_ble_eq_true rfl)
  refine ka_i (va_runV (As := [.int v9, .int v7, .int 4]) (rest := [.ref (A 0)]) S9 (c_Ke_label_ok l hl9 D A r _ u6 v9 v7 4 _ _ e9) (cwV 3 hts (tg_V wl_Ke_192 wm_Ke_label we_Ke_label wi_Ke wo_Ke_label) rfl rfl rfl wq_Ke_label ⟨Nat.le_of_ble_eq_true rfl, Nat.le_of_ble_eq_true rfl⟩) (ka_preV X9 hP hD hS 0 rfl rfl) rfl rfl hl.1 rfl (lv_room (Nat.le_of_ble_eq_true rfl)) d_Ke_login_78 ⟨Nat.le_of_ble_eq_true rfl, Nat.le_of_ble_eq_true rfl⟩) X9 hD hS rfl (fun H locs hP hD hS => ?_)
  refine lv_iload hx hb d_Ke_login_81 (lv_at hl 0 rfl) ?_
  refine lv_iconst (v := 4) hx hb d_Ke_login_83 (by decide) ?_
  rcases zo_x h with ⟨k9, u13, e9, h⟩ | ⟨v12, u13, e9, h⟩
  · cases h
    exact ka_err (vx_runV (As := [.int v10, .int v8, .int 4]) (rest := []) S9 (c_Ke_label_err l hl9 D A r _ u11 v10 v8 4 _ _ e9) (cwV 3 hts (tg_V wl_Ke_192 wm_Ke_label we_Ke_label wi_Ke wo_Ke_label) rfl rfl rfl wq_Ke_label ⟨Nat.le_of_ble_eq_true rfl, Nat.le_of_ble_eq_true rfl⟩) (ka_preV X9 hP hD hS 0 rfl rfl) rfl rfl hl.1 rfl (lv_room (Nat.le_of_ble_eq_true rfl)) d_Ke_login_84 ⟨Nat.le_of_ble_eq_true rfl, Nat.le_of_ble_eq_true rfl⟩) hlk hex X9 hD hS (Nat.le_of_ble_eq_true rfl) (Nat.le_of_ble_eq_true rfl)
  refine ka_i (va_runV (As := [.int v10, .int v8, .int 4]) (rest := []) S9 (c_Ke_label_ok l hl9 D A r _ u11 v10 v8 4 _ _ e9) (cwV 3 hts (tg_V wl_Ke_192 wm_Ke_label we_Ke_label wi_Ke wo_Ke_label) rfl rfl rfl wq_Ke_label ⟨Nat.le_of_ble_eq_true rfl, Nat.le_of_ble_eq_true rfl⟩) (ka_preV X9 hP hD hS 0 rfl rfl) rfl rfl hl.1 rfl (lv_room (Nat.le_of_ble_eq_true rfl)) d_Ke_login_84 ⟨Nat.le_of_ble_eq_true rfl, Nat.le_of_ble_eq_true rfl⟩) X9 hD hS rfl (fun H locs hP hD hS => ?_)
  refine lv_istore (lv' := [(6, .int v12), (5, .int v8), (4, .int v7), (0, .ref (A 0)), (1, .int x1), (2, .int x2), (3, .int x3)]) hx hb d_Ke_login_87 hl (by decide) rfl (fun ls hl => ?_)
  refine lv_aload_n hx hb d_Ke_login_89 rfl (lv_at hl 3 rfl) ?_
  refine lv_aload_n hx hb d_Ke_login_90 rfl (lv_at hl 3 rfl) ?_
  refine lv_aload_n hx hb d_Ke_login_91 rfl (lv_at hl 3 rfl) ?_
  refine va_get (D := D) (ci := 4) (v := .ref (A 4)) (C := R_Ke) (T := T_Ke) (N := 5) hx hb hts wu_Ke hown hK hP 0 rfl rfl 3 (by decide) (hts _ wf_Ke_28) (fun _ h9 => h9) rfl d_Ke_login_92 ?_
  refine lv_iload_n hx hb d_Ke_login_95 rfl (lv_at hl 4 rfl) ?_
  obtain ⟨v14, e9, h⟩ := zo_b h
  refine ka_i (va_runV (As := [.int x1]) (rest := [.ref (A 0), .ref (A 0)]) S9 (c_Tg_clearanceOf l hl9 D A r _ u13 x1 _ e9) (cwV 1 hts (tg_V wl_Ke_90 wm_Tg_clearanceOf we_Tg_clearanceOf wi_Tg wo_Tg_clearanceOf) rfl rfl rfl wq_Tg_clearanceOf ⟨Nat.le_of_ble_eq_true rfl, Nat.le_of_ble_eq_true rfl⟩) (ka_preV X9 hP hD hS 4 rfl rfl) rfl rfl hl.1 rfl (lv_room (Nat.le_of_ble_eq_true rfl)) d_Ke_login_96 ⟨Nat.le_of_ble_eq_true rfl, Nat.le_of_ble_eq_true rfl⟩) X9 hD hS rfl (fun H locs hP hD hS => ?_)
  refine lv_iload hx hb d_Ke_login_99 (lv_at hl 2 rfl) ?_
  refine lv_iconst (v := 3) hx hb d_Ke_login_101 (by decide) ?_
  rcases zo_x h with ⟨k9, u16, e9, h⟩ | ⟨v15, u16, e9, h⟩
  · cases h
    exact ka_err (vx_runV (As := [.int v14, .int v7, .int 3]) (rest := [.ref (A 0)]) S9 (c_Ke_label_err l hl9 D A r _ u13 v14 v7 3 _ _ e9) (cwV 3 hts (tg_V wl_Ke_192 wm_Ke_label we_Ke_label wi_Ke wo_Ke_label) rfl rfl rfl wq_Ke_label ⟨Nat.le_of_ble_eq_true rfl, Nat.le_of_ble_eq_true rfl⟩) (ka_preV X9 hP hD hS 0 rfl rfl) rfl rfl hl.1 rfl (lv_room (Nat.le_of_ble_eq_true rfl)) d_Ke_login_102 ⟨Nat.le_of_ble_eq_true rfl, Nat.le_of_ble_eq_true rfl⟩) hlk hex X9 hD hS (Nat.le_of_ble_eq_true rfl) (Nat.le_of_ble_eq_true rfl)
  refine ka_i (va_runV (As := [.int v14, .int v7, .int 3]) (rest := [.ref (A 0)]) S9 (c_Ke_label_ok l hl9 D A r _ u13 v14 v7 3 _ _ e9) (cwV 3 hts (tg_V wl_Ke_192 wm_Ke_label we_Ke_label wi_Ke wo_Ke_label) rfl rfl rfl wq_Ke_label ⟨Nat.le_of_ble_eq_true rfl, Nat.le_of_ble_eq_true rfl⟩) (ka_preV X9 hP hD hS 0 rfl rfl) rfl rfl hl.1 rfl (lv_room (Nat.le_of_ble_eq_true rfl)) d_Ke_login_102 ⟨Nat.le_of_ble_eq_true rfl, Nat.le_of_ble_eq_true rfl⟩) X9 hD hS rfl (fun H locs hP hD hS => ?_)
  refine lv_iload hx hb d_Ke_login_105 (lv_at hl 1 rfl) ?_
  refine lv_iconst (v := 3) hx hb d_Ke_login_107 (by decide) ?_
  rcases zo_x h with ⟨k9, u18, e9, h⟩ | ⟨v17, u18, e9, h⟩
  · cases h
    exact ka_err (vx_runV (As := [.int v15, .int v8, .int 3]) (rest := []) S9 (c_Ke_label_err l hl9 D A r _ u16 v15 v8 3 _ _ e9) (cwV 3 hts (tg_V wl_Ke_192 wm_Ke_label we_Ke_label wi_Ke wo_Ke_label) rfl rfl rfl wq_Ke_label ⟨Nat.le_of_ble_eq_true rfl, Nat.le_of_ble_eq_true rfl⟩) (ka_preV X9 hP hD hS 0 rfl rfl) rfl rfl hl.1 rfl (lv_room (Nat.le_of_ble_eq_true rfl)) d_Ke_login_108 ⟨Nat.le_of_ble_eq_true rfl, Nat.le_of_ble_eq_true rfl⟩) hlk hex X9 hD hS (Nat.le_of_ble_eq_true rfl) (Nat.le_of_ble_eq_true rfl)
  refine ka_i (va_runV (As := [.int v15, .int v8, .int 3]) (rest := []) S9 (c_Ke_label_ok l hl9 D A r _ u16 v15 v8 3 _ _ e9) (cwV 3 hts (tg_V wl_Ke_192 wm_Ke_label we_Ke_label wi_Ke wo_Ke_label) rfl rfl rfl wq_Ke_label ⟨Nat.le_of_ble_eq_true rfl, Nat.le_of_ble_eq_true rfl⟩) (ka_preV X9 hP hD hS 0 rfl rfl) rfl rfl hl.1 rfl (lv_room (Nat.le_of_ble_eq_true rfl)) d_Ke_login_108 ⟨Nat.le_of_ble_eq_true rfl, Nat.le_of_ble_eq_true rfl⟩) X9 hD hS rfl (fun H locs hP hD hS => ?_)
  refine lv_istore (lv' := [(7, .int v17), (6, .int v12), (5, .int v8), (4, .int v7), (0, .ref (A 0)), (1, .int x1), (2, .int x2), (3, .int x3)]) hx hb d_Ke_login_111 hl (by decide) rfl (fun ls hl => ?_)
  refine lv_aload_n hx hb d_Ke_login_113 rfl (lv_at hl 4 rfl) ?_
  refine lv_iload_n hx hb d_Ke_login_114 rfl (lv_at hl 5 rfl) ?_
  refine lv_iconst (v := 1) hx hb d_Ke_login_115 (by decide) ?_
  refine lv_aload_n hx hb d_Ke_login_116 rfl (lv_at hl 4 rfl) ?_
  refine va_get (D := D) (ci := 4) (v := .ref (A 16)) (C := R_Ke) (T := T_Ke) (N := 5) hx hb hts wu_Ke hown hK hP 0 rfl rfl 4 (by decide) (hts _ wf_Ke_33) (fun _ h9 => h9) rfl d_Ke_login_117 ?_
  refine lv_iload_n hx hb d_Ke_login_120 rfl (lv_at hl 6 rfl) ?_
  obtain ⟨v19, e9, h⟩ := zo_b h
  refine ka_i (va_runV (As := [.int x2]) (rest := [.int 1, .int x1, .ref (A 0)]) S9 (c_Us_gateOf l hl9 D A r _ u18 x2 _ e9) (cwV 1 hts (tg_V wl_Ke_222 wm_Us_gateOf we_Us_gateOf wi_Us wo_Us_gateOf) rfl rfl rfl wq_Us_gateOf ⟨Nat.le_of_ble_eq_true rfl, Nat.le_of_ble_eq_true rfl⟩) (ka_preV X9 hP hD hS 16 rfl rfl) rfl rfl hl.1 rfl (lv_room (Nat.le_of_ble_eq_true rfl)) d_Ke_login_121 ⟨Nat.le_of_ble_eq_true rfl, Nat.le_of_ble_eq_true rfl⟩) X9 hD hS rfl (fun H locs hP hD hS => ?_)
  refine lv_iload hx hb d_Ke_login_124 (lv_at hl 1 rfl) ?_
  refine lv_iload hx hb d_Ke_login_126 (lv_at hl 0 rfl) ?_
  rcases zo_x h with ⟨k9, u21, e9, h⟩ | ⟨v20, u21, e9, h⟩
  · cases h
    exact ka_err (vx_runV (As := [.int x1, .int 1, .int v19, .int v12, .int v17]) (rest := []) S9 (c_Ke_enter_err l hl9 D A r _ u18 x1 1 v19 v12 v17 _ _ e9) (cwV 5 hts (tg_V wl_Ke_225 wm_Ke_enter we_Ke_enter wi_Ke wo_Ke_enter) rfl rfl rfl wq_Ke_enter ⟨Nat.le_of_ble_eq_true rfl, Nat.le_of_ble_eq_true rfl⟩) (ka_preV X9 hP hD hS 0 rfl rfl) rfl rfl hl.1 rfl (lv_room (Nat.le_of_ble_eq_true rfl)) d_Ke_login_128 ⟨Nat.le_of_ble_eq_true rfl, Nat.le_of_ble_eq_true rfl⟩) hlk hex X9 hD hS (Nat.le_of_ble_eq_true rfl) (Nat.le_of_ble_eq_true rfl)
  refine ka_i (va_runV (As := [.int x1, .int 1, .int v19, .int v12, .int v17]) (rest := []) S9 (c_Ke_enter_ok l hl9 D A r _ u18 x1 1 v19 v12 v17 _ _ e9) (cwV 5 hts (tg_V wl_Ke_225 wm_Ke_enter we_Ke_enter wi_Ke wo_Ke_enter) rfl rfl rfl wq_Ke_enter ⟨Nat.le_of_ble_eq_true rfl, Nat.le_of_ble_eq_true rfl⟩) (ka_preV X9 hP hD hS 0 rfl rfl) rfl rfl hl.1 rfl (lv_room (Nat.le_of_ble_eq_true rfl)) d_Ke_login_128 ⟨Nat.le_of_ble_eq_true rfl, Nat.le_of_ble_eq_true rfl⟩) X9 hD hS rfl (fun H locs hP hD hS => ?_)
  cases h
