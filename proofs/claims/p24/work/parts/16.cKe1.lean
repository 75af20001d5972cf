def f_Ke_needRoomIn (σ : KS) (x1 x2 : Int32) : Option (Except Nat Unit × KS) := (f_Tg_quotaOf σ x1).bind fun v1 => (f_Tg_useOf σ x1).bind fun v2 => if v1 < (v2 + x2) then (some (.error 4, σ)) else ((f_Tg_hasNumberLeft σ).bind fun v4 => if v4 = 0 then (some (.error 4, σ)) else ((f_Tg_depthOf σ x1).bind fun v6 => if 12 ≤ v6 then (some (.error 4, σ)) else (some (.ok (), σ))))
set_option maxRecDepth 100000 in
set_option maxHeartbeats 4000000 in
theorem c_Ke_needRoomIn_ok (l : Launch) (hl9 : l.stackTraces = false) (D : va_G) (A : Nat → Nat) (r : va_W) (sz : Nat) (σ : KS) (x1 x2 : Int32) (z9 : Unit) (z : KS) (h : f_Ke_needRoomIn σ x1 x2 = some (.ok z9, z)) : Met l y_Ke_needRoomIn (Cond.code y_Ke_needRoomIn b_Ke_needRoomIn 3 none :: T0) ({ frames := 3, cells := 0, slots := 0, locals := 66 } : Room) (va_Pc [.ref (A 0), .int x1, .int x2] (ka_Wd D A (GW A σ r) sz)) (ka_Rv D (GW A z r) (va_A (GW A σ r) sz)) 0 0 (va_A (GW A σ r) sz) := by
  unfold f_Ke_needRoomIn at h
  refine ka_of (own := R_Ke) (fun A9 => ka_Rv D (GW A z r) A9) (by decide) rfl (Nat.le_of_ble_eq_true rfl) ?_
  intro p e s m below meth c A9 ls S9 hr hlk hex X9 hP hD hl
  obtain ⟨hx, hb, hml, hown, hts⟩ := id S9
  have hK := X9.2.1
  have hS : va_S A9 s.heap s.heap [] := va_S.rf
  replace hl : lv_has ls 3 [(0, .ref (A 0)), (1, .int x1), (2, .int x2)] := hl
  refine lv_aload_n hx hb d_Ke_needRoomIn_0 rfl (lv_at hl 0 rfl) ?_
  refine va_get (D := D) (ci := 4) (v := .ref (A 4)) (C := R_Ke) (T := T_Ke) (N := 5) hx hb hts wu_Ke hown hK hP 0 rfl rfl 3 (by decide) (hts _ wf_Ke_28) (fun _ h9 => h9) rfl d_Ke_needRoomIn_1 ?_
  refine lv_iload_n hx hb d_Ke_needRoomIn_4 rfl (lv_at hl 1 rfl) ?_
  obtain ⟨v1, e9, h⟩ := zo_b h
  refine ka_i (va_runV (As := [.int x1]) (rest := []) S9 (c_Tg_quotaOf l hl9 D A r _ σ x1 _ e9) (cwV 1 hts (tg_V wl_Ke_145 wm_Tg_quotaOf we_Tg_quotaOf wi_Tg wo_Tg_quotaOf) rfl rfl rfl wq_Tg_quotaOf ⟨Nat.le_of_ble_eq_true rfl, Nat.le_of_ble_eq_true rfl⟩) (ka_preV X9 hP hD hS 4 rfl rfl) rfl rfl hl.1 rfl (lv_room (Nat.le_of_ble_eq_true rfl)) d_Ke_needRoomIn_5 ⟨Nat.le_of_ble_eq_true rfl, Nat.le_of_ble_eq_true rfl⟩) X9 hD hS rfl (fun H locs hP hD hS => ?_)
  refine lv_aload_n hx hb d_Ke_needRoomIn_8 rfl (lv_at hl 0 rfl) ?_
  refine va_get (D := D) (ci := 4) (v := .ref (A 4)) (C := R_Ke) (T := T_Ke) (N := 5) hx hb hts wu_Ke hown hK hP 0 rfl rfl 3 (by decide) (hts _ wf_Ke_28) (fun _ h9 => h9) rfl d_Ke_needRoomIn_9 ?_
  refine lv_iload_n hx hb d_Ke_needRoomIn_12 rfl (lv_at hl 1 rfl) ?_
  obtain ⟨v2, e9, h⟩ := zo_b h
  refine ka_i (va_runV (As := [.int x1]) (rest := [.int v1]) S9 (c_Tg_useOf l hl9 D A r _ σ x1 _ e9) (cwV 1 hts (tg_V wl_Ke_148 wm_Tg_useOf we_Tg_useOf wi_Tg wo_Tg_useOf) rfl rfl rfl wq_Tg_useOf ⟨Nat.le_of_ble_eq_true rfl, Nat.le_of_ble_eq_true rfl⟩) (ka_preV X9 hP hD hS 4 rfl rfl) rfl rfl hl.1 rfl (lv_room (Nat.le_of_ble_eq_true rfl)) d_Ke_needRoomIn_13 ⟨Nat.le_of_ble_eq_true rfl, Nat.le_of_ble_eq_true rfl⟩) X9 hD hS rfl (fun H locs hP hD hS => ?_)
  refine lv_iload_n hx hb d_Ke_needRoomIn_16 rfl (lv_at hl 2 rfl) ?_
  refine lv_iadd hx hb d_Ke_needRoomIn_17 ?_
  refine lv_icmp_lt (tgt := 25) hx hb d_Ke_needRoomIn_18 (by decide) (fun c3 => ?_) (fun c3 => ?_)
  · replace h := zo_t c3 h
    refine lv_iconst (v := 0) hx hb d_Ke_needRoomIn_25 (by decide) ?_
    cases h
  replace h := zo_f c3 h
  refine lv_iconst (v := 1) hx hb d_Ke_needRoomIn_21 (by decide) ?_
  refine lv_goto (tgt := 26) hx hb d_Ke_needRoomIn_22 (by decide) ?_
  refine ka_v (va_runS (As := [.int 1]) (rest := []) S9 (c_Ke_needRoom_ok l hl9 D A (GW A σ r) _ 1 (by decide)) (cwS 1 hts (tg_S wl_Ke_60 ws_Ke_needRoom wi_Ke wo_Ke_needRoom) rfl rfl rfl wq_Ke_needRoom ⟨Nat.le_of_ble_eq_true rfl, Nat.le_of_ble_eq_true rfl⟩) (ka_preS X9 hP hD hS) rfl rfl hl.1 rfl (lv_room (Nat.le_of_ble_eq_true rfl)) d_Ke_needRoomIn_26 ⟨Nat.le_of_ble_eq_true rfl, Nat.le_of_ble_eq_true rfl⟩) X9 hD hS rfl (fun H locs hP hD hS => ?_)
  refine lv_aload_n hx hb d_Ke_needRoomIn_29 rfl (lv_at hl 0 rfl) ?_
  refine va_get (D := D) (ci := 4) (v := .ref (A 4)) (C := R_Ke) (T := T_Ke) (N := 5) hx hb hts wu_Ke hown hK hP 0 rfl rfl 3 (by decide) (hts _ wf_Ke_28) (fun _ h9 => h9) rfl d_Ke_needRoomIn_30 ?_
  obtain ⟨v4, e9, h⟩ := zo_b h
  refine ka_i (va_runV (As := []) (rest := []) S9 (c_Tg_hasNumberLeft l hl9 D A r _ σ _ e9) (cwV 0 hts (tg_V wl_Ke_280 wm_Tg_hasNumberLeft we_Tg_hasNumberLeft wi_Tg wo_Tg_hasNumberLeft) rfl rfl rfl wq_Tg_hasNumberLeft ⟨Nat.le_of_ble_eq_true rfl, Nat.le_of_ble_eq_true rfl⟩) (ka_preV X9 hP hD hS 4 rfl rfl) rfl rfl hl.1 rfl (lv_room (Nat.le_of_ble_eq_true rfl)) d_Ke_needRoomIn_33 ⟨Nat.le_of_ble_eq_true rfl, Nat.le_of_ble_eq_true rfl⟩) X9 hD hS rfl (fun H locs hP hD hS => ?_)
  refine lv_if_eq (tgt := 56) hx hb d_Ke_needRoomIn_36 (by decide) (fun c5 => ?_) (fun c5 => ?_)
  · replace h := zo_t c5 h
    refine lv_iconst (v := 0) hx hb d_Ke_needRoomIn_56 (by decide) ?_
    cases h
  replace h := zo_f c5 h
  refine lv_aload_n hx hb d_Ke_needRoomIn_39 rfl (lv_at hl 0 rfl) ?_
  refine va_get (D := D) (ci := 4) (v := .ref (A 4)) (C := R_Ke) (T := T_Ke) (N := 5) hx hb hts wu_Ke hown hK hP 0 rfl rfl 3 (by decide) (hts _ wf_Ke_28) (fun _ h9 => h9) rfl d_Ke_needRoomIn_40 ?_
  refine lv_iload_n hx hb d_Ke_needRoomIn_43 rfl (lv_at hl 1 rfl) ?_
  obtain ⟨v6, e9, h⟩ := zo_b h
  refine ka_i (va_runV (As := [.int x1]) (rest := []) S9 (c_Tg_depthOf l hl9 D A r _ σ x1 _ e9) (cwV 1 hts (tg_V wl_Ke_284 wm_Tg_depthOf we_Tg_depthOf wi_Tg wo_Tg_depthOf) rfl rfl rfl wq_Tg_depthOf ⟨Nat.le_of_ble_eq_true rfl, Nat.le_of_ble_eq_true rfl⟩) (ka_preV X9 hP hD hS 4 rfl rfl) rfl rfl hl.1 rfl (lv_room (Nat.le_of_ble_eq_true rfl)) d_Ke_needRoomIn_44 ⟨Nat.le_of_ble_eq_true rfl, Nat.le_of_ble_eq_true rfl⟩) X9 hD hS rfl (fun H locs hP hD hS => ?_)
  refine lv_bipush (v := 12) hx hb d_Ke_needRoomIn_47 (by decide) ?_
  refine lv_icmp_ge (tgt := 56) hx hb d_Ke_needRoomIn_49 (by decide) (fun c7 => ?_) (fun c7 => ?_)
  · replace h := zo_t c7 h
    refine lv_iconst (v := 0) hx hb d_Ke_needRoomIn_56 (by decide) ?_
    cases h
  replace h := zo_f c7 h
  refine lv_iconst (v := 1) hx hb d_Ke_needRoomIn_52 (by decide) ?_
  refine lv_goto (tgt := 57) hx hb d_Ke_needRoomIn_53 (by decide) ?_
  refine ka_v (va_runS (As := [.int 1]) (rest := []) S9 (c_Ke_needRoom_ok l hl9 D A (GW A σ r) _ 1 (by decide)) (cwS 1 hts (tg_S wl_Ke_60 ws_Ke_needRoom wi_Ke wo_Ke_needRoom) rfl rfl rfl wq_Ke_needRoom ⟨Nat.le_of_ble_eq_true rfl, Nat.le_of_ble_eq_true rfl⟩) (ka_preS X9 hP hD hS) rfl rfl hl.1 rfl (lv_room (Nat.le_of_ble_eq_true rfl)) d_Ke_needRoomIn_57 ⟨Nat.le_of_ble_eq_true rfl, Nat.le_of_ble_eq_true rfl⟩) X9 hD hS rfl (fun H locs hP hD hS => ?_)
  cases h
  exact W.vret hx hb hr (fun t ht hW => ⟨⟨(), rfl, trivial, ka_at ht hP⟩, hS.F ht⟩) hS.2.2 d_Ke_needRoomIn_60 hlk
set_option maxRecDepth 100000 in
set_option maxHeartbeats 4000000 in
theorem c_Ke_needRoomIn_err (l : Launch) (hl9 : l.stackTraces = false) (D : va_G) (A : Nat → Nat) (r : va_W) (sz : Nat) (σ : KS) (x1 x2 : Int32) (k9 : Nat) (z : KS) (h : f_Ke_needRoomIn σ x1 x2 = some (.error k9, z)) : vx_Met l y_Ke_needRoomIn (Cond.code y_Ke_needRoomIn b_Ke_needRoomIn 3 none :: T0) ({ frames := 7, cells := 1, slots := 6, locals := 101 } : Room) (va_Pc [.ref (A 0), .int x1, .int x2] (ka_Wd D A (GW A σ r) sz)) ka_No (ka_Xe D k9 (GW A z r) (va_A (GW A σ r) sz)) 1 6 (va_A (GW A σ r) sz) := by
  unfold f_Ke_needRoomIn at h
  refine ka_ofX (own := R_Ke) (fun A9 => ka_Xe D k9 (GW A z r) A9) (by decide) rfl (Nat.le_of_ble_eq_true rfl) ?_
  intro p e s m below meth c A9 ls S9 hr hlk hex X9 hP hD hl
  obtain ⟨hx, hb, hml, hown, hts⟩ := id S9
  have hK := X9.2.1
  have hS : va_S A9 s.heap s.heap [] := va_S.rf
  replace hl : lv_has ls 3 [(0, .ref (A 0)), (1, .int x1), (2, .int x2)] := hl
  refine lv_aload_n hx hb d_Ke_needRoomIn_0 rfl (lv_at hl 0 rfl) ?_
  refine va_get (D := D) (ci := 4) (v := .ref (A 4)) (C := R_Ke) (T := T_Ke) (N := 5) hx hb hts wu_Ke hown hK hP 0 rfl rfl 3 (by decide) (hts _ wf_Ke_28) (fun _ h9 => h9) rfl d_Ke_needRoomIn_1 ?_
  refine lv_iload_n hx hb d_Ke_needRoomIn_4 rfl (lv_at hl 1 rfl) ?_
  obtain ⟨v1, e9, h⟩ := zo_b h
  refine ka_i (va_runV (As := [.int x1]) (rest := []) S9 (c_Tg_quotaOf l hl9 D A r _ σ x1 _ e9) (cwV 1 hts (tg_V wl_Ke_145 wm_Tg_quotaOf we_Tg_quotaOf wi_Tg wo_Tg_quotaOf) rfl rfl rfl wq_Tg_quotaOf ⟨Nat.le_of_ble_eq_true rfl, Nat.le_of_ble_eq_true rfl⟩) (ka_preV X9 hP hD hS 4 rfl rfl) rfl rfl hl.1 rfl (lv_room (Nat.le_of_ble_eq_true rfl)) d_Ke_needRoomIn_5 ⟨Nat.le_of_ble_eq_true rfl, Nat.le_of_ble_eq_true rfl⟩) X9 hD hS rfl (fun H locs hP hD hS => ?_)
  refine lv_aload_n hx hb d_Ke_needRoomIn_8 rfl (lv_at hl 0 rfl) ?_
  refine va_get (D := D) (ci := 4) (v := .ref (A 4)) (C := R_Ke) (T := T_Ke) (N := 5) hx hb hts wu_Ke hown hK hP 0 rfl rfl 3 (by decide) (hts _ wf_Ke_28) (fun _ h9 => h9) rfl d_Ke_needRoomIn_9 ?_
  refine lv_iload_n hx hb d_Ke_needRoomIn_12 rfl (lv_at hl 1 rfl) ?_
  obtain ⟨v2, e9, h⟩ := zo_b h
  refine ka_i (va_runV (As := [.int x1]) (rest := [.int v1]) S9 (c_Tg_useOf l hl9 D A r _ σ x1 _ e9) (cwV 1 hts (tg_V wl_Ke_148 wm_Tg_useOf we_Tg_useOf wi_Tg wo_Tg_useOf) rfl rfl rfl wq_Tg_useOf ⟨Nat.le_of_ble_eq_true rfl, Nat.le_of_ble_eq_true rfl⟩) (ka_preV X9 hP hD hS 4 rfl rfl) rfl rfl hl.1 rfl (lv_room (Nat.le_of_ble_eq_true rfl)) d_Ke_needRoomIn_13 ⟨Nat.le_of_ble_eq_true rfl, Nat.le_of_ble_eq_true rfl⟩) X9 hD hS rfl (fun H locs hP hD hS => ?_)
  refine lv_iload_n hx hb d_Ke_needRoomIn_16 rfl (lv_at hl 2 rfl) ?_
  refine lv_iadd hx hb d_Ke_needRoomIn_17 ?_
  refine lv_icmp_lt (tgt := 25) hx hb d_Ke_needRoomIn_18 (by decide) (fun c3 => ?_) (fun c3 => ?_)
  · replace h := zo_t c3 h
    refine lv_iconst (v := 0) hx hb d_Ke_needRoomIn_25 (by decide) ?_
    obtain ⟨rfl, rfl⟩ := zo_e h
    exact ka_err (vx_runS (As := [.int 0]) (rest := []) S9 (c_Ke_needRoom_err l hl9 D A (GW A σ r) _ 0 rfl) (cwS 1 hts (tg_S wl_Ke_60 ws_Ke_needRoom wi_Ke wo_Ke_needRoom) rfl rfl rfl wq_Ke_needRoom ⟨Nat.le_of_ble_eq_true rfl, Nat.le_of_ble_eq_true rfl⟩) (ka_preS X9 hP hD hS) rfl rfl hl.1 rfl (lv_room (Nat.le_of_ble_eq_true rfl)) d_Ke_needRoomIn_26 ⟨Nat.le_of_ble_eq_true rfl, Nat.le_of_ble_eq_true rfl⟩) hlk hex X9 hD hS (Nat.le_of_ble_eq_true rfl) (Nat.le_of_ble_eq_true rfl)
  replace h := zo_f c3 h
  refine lv_iconst (v := 1) hx hb d_Ke_needRoomIn_21 (by decide) ?_
  refine lv_goto (tgt := 26) hx hb d_Ke_needRoomIn_22 (by decide) ?_
  refine ka_v (va_runS (As := [.int 1]) (rest := []) S9 (c_Ke_needRoom_ok l hl9 D A (GW A σ r) _ 1 (by decide)) (cwS 1 hts (tg_S wl_Ke_60 ws_Ke_needRoom wi_Ke wo_Ke_needRoom) rfl rfl rfl wq_Ke_needRoom ⟨Nat.le_of_ble_eq_true rfl, Nat.le_of_ble_eq_true rfl⟩) (ka_preS X9 hP hD hS) rfl rfl hl.1 rfl (lv_room (Nat.le_of_ble_eq_true rfl)) d_Ke_needRoomIn_26 ⟨Nat.le_of_ble_eq_true rfl, Nat.le_of_ble_eq_true rfl⟩) X9 hD hS rfl (fun H locs hP hD hS => ?_)
  refine lv_aload_n hx hb d_Ke_needRoomIn_29 rfl (lv_at hl 0 rfl) ?_
  refine va_get (D := D) (ci := 4) (v := .ref (A 4)) (C := R_Ke) (T := T_Ke) (N := 5) hx hb hts wu_Ke hown hK hP 0 rfl rfl 3 (by decide) (hts _ wf_Ke_28) (fun _ h9 => h9) rfl d_Ke_needRoomIn_30 ?_
  obtain ⟨v4, e9, h⟩ := zo_b h
  refine ka_i (va_runV (As := []) (rest := []) S9 (c_Tg_hasNumberLeft l hl9 D A r _ σ _ e9) (cwV 0 hts (tg_V wl_Ke_280 wm_Tg_hasNumberLeft we_Tg_hasNumberLeft wi_Tg wo_Tg_hasNumberLeft) rfl rfl rfl wq_Tg_hasNumberLeft ⟨Nat.le_of_ble_eq_true rfl, Nat.le_of_ble_eq_true rfl⟩) (ka_preV X9 hP hD hS 4 rfl rfl) rfl rfl hl.1 rfl (lv_room (Nat.le_of_ble_eq_true rfl)) d_Ke_needRoomIn_33 ⟨Nat.le_of_ble_eq_true rfl, Nat.le_of_ble_eq_true rfl⟩) X9 hD hS rfl (fun H locs hP hD hS => ?_)
  refine lv_if_eq (tgt := 56) hx hb d_Ke_needRoomIn_36 (by decide) (fun c5 => ?_) (fun c5 => ?_)
  · replace h := zo_t c5 h
    refine lv_iconst (v := 0) hx hb d_Ke_needRoomIn_56 (by decide) ?_
    obtain ⟨rfl, rfl⟩ := zo_e h
    exact ka_err (vx_runS (As := [.int 0]) (rest := []) S9 (c_Ke_needRoom_err l hl9 D A (GW A σ r) _ 0 rfl) (cwS 1 hts (tg_S wl_Ke_60 ws_Ke_needRoom wi_Ke wo_Ke_needRoom) rfl rfl rfl wq_Ke_needRoom ⟨Nat.le_of_ble_eq_true rfl, Nat.le_of_ble_eq_true rfl⟩) (ka_preS X9 hP hD hS) rfl rfl hl.1 rfl (lv_room (Nat.le_of_ble_eq_true rfl)) d_Ke_needRoomIn_57 ⟨Nat.le_of_ble_eq_true rfl, Nat.le_of_ble_eq_true rfl⟩) hlk hex X9 hD hS (Nat.le_of_ble_eq_true rfl) (Nat.le_of_ble_eq_true rfl)
  replace h := zo_f c5 h
  refine lv_aload_n hx hb d_Ke_needRoomIn_39 rfl (lv_at hl 0 rfl) ?_
  refine va_get (D := D) (ci := 4) (v := .ref (A 4)) (C := R_Ke) (T := T_Ke) (N := 5) hx hb hts wu_Ke hown hK hP 0 rfl rfl 3 (by decide) (hts _ wf_Ke_28) (fun _ h9 => h9) rfl d_Ke_needRoomIn_40 ?_
  refine lv_iload_n hx hb d_Ke_needRoomIn_43 rfl (lv_at hl 1 rfl) ?_
  obtain ⟨v6, e9, h⟩ := zo_b h
  refine ka_i (va_runV (As := [.int x1]) (rest := []) S9 (c_Tg_depthOf l hl9 D A r _ σ x1 _ e9) (cwV 1 hts (tg_V wl_Ke_284 wm_Tg_depthOf we_Tg_depthOf wi_Tg wo_Tg_depthOf) rfl rfl rfl wq_Tg_depthOf ⟨Nat.le_of_ble_eq_true rfl, Nat.le_of_ble_eq_true rfl⟩) (ka_preV X9 hP hD hS 4 rfl rfl) rfl rfl hl.1 rfl (lv_room (Nat.le_of_ble_eq_true rfl)) d_Ke_needRoomIn_44 ⟨Nat.le_of_ble_eq_true rfl, Nat.le_of_ble_eq_true rfl⟩) X9 hD hS rfl (fun H locs hP hD hS => ?_)
  refine lv_bipush (v := 12) hx hb d_Ke_needRoomIn_47 (by decide) ?_
  refine lv_icmp_ge (tgt := 56) hx hb d_Ke_needRoomIn_49 (by decide) (fun c7 => ?_) (fun c7 => ?_)
  · replace h := zo_t c7 h
    refine lv_iconst (v := 0) hx hb d_Ke_needRoomIn_56 (by decide) ?_
    obtain ⟨rfl, rfl⟩ := zo_e h
    exact ka_err (vx_runS (As := [.int 0]) (rest := []) S9 (c_Ke_needRoom_err l hl9 D A (GW A σ r) _ 0 rfl) (cwS 1 hts (tg_S wl_Ke_60 ws_Ke_needRoom wi_Ke wo_Ke_needRoom) rfl rfl rfl wq_Ke_needRoom ⟨Nat.le_of_ble_eq_true rfl, Nat.le_of_ble_eq_true rfl⟩) (ka_preS X9 hP hD hS) rfl rfl hl.1 rfl (lv_room (Nat.le_of_ble_eq_true rfl)) d_Ke_needRoomIn_57 ⟨Nat.le_of_ble_eq_true rfl, Nat.le_of_ble_eq_true rfl⟩) hlk hex X9 hD hS (Nat.le_of_ble_eq_true rfl) (Nat.le_of_ble_eq_true rfl)
  replace h := zo_f c7 h
  refine lv_iconst (v := 1) hx hb d_Ke_needRoomIn_52 (by decide) ?_
  refine lv_goto (tgt := 57) hx hb d_Ke_needRoomIn_53 (by decide) ?_
  refine ka_v (va_runS (As := [.int 1]) (rest := []) S9 (c_Ke_needRoom_ok l hl9 D A (GW A σ r) _ 1 (by decide)) (cwS 1 hts (tg_S wl_Ke_60 ws_Ke_needRoom wi_Ke wo_Ke_needRoom) rfl rfl rfl wq_Ke_needRoom ⟨Nat.le_of_ble_eq_true rfl, Nat.le_of_ble_eq_true rfl⟩) (ka_preS X9 hP hD hS) rfl rfl hl.1 rfl (lv_room (Nat.le_of_ble_eq_true rfl)) d_Ke_needRoomIn_57 ⟨Nat.le_of_ble_eq_true rfl, Nat.le_of_ble_eq_true rfl⟩) X9 hD hS rfl (fun H locs hP hD hS => ?_)
  cases h
def f_Ke_container (σ : KS) (x1 x2 x3 x4 : Int32) : Option (Except Nat Int32 × KS) := (f_Lb_isStarless σ x3).bind fun v1 => if v1 = 0 then (some (.error 1, σ)) else ((f_Ke_isBetween x4 1 200).bind fun v3 => if v3 = 0 then (some (.error 1, σ)) else (zx (f_Ke_needThreadAndContainer σ x1 x2) fun _ u6 => zx (f_Ke_needMayMake u6 x1 x2 x3) fun _ u8 => zx (f_Ke_needRoomIn u8 x2 x4) fun _ u10 => (f_Tg_add u10 0 x2 x3 x4).bind fun v11 => some (.ok v11.1, v11.2)))
set_option maxRecDepth 100000 in
set_option maxHeartbeats 4000000 in
theorem c_Ke_container_ok (l : Launch) (hl9 : l.stackTraces = false) (D : va_G) (A : Nat → Nat) (r : va_W) (sz : Nat) (σ : KS) (x1 x2 x3 x4 : Int32) (z9 : Int32) (z : KS) (h : f_Ke_container σ x1 x2 x3 x4 = some (.ok z9, z)) : Met l y_Ke_container (Cond.code y_Ke_container b_Ke_container 5 (some .int) :: T0) ({ frames := 5, cells := 0, slots := 0, locals := 112 } : Room) (va_Pc [.ref (A 0), .int x1, .int x2, .int x3, .int x4] (ka_Wd D A (GW A σ r) sz)) (ka_Ri D z9 (GW A z r) (va_A (GW A σ r) sz)) 0 0 (va_A (GW A σ r) sz) := by
  unfold f_Ke_container at h
  refine ka_of (own := R_Ke) (fun A9 => ka_Ri D z9 (GW A z r) A9) (by decide) rfl (Nat.le_of_ble_eq_true rfl) ?_
  intro p e s m below meth c A9 ls S9 hr hlk hex X9 hP hD hl
  obtain ⟨hx, hb, hml, hown, hts⟩ := id S9
  have hK := X9.2.1
  have hS : va_S A9 s.heap s.heap [] := va_S.rf
  replace hl : lv_has ls 5 [(0, .ref (A 0)), (1, .int x1), (2, .int x2), (3, .int x3), (4, .int x4)] := hl
  refine lv_aload_n hx hb d_Ke_container_0 rfl (lv_at hl 0 rfl) ?_
  refine va_get (D := D) (ci := 4) (v := .ref (A 2)) (C := R_Ke) (T := T_Ke) (N := 5) hx hb hts wu_Ke hown hK hP 0 rfl rfl 2 (by decide) (hts _ wf_Ke_23) (fun _ h9 => h9) rfl d_Ke_container_1 ?_
  refine lv_iload_n hx hb d_Ke_container_4 rfl (lv_at hl 3 rfl) ?_
  obtain ⟨v1, e9, h⟩ := zo_b h
  refine ka_i (va_runV (As := [.int x3]) (rest := []) S9 (c_Lb_isStarless l hl9 D A r _ σ x3 _ e9) (cwV 1 hts (tg_V wl_Ke_100 wm_Lb_isStarless we_Lb_isStarless wi_Lb wo_Lb_isStarless) rfl rfl rfl wq_Lb_isStarless ⟨Nat.le_of_ble_eq_true rfl, Nat.le_of_ble_eq_true rfl⟩) (ka_preV X9 hP hD hS 2 rfl rfl) rfl rfl hl.1 rfl (lv_room (Nat.le_of_ble_eq_true rfl)) d_Ke_container_5 ⟨Nat.le_of_ble_eq_true rfl, Nat.le_of_ble_eq_true rfl⟩) X9 hD hS rfl (fun H locs hP hD hS => ?_)
  refine lv_if_eq (tgt := 27) hx hb d_Ke_container_8 (by decide) (fun c2 => ?_) (fun c2 => ?_)
  · replace h := zo_t c2 h
    refine lv_iconst (v := 0) hx hb d_Ke_container_27 (by decide) ?_
    cases h
  replace h := zo_f c2 h
  refine lv_iload hx hb d_Ke_container_11 (lv_at hl 4 rfl) ?_
  refine lv_iconst (v := 1) hx hb d_Ke_container_13 (by decide) ?_
  refine lv_sipush (v := 200) hx hb d_Ke_container_14 (by decide) ?_
  obtain ⟨v3, e9, h⟩ := zo_b h
  refine ka_i (va_runS (As := [.int x4, .int 1, .int 200]) (rest := []) S9 (c_Ke_isBetween l hl9 D A (GW A σ r) _ x4 1 200 _ e9) (cwS 3 hts (tg_S wl_Ke_40 ws_Ke_isBetween wi_Ke wo_Ke_isBetween) rfl rfl rfl wq_Ke_isBetween ⟨Nat.le_of_ble_eq_true rfl, Nat.le_of_ble_eq_true rfl⟩) (ka_preS X9 hP hD hS) rfl rfl hl.1 rfl (lv_room (Nat.le_of_ble_eq_true rfl)) d_Ke_container_17 ⟨Nat.le_of_ble_eq_true rfl, Nat.le_of_ble_eq_true rfl⟩) X9 hD hS rfl (fun H locs hP hD hS => ?_)
  refine lv_if_eq (tgt := 27) hx hb d_Ke_container_20 (by decide) (fun c4 => ?_) (fun c4 => ?_)
  · replace h := zo_t c4 h
    refine lv_iconst (v := 0) hx hb d_Ke_container_27 (by decide) ?_
    cases h
  replace h := zo_f c4 h
  refine lv_iconst (v := 1) hx hb d_Ke_container_23 (by decide) ?_
  refine lv_goto (tgt := 28) hx hb d_Ke_container_24 (by decide) ?_
  refine ka_v (va_runS (As := [.int 1]) (rest := []) S9 (c_Ke_needNumber_ok l hl9 D A (GW A σ r) _ 1 (by decide)) (cwS 1 hts (tg_S wl_Ke_44 ws_Ke_needNumber wi_Ke wo_Ke_needNumber) rfl rfl rfl wq_Ke_needNumber ⟨Nat.le_of_ble_eq_true rfl, Nat.le_of_ble_eq_true rfl⟩) (ka_preS X9 hP hD hS) rfl rfl hl.1 rfl (lv_room (Nat.le_of_ble_eq_true rfl)) d_Ke_container_28 ⟨Nat.le_of_ble_eq_true rfl, Nat.le_of_ble_eq_true rfl⟩) X9 hD hS rfl (fun H locs hP hD hS => ?_)
  refine lv_aload_n hx hb d_Ke_container_31 rfl (lv_at hl 0 rfl) ?_
  refine lv_iload_n hx hb d_Ke_container_32 rfl (lv_at hl 1 rfl) ?_
  refine lv_iload_n hx hb d_Ke_container_33 rfl (lv_at hl 2 rfl) ?_
  rcases zo_x h with ⟨k9, u6, e9, h⟩ | ⟨v5, u6, e9, h⟩
  · cases h
  refine ka_v (va_runV (As := [.int x1, .int x2]) (rest := []) S9 (c_Ke_needThreadAndContainer_ok l hl9 D A r _ σ x1 x2 _ _ e9) (cwV 2 hts (tg_V wl_Ke_103 wm_Ke_needThreadAndContainer we_Ke_needThreadAndContainer wi_Ke wo_Ke_needThreadAndContainer) rfl rfl rfl wq_Ke_needThreadAndContainer ⟨Nat.le_of_ble_eq_true rfl, Nat.le_of_ble_eq_true rfl⟩) (ka_preV X9 hP hD hS 0 rfl rfl) rfl rfl hl.1 rfl (lv_room (Nat.le_of_ble_eq_true rfl)) d_Ke_container_34 ⟨Nat.le_of_ble_eq_true rfl, Nat.le_of_ble_eq_true rfl⟩) X9 hD hS rfl (fun H locs hP hD hS => ?_)
  refine lv_aload_n hx hb d_Ke_container_37 rfl (lv_at hl 0 rfl) ?_
  refine lv_iload_n hx hb d_Ke_container_38 rfl (lv_at hl 1 rfl) ?_
  refine lv_iload_n hx hb d_Ke_container_39 rfl (lv_at hl 2 rfl) ?_
  refine lv_iload_n hx hb d_Ke_container_40 rfl (lv_at hl 3 rfl) ?_
  rcases zo_x h with ⟨k9, u8, e9, h⟩ | ⟨v7, u8, e9, h⟩
  · cases h
  refine ka_v (va_runV (As := [.int x1, .int x2, .int x3]) (rest := []) S9 (c_Ke_needMayMake_ok l hl9 D A r _ u6 x1 x2 x3 _ _ e9) (cwV 3 hts (tg_V wl_Ke_106 wm_Ke_needMayMake we_Ke_needMayMake wi_Ke wo_Ke_needMayMake) rfl rfl rfl wq_Ke_needMayMake ⟨Nat.le_of_ble_eq_true rfl, Nat.le_of_ble_eq_true rfl⟩) (ka_preV X9 hP hD hS 0 rfl rfl) rfl rfl hl.1 rfl (lv_room (Nat.le_of_ble_eq_true rfl)) d_Ke_container_41 ⟨Nat.le_of_ble_eq_true rfl, Nat.le_of_ble_eq_true rfl⟩) X9 hD hS rfl (fun H locs hP hD hS => ?_)
  refine lv_aload_n hx hb d_Ke_container_44 rfl (lv_at hl 0 rfl) ?_
  refine lv_iload_n hx hb d_Ke_container_45 rfl (lv_at hl 2 rfl) ?_
  refine lv_iload hx hb d_Ke_container_46 (lv_at hl 4 rfl) ?_
  rcases zo_x h with ⟨k9, u10, e9, h⟩ | ⟨v9, u10, e9, h⟩
  · cases h
  refine ka_v (va_runV (As := [.int x2, .int x4]) (rest := []) S9 (c_Ke_needRoomIn_ok l hl9 D A r _ u8 x2 x4 _ _ e9) (cwV 2 hts (tg_V wl_Ke_110 wm_Ke_needRoomIn we_Ke_needRoomIn wi_Ke wo_Ke_needRoomIn) rfl rfl rfl wq_Ke_needRoomIn ⟨Nat.le_of_ble_eq_true rfl, Nat.le_of_ble_eq_true rfl⟩) (ka_preV X9 hP hD hS 0 rfl rfl) rfl rfl hl.1 rfl (lv_room (Nat.le_of_ble_eq_true rfl)) d_Ke_container_48 ⟨Nat.le_of_ble_eq_true rfl, Nat.le_of_ble_eq_true rfl⟩) X9 hD hS rfl (fun H locs hP hD hS => ?_)
  refine lv_aload_n hx hb d_Ke_container_51 rfl (lv_at hl 0 rfl) ?_
  refine va_get (D := D) (ci := 4) (v := .ref (A 4)) (C := R_Ke) (T := T_Ke) (N := 5) hx hb hts wu_Ke hown hK hP 0 rfl rfl 3 (by decide) (hts _ wf_Ke_28) (fun _ h9 => h9) rfl d_Ke_container_52 ?_
  refine lv_iconst (v := 0) hx hb d_Ke_container_55 (by decide) ?_
  refine lv_iload_n hx hb d_Ke_container_56 rfl (lv_at hl 2 rfl) ?_
  refine lv_iload_n hx hb d_Ke_container_57 rfl (lv_at hl 3 rfl) ?_
  refine lv_iload hx hb d_Ke_container_58 (lv_at hl 4 rfl) ?_
  obtain ⟨v11, e9, h⟩ := zo_b h
  refine ka_i (va_runV (As := [.int 0, .int x2, .int x3, .int x4]) (rest := []) S9 (c_Tg_add l hl9 D A r _ u10 0 x2 x3 x4 _ e9) (cwV 4 hts (tg_V wl_Ke_113 wm_Tg_add we_Tg_add wi_Tg wo_Tg_add) rfl rfl rfl wq_Tg_add ⟨Nat.le_of_ble_eq_true rfl, Nat.le_of_ble_eq_true rfl⟩) (ka_preV X9 hP hD hS 4 rfl rfl) rfl rfl hl.1 rfl (lv_room (Nat.le_of_ble_eq_true rfl)) d_Ke_container_60 ⟨Nat.le_of_ble_eq_true rfl, Nat.le_of_ble_eq_true rfl⟩) X9 hD hS rfl (fun H locs hP hD hS => ?_)
  cases h
  exact W.iret hx hb hr (fun t ht hW => ⟨⟨_, (), rfl, rfl, ka_at ht hP⟩, hS.F ht⟩) hS.2.2 d_Ke_container_63 hlk
set_option maxRecDepth 100000 in
set_option maxHeartbeats 4000000 in
theorem c_Ke_container_err (l : Launch) (hl9 : l.stackTraces = false) (D : va_G) (A : Nat → Nat) (r : va_W) (sz : Nat) (σ : KS) (x1 x2 x3 x4 : Int32) (k9 : Nat) (z : KS) (h : f_Ke_container σ x1 x2 x3 x4 = some (.error k9, z)) : vx_Met l y_Ke_container (Cond.code y_Ke_container b_Ke_container 5 (some .int) :: T0) ({ frames := 8, cells := 1, slots := 6, locals := 124 } : Room) (va_Pc [.ref (A 0), .int x1, .int x2, .int x3, .int x4] (ka_Wd D A (GW A σ r) sz)) ka_No (ka_Xe D k9 (GW A z r) (va_A (GW A σ r) sz)) 1 6 (va_A (GW A σ r) sz) := by
  unfold f_Ke_container at h
  refine ka_ofX (own := R_Ke) (fun A9 => ka_Xe D k9 (GW A z r) A9) (by decide) rfl (Nat.le_of_ble_eq_true rfl) ?_
  intro p e s m below meth c A9 ls S9 hr hlk hex X9 hP hD hl
  obtain ⟨hx, hb, hml, hown, hts⟩ := id S9
  have hK := X9.2.1
  have hS : va_S A9 s.heap s.heap [] := va_S.rf
  replace hl : lv_has ls 5 [(0, .ref (A 0)), (1, .int x1), (2, .int x2), (3, .int x3), (4, .int x4)] := hl
  refine lv_aload_n hx hb d_Ke_container_0 rfl (lv_at hl 0 rfl) ?_
  refine va_get (D := D) (ci := 4) (v := .ref (A 2)) (C := R_Ke) (T := T_Ke) (N := 5) hx hb hts wu_Ke hown hK hP 0 rfl rfl 2 (by decide) (hts _ wf_Ke_23) (fun _ h9 => h9) rfl d_Ke_container_1 ?_
  refine lv_iload_n hx hb d_Ke_container_4 rfl (lv_at hl 3 rfl) ?_
  obtain ⟨v1, e9, h⟩ := zo_b h
  refine ka_i (va_runV (As := [.int x3]) (rest := []) S9 (c_Lb_isStarless l hl9 D A r _ σ x3 _ e9) (cwV 1 hts (tg_V wl_Ke_100 wm_Lb_isStarless we_Lb_isStarless wi_Lb wo_Lb_isStarless) rfl rfl rfl wq_Lb_isStarless ⟨Nat.le_of_ble_eq_true rfl, Nat.le_of_ble_eq_true rfl⟩) (ka_preV X9 hP hD hS 2 rfl rfl) rfl rfl hl.1 rfl (lv_room (Nat.le_of_ble_eq_true rfl)) d_Ke_container_5 ⟨Nat.le_of_ble_eq_true rfl, Nat.le_of_ble_eq_true rfl⟩) X9 hD hS rfl (fun H locs hP hD hS => ?_)
  refine lv_if_eq (tgt := 27) hx hb d_Ke_container_8 (by decide) (fun c2 => ?_) (fun c2 => ?_)
  · replace h := zo_t c2 h
    refine lv_iconst (v := 0) hx hb d_Ke_container_27 (by decide) ?_
    obtain ⟨rfl, rfl⟩ := zo_e h
    exact ka_err (vx_runS (As := [.int 0]) (rest := []) S9 (c_Ke_needNumber_err l hl9 D A (GW A σ r) _ 0 rfl) (cwS 1 hts (tg_S wl_Ke_44 ws_Ke_needNumber wi_Ke wo_Ke_needNumber) rfl rfl rfl wq_Ke_needNumber ⟨Nat.le_of_ble_eq_true rfl, Nat.le_of_ble_eq_true rfl⟩) (ka_preS X9 hP hD hS) rfl rfl hl.1 rfl (lv_room (Nat.le_of_ble_eq_true rfl)) d_Ke_container_28 ⟨Nat.le_of_ble_eq_true rfl, Nat.le_of_ble_eq_true rfl⟩) hlk hex X9 hD hS (Nat.le_of_ble_eq_true rfl) (Nat.le_of_ble_eq_true rfl)
  replace h := zo_f c2 h
  refine lv_iload hx hb d_Ke_container_11 (lv_at hl 4 rfl) ?_
  refine lv_iconst (v := 1) hx hb d_Ke_container_13 (by decide) ?_
  refine lv_sipush (v := 200) hx hb d_Ke_container_14 (by decide) ?_
  obtain ⟨v3, e9, h⟩ := zo_b h
  refine ka_i (va_runS (As := [.int x4, .int 1, .int 200]) (rest := []) S9 (c_Ke_isBetween l hl9 D A (GW A σ r) _ x4 1 200 _ e9) (cwS 3 hts (tg_S wl_Ke_40 ws_Ke_isBetween wi_Ke wo_Ke_isBetween) rfl rfl rfl wq_Ke_isBetween ⟨Nat.le_of_ble_eq_true rfl, Nat.le_of_ble_eq_true rfl⟩) (ka_preS X9 hP hD hS) rfl rfl hl.1 rfl (lv_room (Nat.le_of_ble_eq_true rfl)) d_Ke_container_17 ⟨Nat.le_of_ble_eq_true rfl, Nat.le_of_ble_eq_true rfl⟩) X9 hD hS rfl (fun H locs hP hD hS => ?_)
  refine lv_if_eq (tgt := 27) hx hb d_Ke_container_20 (by decide) (fun c4 => ?_) (fun c4 => ?_)
  · replace h := zo_t c4 h
    refine lv_iconst (v := 0) hx hb d_Ke_container_27 (by decide) ?_
    obtain ⟨rfl, rfl⟩ := zo_e h
    exact ka_err (vx_runS (As := [.int 0]) (rest := []) S9 (c_Ke_needNumber_err l hl9 D A (GW A σ r) _ 0 rfl) (cwS 1 hts (tg_S wl_Ke_44 ws_Ke_needNumber wi_Ke wo_Ke_needNumber) rfl rfl rfl wq_Ke_needNumber ⟨Nat.le_of_ble_eq_true rfl, Nat.le_of_ble_eq_true rfl⟩) (ka_preS X9 hP hD hS) rfl rfl hl.1 rfl (lv_room (Nat.le_of_ble_eq_true rfl)) d_Ke_container_28 ⟨Nat.le_of_ble_eq_true rfl, Nat.le_of_ble_eq_true rfl⟩) hlk hex X9 hD hS (Nat.le_of_ble_eq_true rfl) (Nat.le_of_ble_eq_true rfl)
  replace h := zo_f c4 h
  refine lv_iconst (v := 1) hx hb d_Ke_container_23 (by decide) ?_
  refine lv_goto (tgt := 28) hx hb d_Ke_container_24 (by decide) ?_
  refine ka_v (va_runS (As := [.int 1]) (rest := []) S9 (c_Ke_needNumber_ok l hl9 D A (GW A σ r) _ 1 (by decide)) (cwS 1 hts (tg_S wl_Ke_44 ws_Ke_needNumber wi_Ke wo_Ke_needNumber) rfl rfl rfl wq_Ke_needNumber ⟨Nat.le_of_ble_eq_true rfl, Nat.le_of_ble_eq_true rfl⟩) (ka_preS X9 hP hD hS) rfl rfl hl.1 rfl (lv_room (Nat.le_of_ble_eq_true rfl)) d_Ke_container_28 ⟨Nat.le_of_ble_eq_true rfl, Nat.le_of_ble_eq_true rfl⟩) X9 hD hS rfl (fun H locs hP hD hS => ?_)
  refine lv_aload_n hx hb d_Ke_container_31 rfl (lv_at hl 0 rfl) ?_
  refine lv_iload_n hx hb d_Ke_container_32 rfl (lv_at hl 1 rfl) ?_
  refine lv_iload_n hx hb d_Ke_container_33 rfl (lv_at hl 2 rfl) ?_
  rcases zo_x h with ⟨k9, u6, e9, h⟩ | ⟨v5, u6, e9, h⟩
  · cases h
    exact ka_err (vx_runV (As := [.int x1, .int x2]) (rest := []) S9 (c_Ke_needThreadAndContainer_err l hl9 D A r _ σ x1 x2 _ _ e9) (cwV 2 hts (tg_V wl_Ke_103 wm_Ke_needThreadAndContainer we_Ke_needThreadAndContainer wi_Ke wo_Ke_needThreadAndContainer) rfl rfl rfl wq_Ke_needThreadAndContainer ⟨Nat.le_of_ble_eq_true rfl, Nat.le_of_ble_eq_true rfl⟩) (ka_preV X9 hP hD hS 0 rfl rfl) rfl rfl hl.1 rfl (lv_room (Nat.le_of_ble_eq_true rfl)) d_Ke_container_34 ⟨Nat.le_of_ble_eq_true rfl, Nat.le_of_ble_eq_true rfl⟩) hlk hex X9 hD hS (Nat.le_of_ble_eq_true rfl) (Nat.le_of_ble_eq_true rfl)
  refine ka_v (va_runV (As := [.int x1, .int x2]) (rest := []) S9 (c_Ke_needThreadAndContainer_ok l hl9 D A r _ σ x1 x2 _ _ e9) (cwV 2 hts (tg_V wl_Ke_103 wm_Ke_needThreadAndContainer we_Ke_needThreadAndContainer wi_Ke wo_Ke_needThreadAndContainer) rfl rfl rfl wq_Ke_needThreadAndContainer ⟨Nat.le_of_ble_eq_true rfl, Nat.le_of_ble_eq_true rfl⟩) (ka_preV X9 hP hD hS 0 rfl rfl) rfl rfl hl.1 rfl (lv_room (Nat.le_of_ble_eq_true rfl)) d_Ke_container_34 ⟨Nat.le_of_ble_eq_true rfl, Nat.le_of_ble_eq_true rfl⟩) X9 hD hS rfl (fun H locs hP hD hS => ?_)
  refine lv_aload_n hx hb d_Ke_container_37 rfl (lv_at hl 0 rfl) ?_
  refine lv_iload_n hx hb d_Ke_container_38 rfl (lv_at hl 1 rfl) ?_
  refine lv_iload_n hx hb d_Ke_container_39 rfl (lv_at hl 2 rfl) ?_
  refine lv_iload_n hx hb d_Ke_container_40 rfl (lv_at hl 3 rfl) ?_
  rcases zo_x h with ⟨k9, u8, e9, h⟩ | ⟨v7, u8, e9, h⟩
  · cases h
    exact ka_err (vx_runV (As := [.int x1, .int x2, .int x3]) (rest := []) S9 (c_Ke_needMayMake_err l hl9 D A r _ u6 x1 x2 x3 _ _ e9) (cwV 3 hts (tg_V wl_Ke_106 wm_Ke_needMayMake we_Ke_needMayMake wi_Ke wo_Ke_needMayMake) rfl rfl rfl wq_Ke_needMayMake ⟨Nat.le_of_ble_eq_true rfl, Nat.le_of_ble_eq_true rfl⟩) (ka_preV X9 hP hD hS 0 rfl rfl) rfl rfl hl.1 rfl (lv_room (Nat.le_of_ble_eq_true rfl)) d_Ke_container_41 ⟨Nat.le_of_ble_eq_true rfl, Nat.le_of_ble_eq_true rfl⟩) hlk hex X9 hD hS (Nat.le_of_ble_eq_true rfl) (Nat.le_of_ble_eq_true rfl)
  refine ka_v (va_runV (As := [.int x1, .int x2, .int x3]) (rest := []) S9 (c_Ke_needMayMake_ok l hl9 D A r _ u6 x1 x2 x3 _ _ e9) (cwV 3 hts (tg_V wl_Ke_106 wm_Ke_needMayMake we_Ke_needMayMake wi_Ke wo_Ke_needMayMake) rfl rfl rfl wq_Ke_needMayMake ⟨Nat.le_of_ble_eq_true rfl, Nat.le_of_ble_eq_true rfl⟩) (ka_preV X9 hP hD hS 0 rfl rfl) rfl rfl hl.1 rfl (lv_room (Nat.le_of_ble_eq_true rfl)) d_Ke_container_41 ⟨Nat.le_of_ble_eq_true rfl, Nat.le_of_ble_eq_true rfl⟩) X9 hD hS rfl (fun H locs hP hD hS => ?_)
  refine lv_aload_n hx hb d_Ke_container_44 rfl (lv_at hl 0 rfl) ?_
  refine lv_iload_n hx hb d_Ke_container_45 rfl (lv_at hl 2 rfl) ?_
  refine lv_iload hx hb d_Ke_container_46 (lv_at hl 4 rfl) ?_
  rcases zo_x h with ⟨k9, u10, e9, h⟩ | ⟨v9, u10, e9, h⟩
  · cases h
    exact ka_err (vx_runV (As := [.int x2, .int x4]) (rest := []) S9 (c_Ke_needRoomIn_err l hl9 D A r _ u8 x2 x4 _ _ e9) (cwV 2 hts (tg_V wl_Ke_110 wm_Ke_needRoomIn we_Ke_needRoomIn wi_Ke wo_Ke_needRoomIn) rfl rfl rfl wq_Ke_needRoomIn ⟨Nat.le_of_ble_eq_true rfl, Nat.le_of_ble_eq_true rfl⟩) (ka_preV X9 hP hD hS 0 rfl rfl) rfl rfl hl.1 rfl (lv_room (Nat.le_of_ble_eq_true rfl)) d_Ke_container_48 ⟨Nat.le_of_ble_eq_true rfl, Nat.le_of_ble_eq_true rfl⟩) hlk hex X9 hD hS (Nat.le_of_ble_eq_true rfl) (Nat.le_of_ble_eq_true rfl)
  refine ka_v (va_runV (As := [.int x2, .int x4]) (rest := []) S9 (c_Ke_needRoomIn_ok l hl9 D A r _ u8 x2 x4 _ _ e9) (cwV 2 hts (tg_V wl_Ke_110 wm_Ke_needRoomIn we_Ke_needRoomIn wi_Ke wo_Ke_needRoomIn) rfl rfl rfl wq_Ke_needRoomIn ⟨Nat.le_of_ble_eq_true rfl, Nat.le_of_ble_eq_true rfl⟩) (ka_preV X9 hP hD hS 0 rfl rfl) rfl rfl hl.1 rfl (lv_room (Nat.le_of_ble_eq_true rfl)) d_Ke_container_48 ⟨Nat.le_of_ble_eq_true rfl, Nat.le_of_ble_eq_true rfl⟩) X9 hD hS rfl (fun H locs hP hD hS => ?_)
  refine lv_aload_n hx hb d_Ke_container_51 rfl (lv_at hl 0 rfl) ?_
  refine va_get (D := D) (ci := 4) (v := .ref (A 4)) (C := R_Ke) (T := T_Ke) (N := 5) hx hb hts wu_Ke hown hK hP 0 rfl rfl 3 (by decide) (hts _ wf_Ke_28) (fun _ h9 => h9) rfl d_Ke_container_52 ?_
  refine lv_iconst (v := 0) hx hb d_Ke_container_55 (by decide) ?_
  refine lv_iload_n hx hb d_Ke_container_56 rfl (lv_at hl 2 rfl) ?_
  refine lv_iload_n hx hb d_Ke_container_57 rfl (lv_at hl 3 rfl) ?_
  refine lv_iload hx hb d_Ke_container_58 (lv_at hl 4 rfl) ?_
  obtain ⟨v11, e9, h⟩ := zo_b h
  refine ka_i (va_runV (As := [.int 0, .int x2, .int x3, .int x4]) (rest := []) S9 (c_Tg_add l hl9 D A r _ u10 0 x2 x3 x4 _ e9) (cwV 4 hts (tg_V wl_Ke_113 wm_Tg_add we_Tg_add wi_Tg wo_Tg_add) rfl rfl rfl wq_Tg_add ⟨Nat.le_of_ble_eq_true rfl, Nat.le_of_ble_eq_true rfl⟩) (ka_preV X9 hP hD hS 4 rfl rfl) rfl rfl hl.1 rfl (lv_room (Nat.le_of_ble_eq_true rfl)) d_Ke_container_60 ⟨Nat.le_of_ble_eq_true rfl, Nat.le_of_ble_eq_true rfl⟩) X9 hD hS rfl (fun H locs hP hD hS => ?_)
  cases h
def f_Ke_segment (σ : KS) (x1 x2 x3 x4 : Int32) : Option (Except Nat Int32 × KS) := (f_Lb_isStarless σ x3).bind fun v1 => if v1 = 0 then (some (.error 1, σ)) else ((f_Ke_isBetween x4 1 8).bind fun v3 => if v3 = 0 then (some (.error 1, σ)) else (zx (f_Ke_needThreadAndContainer σ x1 x2) fun _ u6 => zx (f_Ke_needMayMake u6 x1 x2 x3) fun _ u8 => zx (f_Ke_needRoomIn u8 x2 (1 + x4)) fun _ u10 => (f_Tg_add u10 1 x2 x3 (1 + x4)).bind fun v11 => (f_Tg_setCellCount v11.2 v11.1 x4).bind fun v12 => some (.ok v11.1, v12)))
set_option maxRecDepth 100000 in
set_option maxHeartbeats 4000000 in
theorem c_Ke_segment_ok (l : Launch) (hl9 : l.stackTraces = false) (D : va_G) (A : Nat → Nat) (r : va_W) (sz : Nat) (σ : KS) (x1 x2 x3 x4 : Int32) (z9 : Int32) (z : KS) (h : f_Ke_segment σ x1 x2 x3 x4 = some (.ok z9, z)) : Met l y_Ke_segment (Cond.code y_Ke_segment b_Ke_segment 6 (some .int) :: T0) ({ frames := 5, cells := 0, slots := 0, locals := 112 } : Room) (va_Pc [.ref (A 0), .int x1, .int x2, .int x3, .int x4] (ka_Wd D A (GW A σ r) sz)) (ka_Ri D z9 (GW A z r) (va_A (GW A σ r) sz)) 0 0 (va_A (GW A σ r) sz) := by
  unfold f_Ke_segment at h
  refine ka_of (own := R_Ke) (fun A9 => ka_Ri D z9 (GW A z r) A9) (by decide) rfl (Nat.le_of_ble_eq_true rfl) ?_
  intro p e s m below meth c A9 ls S9 hr hlk hex X9 hP hD hl
  obtain ⟨hx, hb, hml, hown, hts⟩ := id S9
  have hK := X9.2.1
  have hS : va_S A9 s.heap s.heap [] := va_S.rf
  replace hl : lv_has ls 6 [(0, .ref (A 0)), (1, .int x1), (2, .int x2), (3, .int x3), (4, .int x4)] := hl
  refine lv_aload_n hx hb d_Ke_segment_0 rfl (lv_at hl 0 rfl) ?_
  refine va_get (D := D) (ci := 4) (v := .ref (A 2)) (C := R_Ke) (T := T_Ke) (N := 5) hx hb hts wu_Ke hown hK hP 0 rfl rfl 2 (by decide) (hts _ wf_Ke_23) (fun _ h9 => h9) rfl d_Ke_segment_1 ?_
  refine lv_iload_n hx hb d_Ke_segment_4 rfl (lv_at hl 3 rfl) ?_
  obtain ⟨v1, e9, h⟩ := zo_b h
  refine ka_i (va_runV (As := [.int x3]) (rest := []) S9 (c_Lb_isStarless l hl9 D A r _ σ x3 _ e9) (cwV 1 hts (tg_V wl_Ke_100 wm_Lb_isStarless we_Lb_isStarless wi_Lb wo_Lb_isStarless) rfl rfl rfl wq_Lb_isStarless ⟨Nat.le_of_ble_eq_true rfl, Nat.le_of_ble_eq_true rfl⟩) (ka_preV X9 hP hD hS 2 rfl rfl) rfl rfl hl.1 rfl (lv_room (Nat.le_of_ble_eq_true rfl)) d_Ke_segment_5 ⟨Nat.le_of_ble_eq_true rfl, Nat.le_of_ble_eq_true rfl⟩) X9 hD hS rfl (fun H locs hP hD hS => ?_)
  refine lv_if_eq (tgt := 26) hx hb d_Ke_segment_8 (by decide) (fun c2 => ?_) (fun c2 => ?_)
  · replace h := zo_t c2 h
    refine lv_iconst (v := 0) hx hb d_Ke_segment_26 (by decide) ?_
    cases h
  replace h := zo_f c2 h
  refine lv_iload hx hb d_Ke_segment_11 (lv_at hl 4 rfl) ?_
  refine lv_iconst (v := 1) hx hb d_Ke_segment_13 (by decide) ?_
  refine lv_bipush (v := 8) hx hb d_Ke_segment_14 (by decide) ?_
  obtain ⟨v3, e9, h⟩ := zo_b h
  refine ka_i (va_runS (As := [.int x4, .int 1, .int 8]) (rest := []) S9 (c_Ke_isBetween l hl9 D A (GW A σ r) _ x4 1 8 _ e9) (cwS 3 hts (tg_S wl_Ke_40 ws_Ke_isBetween wi_Ke wo_Ke_isBetween) rfl rfl rfl wq_Ke_isBetween ⟨Nat.le_of_ble_eq_true rfl, Nat.le_of_ble_eq_true rfl⟩) (ka_preS X9 hP hD hS) rfl rfl hl.1 rfl (lv_room (Nat.le_of_ble_eq_true rfl)) d_Ke_segment_16 ⟨Nat.le_of_ble_eq_true rfl, Nat.le_of_ble_eq_true rfl⟩) X9 hD hS rfl (fun H locs hP hD hS => ?_)
  refine lv_if_eq (tgt := 26) hx hb d_Ke_segment_19 (by decide) (fun c4 => ?_) (fun c4 => ?_)
  · replace h := zo_t c4 h
    refine lv_iconst (v := 0) hx hb d_Ke_segment_26 (by decide) ?_
    cases h
  replace h := zo_f c4 h
  refine lv_iconst (v := 1) hx hb d_Ke_segment_22 (by decide) ?_
  refine lv_goto (tgt := 27) hx hb d_Ke_segment_23 (by decide) ?_
  refine ka_v (va_runS (As := [.int 1]) (rest := []) S9 (c_Ke_needNumber_ok l hl9 D A (GW A σ r) _ 1 (by decide)) (cwS 1 hts (tg_S wl_Ke_44 ws_Ke_needNumber wi_Ke wo_Ke_needNumber) rfl rfl rfl wq_Ke_needNumber ⟨Nat.le_of_ble_eq_true rfl, Nat.le_of_ble_eq_true rfl⟩) (ka_preS X9 hP hD hS) rfl rfl hl.1 rfl (lv_room (Nat.le_of_ble_eq_true rfl)) d_Ke_segment_27 ⟨Nat.le_of_ble_eq_true rfl, Nat.le_of_ble_eq_true rfl⟩) X9 hD hS rfl (fun H locs hP hD hS => ?_)
  refine lv_aload_n hx hb d_Ke_segment_30 rfl (lv_at hl 0 rfl) ?_
  refine lv_iload_n hx hb d_Ke_segment_31 rfl (lv_at hl 1 rfl) ?_
  refine lv_iload_n hx hb d_Ke_segment_32 rfl (lv_at hl 2 rfl) ?_
  rcases zo_x h with ⟨k9, u6, e9, h⟩ | ⟨v5, u6, e9, h⟩
  · cases h
  refine ka_v (va_runV (As := [.int x1, .int x2]) (rest := []) S9 (c_Ke_needThreadAndContainer_ok l hl9 D A r _ σ x1 x2 _ _ e9) (cwV 2 hts (tg_V wl_Ke_103 wm_Ke_needThreadAndContainer we_Ke_needThreadAndContainer wi_Ke wo_Ke_needThreadAndContainer) rfl rfl rfl wq_Ke_needThreadAndContainer ⟨Nat.le_of_ble_eq_true rfl, Nat.le_of_ble_eq_true rfl⟩) (ka_preV X9 hP hD hS 0 rfl rfl) rfl rfl hl.1 rfl (lv_room (Nat.le_of_ble_eq_true rfl)) d_Ke_segment_33 ⟨Nat.le_of_ble_eq_true rfl, Nat.le_of_ble_eq_true rfl⟩) X9 hD hS rfl (fun H locs hP hD hS => ?_)
  refine lv_aload_n hx hb d_Ke_segment_36 rfl (lv_at hl 0 rfl) ?_
  refine lv_iload_n hx hb d_Ke_segment_37 rfl (lv_at hl 1 rfl) ?_
  refine lv_iload_n hx hb d_Ke_segment_38 rfl (lv_at hl 2 rfl) ?_
  refine lv_iload_n hx hb d_Ke_segment_39 rfl (lv_at hl 3 rfl) ?_
  rcases zo_x h with ⟨k9, u8, e9, h⟩ | ⟨v7, u8, e9, h⟩
  · cases h
  refine ka_v (va_runV (As := [.int x1, .int x2, .int x3]) (rest := []) S9 (c_Ke_needMayMake_ok l hl9 D A r _ u6 x1 x2 x3 _ _ e9) (cwV 3 hts (tg_V wl_Ke_106 wm_Ke_needMayMake we_Ke_needMayMake wi_Ke wo_Ke_needMayMake) rfl rfl rfl wq_Ke_needMayMake ⟨Nat.le_of_ble_eq_true rfl, Nat.le_of_ble_eq_true rfl⟩) (ka_preV X9 hP hD hS 0 rfl rfl) rfl rfl hl.1 rfl (lv_room (Nat.le_of_ble_eq_true rfl)) d_Ke_segment_40 ⟨Nat.le_of_ble_eq_true rfl, Nat.le_of_ble_eq_true rfl⟩) X9 hD hS rfl (fun H locs hP hD hS => ?_)
  refine lv_aload_n hx hb d_Ke_segment_43 rfl (lv_at hl 0 rfl) ?_
  refine lv_iload_n hx hb d_Ke_segment_44 rfl (lv_at hl 2 rfl) ?_
  refine lv_iconst (v := 1) hx hb d_Ke_segment_45 (by decide) ?_
  refine lv_iload hx hb d_Ke_segment_46 (lv_at hl 4 rfl) ?_
  refine lv_iadd hx hb d_Ke_segment_48 ?_
  rcases zo_x h with ⟨k9, u10, e9, h⟩ | ⟨v9, u10, e9, h⟩
  · cases h
  refine ka_v (va_runV (As := [.int x2, .int (1 + x4)]) (rest := []) S9 (c_Ke_needRoomIn_ok l hl9 D A r _ u8 x2 (1 + x4) _ _ e9) (cwV 2 hts (tg_V wl_Ke_110 wm_Ke_needRoomIn we_Ke_needRoomIn wi_Ke wo_Ke_needRoomIn) rfl rfl rfl wq_Ke_needRoomIn ⟨Nat.le_of_ble_eq_true rfl, Nat.le_of_ble_eq_true rfl⟩) (ka_preV X9 hP hD hS 0 rfl rfl) rfl rfl hl.1 rfl (lv_room (Nat.le_of_ble_eq_true rfl)) d_Ke_segment_49 ⟨Nat.le_of_ble_eq_true rfl, Nat.le_of_ble_eq_true rfl⟩) X9 hD hS rfl (fun H locs hP hD hS => ?_)
  refine lv_aload_n hx hb d_Ke_segment_52 rfl (lv_at hl 0 rfl) ?_
  refine va_get (D := D) (ci := 4) (v := .ref (A 4)) (C := R_Ke) (T := T_Ke) (N := 5) hx hb hts wu_Ke hown hK hP 0 rfl rfl 3 (by decide) (hts _ wf_Ke_28) (fun _ h9 => h9) rfl d_Ke_segment_53 ?_
  refine lv_iconst (v := 1) hx hb d_Ke_segment_56 (by decide) ?_
  refine lv_iload_n hx hb d_Ke_segment_57 rfl (lv_at hl 2 rfl) ?_
  refine lv_iload_n hx hb d_Ke_segment_58 rfl (lv_at hl 3 rfl) ?_
  refine lv_iconst (v := 1) hx hb d_Ke_segment_59 (by decide) ?_
  refine lv_iload hx hb d_Ke_segment_60 (lv_at hl 4 rfl) ?_
  refine lv_iadd hx hb d_Ke_segment_62 ?_
  obtain ⟨v11, e9, h⟩ := zo_b h
  refine ka_i (va_runV (As := [.int 1, .int x2, .int x3, .int (1 + x4)]) (rest := []) S9 (c_Tg_add l hl9 D A r _ u10 1 x2 x3 (1 + x4) _ e9) (cwV 4 hts (tg_V wl_Ke_113 wm_Tg_add we_Tg_add wi_Tg wo_Tg_add) rfl rfl rfl wq_Tg_add ⟨Nat.le_of_ble_eq_true rfl, Nat.le_of_ble_eq_true rfl⟩) (ka_preV X9 hP hD hS 4 rfl rfl) rfl rfl hl.1 rfl (lv_room (Nat.le_of_ble_eq_true rfl)) d_Ke_segment_63 ⟨Nat.le_of_ble_eq_true rfl, Nat.le_of_ble_eq_true rfl⟩) X9 hD hS rfl (fun H locs hP hD hS => ?_)
  refine lv_istore (lv' := [(5, .int v11.1), (0, .ref (A 0)), (1, .int x1), (2, .int x2), (3, .int x3), (4, .int x4)]) hx hb d_Ke_segment_66 hl (by decide) rfl (fun ls hl => ?_)
  refine lv_aload_n hx hb d_Ke_segment_68 rfl (lv_at hl 1 rfl) ?_
  refine va_get (D := D) (ci := 4) (v := .ref (A 4)) (C := R_Ke) (T := T_Ke) (N := 5) hx hb hts wu_Ke hown hK hP 0 rfl rfl 3 (by decide) (hts _ wf_Ke_28) (fun _ h9 => h9) rfl d_Ke_segment_69 ?_
  refine lv_iload hx hb d_Ke_segment_72 (lv_at hl 0 rfl) ?_
  refine lv_iload hx hb d_Ke_segment_74 (lv_at hl 5 rfl) ?_
  obtain ⟨v12, e9, h⟩ := zo_b h
  refine ka_v (va_runV (As := [.int v11.1, .int x4]) (rest := []) S9 (c_Tg_setCellCount l hl9 D A r _ v11.2 v11.1 x4 _ e9) (cwV 2 hts (tg_V wl_Ke_117 wm_Tg_setCellCount we_Tg_setCellCount wi_Tg wo_Tg_setCellCount) rfl rfl rfl wq_Tg_setCellCount ⟨Nat.le_of_ble_eq_true rfl, Nat.le_of_ble_eq_true rfl⟩) (ka_preV X9 hP hD hS 4 rfl rfl) rfl rfl hl.1 rfl (lv_room (Nat.le_of_ble_eq_true rfl)) d_Ke_segment_76 ⟨Nat.le_of_ble_eq_true rfl, Nat.le_of_ble_eq_true rfl⟩) X9 hD hS rfl (fun H locs hP hD hS => ?_)
  refine lv_iload hx hb d_Ke_segment_79 (lv_at hl 0 rfl) ?_
  cases h
  exact W.iret hx hb hr (fun t ht hW => ⟨⟨_, (), rfl, rfl, ka_at ht hP⟩, hS.F ht⟩) hS.2.2 d_Ke_segment_81 hlk
set_option maxRecDepth 100000 in
set_option maxHeartbeats 4000000 in
theorem c_Ke_segment_err (l : Launch) (hl9 : l.stackTraces = false) (D : va_G) (A : Nat → Nat) (r : va_W) (sz : Nat) (σ : KS) (x1 x2 x3 x4 : Int32) (k9 : Nat) (z : KS) (h : f_Ke_segment σ x1 x2 x3 x4 = some (.error k9, z)) : vx_Met l y_Ke_segment (Cond.code y_Ke_segment b_Ke_segment 6 (some .int) :: T0) ({ frames := 8, cells := 1, slots := 6, locals := 124 } : Room) (va_Pc [.ref (A 0), .int x1, .int x2, .int x3, .int x4] (ka_Wd D A (GW A σ r) sz)) ka_No (ka_Xe D k9 (GW A z r) (va_A (GW A σ r) sz)) 1 6 (va_A (GW A σ r) sz) := by
  unfold f_Ke_segment at h
  refine ka_ofX (own := R_Ke) (fun A9 => ka_Xe D k9 (GW A z r) A9) (by decide) rfl (Nat.le_of_ble_eq_true rfl) ?_
  intro p e s m below meth c A9 ls S9 hr hlk hex X9 hP hD hl
  obtain ⟨hx, hb, hml, hown, hts⟩ := id S9
  have hK := X9.2.1
  have hS : va_S A9 s.heap s.heap [] := va_S.rf
  replace hl : lv_has ls 6 [(0, .ref (A 0)), (1, .int x1), (2, .int x2), (3, .int x3), (4, .int x4)] := hl
  refine lv_aload_n hx hb d_Ke_segment_0 rfl (lv_at hl 0 rfl) ?_
  refine va_get (D := D) (ci := 4) (v := .ref (A 2)) (C := R_Ke) (T := T_Ke) (N := 5) hx hb hts wu_Ke hown hK hP 0 rfl rfl 2 (by decide) (hts _ wf_Ke_23) (fun _ h9 => h9) rfl d_Ke_segment_1 ?_
  refine lv_iload_n hx hb d_Ke_segment_4 rfl (lv_at hl 3 rfl) ?_
  obtain ⟨v1, e9, h⟩ := zo_b h
  refine ka_i (va_runV (As := [.int x3]) (rest := []) S9 (c_Lb_isStarless l hl9 D A r _ σ x3 _ e9) (cwV 1 hts (tg_V wl_Ke_100 wm_Lb_isStarless we_Lb_isStarless wi_Lb wo_Lb_isStarless) rfl rfl rfl wq_Lb_isStarless ⟨Nat.le_of_ble_eq_true rfl, Nat.le_of_ble_eq_true rfl⟩) (ka_preV X9 hP hD hS 2 rfl rfl) rfl rfl hl.1 rfl (lv_room (Nat.le_of_ble_eq_true rfl)) d_Ke_segment_5 ⟨Nat.le_of_ble_eq_true rfl, Nat.le_of_ble_eq_true rfl⟩) X9 hD hS rfl (fun H locs hP hD hS => ?_)
  refine lv_if_eq (tgt := 26) hx hb d_Ke_segment_8 (by decide) (fun c2 => ?_) (fun c2 => ?_)
  · replace h := zo_t c2 h
    refine lv_iconst (v := 0) hx hb d_Ke_segment_26 (by decide) ?_
    obtain ⟨rfl, rfl⟩ := zo_e h
    exact ka_err (vx_runS (As := [.int 0]) (rest := []) S9 (c_Ke_needNumber_err l hl9 D A (GW A σ r) _ 0 rfl) (cwS 1 hts (tg_S wl_Ke_44 ws_Ke_needNumber wi_Ke wo_Ke_needNumber) rfl rfl rfl wq_Ke_needNumber ⟨Nat.le_of_ble_eq_true rfl, Nat.le_of_ble_eq_true rfl⟩) (ka_preS X9 hP hD hS) rfl rfl hl.1 rfl (lv_room (Nat.le_of_ble_eq_true rfl)) d_Ke_segment_27 ⟨Nat.le_of_ble_eq_true rfl, Nat.le_of_ble_eq_true rfl⟩) hlk hex X9 hD hS (Nat.le_of_ble_eq_true rfl) (Nat.le_of_ble_eq_true rfl)
  replace h := zo_f c2 h
  refine lv_iload hx hb d_Ke_segment_11 (lv_at hl 4 rfl) ?_
  refine lv_iconst (v := 1) hx hb d_Ke_segment_13 (by decide) ?_
  refine lv_bipush (v := 8) hx hb d_Ke_segment_14 (by decide) ?_
  obtain ⟨v3, e9, h⟩ := zo_b h
  refine ka_i (va_runS (As := [.int x4, .int 1, .int 8]) (rest := []) S9 (c_Ke_isBetween l hl9 D A (GW A σ r) _ x4 1 8 _ e9) (cwS 3 hts (tg_S wl_Ke_40 ws_Ke_isBetween wi_Ke wo_Ke_isBetween) rfl rfl rfl wq_Ke_isBetween ⟨Nat.le_of_ble_eq_true rfl, Nat.le_of_ble_eq_true rfl⟩) (ka_preS X9 hP hD hS) rfl rfl hl.1 rfl (lv_room (Nat.le_of_ble_eq_true rfl)) d_Ke_segment_16 ⟨Nat.le_of_ble_eq_true rfl, Nat.le_of_ble_eq_true rfl⟩) X9 hD hS rfl (fun H locs hP hD hS => ?_)
  refine lv_if_eq (tgt := 26) hx hb d_Ke_segment_19 (by decide) (fun c4 => ?_) (fun c4 => ?_)
  · replace h := zo_t c4 h
    refine lv_iconst (v := 0) hx hb d_Ke_segment_26 (by decide) ?_
    obtain ⟨rfl, rfl⟩ := zo_e h
    exact ka_err (vx_runS (As := [.int 0]) (rest := []) S9 (c_Ke_needNumber_err l hl9 D A (GW A σ r) _ 0 rfl) (cwS 1 hts (tg_S wl_Ke_44 ws_Ke_needNumber wi_Ke wo_Ke_needNumber) rfl rfl rfl wq_Ke_needNumber ⟨Nat.le_of_ble_eq_true rfl, Nat.le_of_ble_eq_true rfl⟩) (ka_preS X9 hP hD hS) rfl rfl hl.1 rfl (lv_room (Nat.le_of_ble_eq_true rfl)) d_Ke_segment_27 ⟨Nat.le_of_ble_eq_true rfl, Nat.le_of_ble_eq_true rfl⟩) hlk hex X9 hD hS (Nat.le_of_ble_eq_true rfl) (Nat.le_of_ble_eq_true rfl)
  replace h := zo_f c4 h
  refine lv_iconst (v := 1) hx hb d_Ke_segment_22 (by decide) ?_
  refine lv_goto (tgt := 27) hx hb d_Ke_segment_23 (by decide) ?_
  refine ka_v (va_runS (As := [.int 1]) (rest := []) S9 (c_Ke_needNumber_ok l hl9 D A (GW A σ r) _ 1 (by decide)) (cwS 1 hts (tg_S wl_Ke_44 ws_Ke_needNumber wi_Ke wo_Ke_needNumber) rfl rfl rfl wq_Ke_needNumber ⟨Nat.le_of_ble_eq_true rfl, Nat.le_of_ble_eq_true rfl⟩) (ka_preS X9 hP hD hS) rfl rfl hl.1 rfl (lv_room (Nat.le_of_ble_eq_true rfl)) d_Ke_segment_27 ⟨Nat.le_of_ble_eq_true rfl, Nat.le_of_ble_eq_true rfl⟩) X9 hD hS rfl (fun H locs hP hD hS => ?_)
  refine lv_aload_n hx hb d_Ke_segment_30 rfl (lv_at hl 0 rfl) ?_
  refine lv_iload_n hx hb d_Ke_segment_31 rfl (lv_at hl 1 rfl) ?_
  refine lv_iload_n hx hb d_Ke_segment_32 rfl (lv_at hl 2 rfl) ?_
  rcases zo_x h with ⟨k9, u6, e9, h⟩ | ⟨v5, u6, e9, h⟩
  · cases h
    exact ka_err (vx_runV (As := [.int x1, .int x2]) (rest := []) S9 (c_Ke_needThreadAndContainer_err l hl9 D A r _ σ x1 x2 _ _ e9) (cwV 2 hts (tg_V wl_Ke_103 wm_Ke_needThreadAndContainer we_Ke_needThreadAndContainer wi_Ke wo_Ke_needThreadAndContainer) rfl rfl rfl wq_Ke_needThreadAndContainer ⟨Nat.le_of_ble_eq_true rfl, Nat.le_of_ble_eq_true rfl⟩) (ka_preV X9 hP hD hS 0 rfl rfl) rfl rfl hl.1 rfl (lv_room (Nat.le_of_ble_eq_true rfl)) d_Ke_segment_33 ⟨Nat.le_of_ble_eq_true rfl, Nat.le_of_ble_eq_true rfl⟩) hlk hex X9 hD hS (Nat.le_of_ble_eq_true rfl) (Nat.le_of_ble_eq_true rfl)
  refine ka_v (va_runV (As := [.int x1, .int x2]) (rest := []) S9 (c_Ke_needThreadAndContainer_ok l hl9 D A r _ σ x1 x2 _ _ e9) (cwV 2 hts (tg_V wl_Ke_103 wm_Ke_needThreadAndContainer we_Ke_needThreadAndContainer wi_Ke wo_Ke_needThreadAndContainer) rfl rfl rfl wq_Ke_needThreadAndContainer ⟨Nat.le_of_ble_eq_true rfl, Nat.le_of_ble_eq_true rfl⟩) (ka_preV X9 hP hD hS 0 rfl rfl) rfl rfl hl.1 rfl (lv_room (Nat.le_of_ble_eq_true rfl)) d_Ke_segment_33 ⟨Nat.le_of_ble_eq_true rfl, Nat.le_of_ble_eq_true rfl⟩) X9 hD hS rfl (fun H locs hP hD hS => ?_)
  refine lv_aload_n hx hb d_Ke_segment_36 rfl (lv_at hl 0 rfl) ?_
  refine lv_iload_n hx hb d_Ke_segment_37 rfl (lv_at hl 1 rfl) ?_
  refine lv_iload_n hx hb d_Ke_segment_38 rfl (lv_at hl 2 rfl) ?_
  refine lv_iload_n hx hb d_Ke_segment_39 rfl (lv_at hl 3 rfl) ?_
  rcases zo_x h with ⟨k9, u8, e9, h⟩ | ⟨v7, u8, e9, h⟩
  · cases h
    exact ka_err (vx_runV (As := [.int x1, .int x2, .int x3]) (rest := []) S9 (c_Ke_needMayMake_err l hl9 D A r _ u6 x1 x2 x3 _ _ e9) (cwV 3 hts (tg_V wl_Ke_106 wm_Ke_needMayMake we_Ke_needMayMake wi_Ke wo_Ke_needMayMake) rfl rfl rfl wq_Ke_needMayMake ⟨Nat.le_of_ble_eq_true rfl, Nat.le_of_ble_eq_true rfl⟩) (ka_preV X9 hP hD hS 0 rfl rfl) rfl rfl hl.1 rfl (lv_room (Nat.le_of_ble_eq_true rfl)) d_Ke_segment_40 ⟨Nat.le_of_ble_eq_true rfl, Nat.le_of_ble_eq_true rfl⟩) hlk hex X9 hD hS (Nat.le_of_ble_eq_true rfl) (Nat.le_of_ble_eq_true rfl)
  refine ka_v (va_runV (As := [.int x1, .int x2, .int x3]) (rest := []) S9 (c_Ke_needMayMake_ok l hl9 D A r _ u6 x1 x2 x3 _ _ e9) (cwV 3 hts (tg_V wl_Ke_106 wm_Ke_needMayMake we_Ke_needMayMake wi_Ke wo_Ke_needMayMake) rfl rfl rfl wq_Ke_needMayMake ⟨Nat.le_of_ble_eq_true rfl, Nat.le_of_ble_eq_true rfl⟩) (ka_preV X9 hP hD hS 0 rfl rfl) rfl rfl hl.1 rfl (lv_room (Nat.le_of_ble_eq_true rfl)) d_Ke_segment_40 ⟨Nat.le_of_ble_eq_true rfl, Nat.le_of_ble_eq_true rfl⟩) X9 hD hS rfl (fun H locs hP hD hS => ?_)
  refine lv_aload_n hx hb d_Ke_segment_43 rfl (lv_at hl 0 rfl) ?_
  refine lv_iload_n hx hb d_Ke_segment_44 rfl (lv_at hl 2 rfl) ?_
  refine lv_iconst (v := 1) hx hb d_Ke_segment_45 (by decide) ?_
  refine lv_iload hx hb d_Ke_segment_46 (lv_at hl 4 rfl) ?_
  refine lv_iadd hx hb d_Ke_segment_48 ?_
  rcases zo_x h with ⟨k9, u10, e9, h⟩ | ⟨v9, u10, e9, h⟩
  · cases h
    exact ka_err (vx_runV (As := [.int x2, .int (1 + x4)]) (rest := []) S9 (c_Ke_needRoomIn_err l hl9 D A r _ u8 x2 (1 + x4) _ _ e9) (cwV 2 hts (tg_V wl_Ke_110 wm_Ke_needRoomIn we_Ke_needRoomIn wi_Ke wo_Ke_needRoomIn) rfl rfl rfl wq_Ke_needRoomIn ⟨Nat.le_of_ble_eq_true rfl, Nat.le_of_ble_eq_true rfl⟩) (ka_preV X9 hP hD hS 0 rfl rfl) rfl rfl hl.1 rfl (lv_room (Nat.le_of_ble_eq_true rfl)) d_Ke_segment_49 ⟨Nat.le_of_ble_eq_true rfl, Nat.le_of_ble_eq_true rfl⟩) hlk hex X9 hD hS (Nat.le_of_ble_eq_true rfl) (Nat.le_of_ble_eq_true rfl)
  refine ka_v (va_runV (As := [.int x2, .int (1 + x4)]) (rest := []) S9 (c_Ke_needRoomIn_ok l hl9 D A r _ u8 x2 (1 + x4) _ _ e9) (cwV 2 hts (tg_V wl_Ke_110 wm_Ke_needRoomIn we_Ke_needRoomIn wi_Ke wo_Ke_needRoomIn) rfl rfl rfl wq_Ke_needRoomIn ⟨Nat.le_of_ble_eq_true rfl, Nat.le_of_ble_eq_true rfl⟩) (ka_preV X9 hP hD hS 0 rfl rfl) rfl rfl hl.1 rfl (lv_room (Nat.le_of_ble_eq_true rfl)) d_Ke_segment_49 ⟨Nat.le_of_ble_eq_true rfl, Nat.le_of_ble_eq_true rfl⟩) X9 hD hS rfl (fun H locs hP hD hS => ?_)
  refine lv_aload_n hx hb d_Ke_segment_52 rfl (lv_at hl 0 rfl) ?_
  refine va_get (D := D) (ci := 4) (v := .ref (A 4)) (C := R_Ke) (T := T_Ke) (N := 5) hx hb hts wu_Ke hown hK hP 0 rfl rfl 3 (by decide) (hts _ wf_Ke_28) (fun _ h9 => h9) rfl d_Ke_segment_53 ?_
  refine lv_iconst (v := 1) hx hb d_Ke_segment_56 (by decide) ?_
  refine lv_iload_n hx hb d_Ke_segment_57 rfl (lv_at hl 2 rfl) ?_
  refine lv_iload_n hx hb d_Ke_segment_58 rfl (lv_at hl 3 rfl) ?_
  refine lv_iconst (v := 1) hx hb d_Ke_segment_59 (by decide) ?_
  refine lv_iload hx hb d_Ke_segment_60 (lv_at hl 4 rfl) ?_
  refine lv_iadd hx hb d_Ke_segment_62 ?_
  obtain ⟨v11, e9, h⟩ := zo_b h
  refine ka_i (va_runV (As := [.int 1, .int x2, .int x3, .int (1 + x4)]) (rest := []) S9 (c_Tg_add l hl9 D A r _ u10 1 x2 x3 (1 + x4) _ e9) (cwV 4 hts (tg_V wl_Ke_113 wm_Tg_add we_Tg_add wi_Tg wo_Tg_add) rfl rfl rfl wq_Tg_add ⟨Nat.le_of_ble_eq_true rfl, Nat.le_of_ble_eq_true rfl⟩) (ka_preV X9 hP hD hS 4 rfl rfl) rfl rfl hl.1 rfl (lv_room (Nat.le_of_ble_eq_true rfl)) d_Ke_segment_63 ⟨Nat.le_of_ble_eq_true rfl, Nat.le_of_ble_eq_true rfl⟩) X9 hD hS rfl (fun H locs hP hD hS => ?_)
  refine lv_istore (lv' := [(5, .int v11.1), (0, .ref (A 0)), (1, .int x1), (2, .int x2), (3, .int x3), (4, .int x4)]) hx hb d_Ke_segment_66 hl (by decide) rfl (fun ls hl => ?_)
  refine lv_aload_n hx hb d_Ke_segment_68 rfl (lv_at hl 1 rfl) ?_
  refine va_get (D := D) (ci := 4) (v := .ref (A 4)) (C := R_Ke) (T := T_Ke) (N := 5) hx hb hts wu_Ke hown hK hP 0 rfl rfl 3 (by decide) (hts _ wf_Ke_28) (fun _ h9 => h9) rfl d_Ke_segment_69 ?_
  refine lv_iload hx hb d_Ke_segment_72 (lv_at hl 0 rfl) ?_
  refine lv_iload hx hb d_Ke_segment_74 (lv_at hl 5 rfl) ?_
  obtain ⟨v12, e9, h⟩ := zo_b h
  refine ka_v (va_runV (As := [.int v11.1, .int x4]) (rest := []) S9 (c_Tg_setCellCount l hl9 D A r _ v11.2 v11.1 x4 _ e9) (cwV 2 hts (tg_V wl_Ke_117 wm_Tg_setCellCount we_Tg_setCellCount wi_Tg wo_Tg_setCellCount) rfl rfl rfl wq_Tg_setCellCount ⟨Nat.le_of_ble_eq_true rfl, Nat.le_of_ble_eq_true rfl⟩) (ka_preV X9 hP hD hS 4 rfl rfl) rfl rfl hl.1 rfl (lv_room (Nat.le_of_ble_eq_true rfl)) d_Ke_segment_76 ⟨Nat.le_of_ble_eq_true rfl, Nat.le_of_ble_eq_true rfl⟩) X9 hD hS rfl (fun H locs hP hD hS => ?_)
  refine lv_iload hx hb d_Ke_segment_79 (lv_at hl 0 rfl) ?_
  cases h
def f_Ke_gate (σ : KS) (x1 x2 x3 x4 x5 : Int32) : Option (Except Nat Int32 × KS) := (f_Lb_has σ x3).bind fun v1 => if v1 = 0 then (some (.error 1, σ)) else ((f_Lb_isStarless σ x4).bind fun v3 => if v3 = 0 then (some (.error 1, σ)) else (zx (f_Ke_needThreadAndContainer σ x1 x2) fun _ u6 => zx (f_Ke_needMayMake u6 x1 x2 x3) fun _ u8 => zx (f_Ke_needRoomIn u8 x2 2) fun _ u10 => (f_Tg_add u10 2 x2 x3 2).bind fun v11 => (f_Tg_clearanceOf v11.2 x1).bind fun v12 => (f_Tg_setClearance v11.2 v11.1 v12).bind fun v13 => (f_Tg_setGuardAndEntry v13 v11.1 x4 x5).bind fun v14 => some (.ok v11.1, v14)))
set_option maxRecDepth 100000 in
set_option maxHeartbeats 4000000 in
theorem c_Ke_gate_ok (l : Launch) (hl9 : l.stackTraces = false) (D : va_G) (A : Nat → Nat) (r : va_W) (sz : Nat) (σ : KS) (x1 x2 x3 x4 x5 : Int32) (z9 : Int32) (z : KS) (h : f_Ke_gate σ x1 x2 x3 x4 x5 = some (.ok z9, z)) : Met l y_Ke_gate (Cond.code y_Ke_gate b_Ke_gate 7 (some .int) :: T0) ({ frames := 5, cells := 0, slots := 0, locals := 112 } : Room) (va_Pc [.ref (A 0), .int x1, .int x2, .int x3, .int x4, .int x5] (ka_Wd D A (GW A σ r) sz)) (ka_Ri D z9 (GW A z r) (va_A (GW A σ r) sz)) 0 0 (va_A (GW A σ r) sz) := by
  unfold f_Ke_gate at h
  refine ka_of (own := R_Ke) (fun A9 => ka_Ri D z9 (GW A z r) A9) (by decide) rfl (Nat.le_of_ble_eq_true rfl) ?_
  intro p e s m below meth c A9 ls S9 hr hlk hex X9 hP hD hl
  obtain ⟨hx, hb, hml, hown, hts⟩ := id S9
  have hK := X9.2.1
  have hS : va_S A9 s.heap s.heap [] := va_S.rf
  replace hl : lv_has ls 7 [(0, .ref (A 0)), (1, .int x1), (2, .int x2), (3, .int x3), (4, .int x4), (5, .int x5)] := hl
  refine lv_aload_n hx hb d_Ke_gate_0 rfl (lv_at hl 0 rfl) ?_
  refine va_get (D := D) (ci := 4) (v := .ref (A 2)) (C := R_Ke) (T := T_Ke) (N := 5) hx hb hts wu_Ke hown hK hP 0 rfl rfl 2 (by decide) (hts _ wf_Ke_23) (fun _ h9 => h9) rfl d_Ke_gate_1 ?_
  refine lv_iload_n hx hb d_Ke_gate_4 rfl (lv_at hl 3 rfl) ?_
  obtain ⟨v1, e9, h⟩ := zo_b h
  refine ka_i (va_runV (As := [.int x3]) (rest := []) S9 (c_Lb_has l hl9 D A r _ σ x3 _ e9) (cwV 1 hts (tg_V wl_Ke_34 wm_Lb_has we_Lb_has wi_Lb wo_Lb_has) rfl rfl rfl wq_Lb_has ⟨Nat.le_of_ble_eq_true rfl, Nat.le_of_ble_eq_true rfl⟩) (ka_preV X9 hP hD hS 2 rfl rfl) rfl rfl hl.1 rfl (lv_room (Nat.le_of_ble_eq_true rfl)) d_Ke_gate_5 ⟨Nat.le_of_ble_eq_true rfl, Nat.le_of_ble_eq_true rfl⟩) X9 hD hS rfl (fun H locs hP hD hS => ?_)
  refine lv_if_eq (tgt := 27) hx hb d_Ke_gate_8 (by decide) (fun c2 => ?_) (fun c2 => ?_)
  · replace h := zo_t c2 h
    refine lv_iconst (v := 0) hx hb d_Ke_gate_27 (by decide) ?_
    cases h
  replace h := zo_f c2 h
  refine lv_aload_n hx hb d_Ke_gate_11 rfl (lv_at hl 0 rfl) ?_
  refine va_get (D := D) (ci := 4) (v := .ref (A 2)) (C := R_Ke) (T := T_Ke) (N := 5) hx hb hts wu_Ke hown hK hP 0 rfl rfl 2 (by decide) (hts _ wf_Ke_23) (fun _ h9 => h9) rfl d_Ke_gate_12 ?_
  refine lv_iload hx hb d_Ke_gate_15 (lv_at hl 4 rfl) ?_
  obtain ⟨v3, e9, h⟩ := zo_b h
  refine ka_i (va_runV (As := [.int x4]) (rest := []) S9 (c_Lb_isStarless l hl9 D A r _ σ x4 _ e9) (cwV 1 hts (tg_V wl_Ke_100 wm_Lb_isStarless we_Lb_isStarless wi_Lb wo_Lb_isStarless) rfl rfl rfl wq_Lb_isStarless ⟨Nat.le_of_ble_eq_true rfl, Nat.le_of_ble_eq_true rfl⟩) (ka_preV X9 hP hD hS 2 rfl rfl) rfl rfl hl.1 rfl (lv_room (Nat.le_of_ble_eq_true rfl)) d_Ke_gate_17 ⟨Nat.le_of_ble_eq_true rfl, Nat.le_of_ble_eq_true rfl⟩) X9 hD hS rfl (fun H locs hP hD hS => ?_)
  refine lv_if_eq (tgt := 27) hx hb d_Ke_gate_20 (by decide) (fun c4 => ?_) (fun c4 => ?_)
  · replace h := zo_t c4 h
    refine lv_iconst (v := 0) hx hb d_Ke_gate_27 (by decide) ?_
    cases h
  replace h := zo_f c4 h
  refine lv_iconst (v := 1) hx hb d_Ke_gate_23 (by decide) ?_
  refine lv_goto (tgt := 28) hx hb d_Ke_gate_24 (by decide) ?_
  refine ka_v (va_runS (As := [.int 1]) (rest := []) S9 (c_Ke_needNumber_ok l hl9 D A (GW A σ r) _ 1 (by decide)) (cwS 1 hts (tg_S wl_Ke_44 ws_Ke_needNumber wi_Ke wo_Ke_needNumber) rfl rfl rfl wq_Ke_needNumber ⟨Nat.le_of_ble_eq_true rfl, Nat.le_of_ble_eq_true rfl⟩) (ka_preS X9 hP hD hS) rfl rfl hl.1 rfl (lv_room (Nat.le_of_ble_eq_true rfl)) d_Ke_gate_28 ⟨Nat.le_of_ble_eq_true rfl, Nat.le_of_ble_eq_true rfl⟩) X9 hD hS rfl (fun H locs hP hD hS => ?_)
  refine lv_aload_n hx hb d_Ke_gate_31 rfl (lv_at hl 0 rfl) ?_
  refine lv_iload_n hx hb d_Ke_gate_32 rfl (lv_at hl 1 rfl) ?_
  refine lv_iload_n hx hb d_Ke_gate_33 rfl (lv_at hl 2 rfl) ?_
  rcases zo_x h with ⟨k9, u6, e9, h⟩ | ⟨v5, u6, e9, h⟩
  · cases h
  refine ka_v (va_runV (As := [.int x1, .int x2]) (rest := []) S9 (c_Ke_needThreadAndContainer_ok l hl9 D A r _ σ x1 x2 _ _ e9) (cwV 2 hts (tg_V wl_Ke_103 wm_Ke_needThreadAndContainer we_Ke_needThreadAndContainer wi_Ke wo_Ke_needThreadAndContainer) rfl rfl rfl wq_Ke_needThreadAndContainer ⟨Nat.le_of_ble_eq_true rfl, Nat.le_of_ble_eq_true rfl⟩) (ka_preV X9 hP hD hS 0 rfl rfl) rfl rfl hl.1 rfl (lv_room (Nat.le_of_ble_eq_true rfl)) d_Ke_gate_34 ⟨Nat.le_of_ble_eq_true rfl, Nat.le_of_ble_eq_true rfl⟩) X9 hD hS rfl (fun H locs hP hD hS => ?_)
  refine lv_aload_n hx hb d_Ke_gate_37 rfl (lv_at hl 0 rfl) ?_
  refine lv_iload_n hx hb d_Ke_gate_38 rfl (lv_at hl 1 rfl) ?_
  refine lv_iload_n hx hb d_Ke_gate_39 rfl (lv_at hl 2 rfl) ?_
  refine lv_iload_n hx hb d_Ke_gate_40 rfl (lv_at hl 3 rfl) ?_
  rcases zo_x h with ⟨k9, u8, e9, h⟩ | ⟨v7, u8, e9, h⟩
  · cases h
  refine ka_v (va_runV (As := [.int x1, .int x2, .int x3]) (rest := []) S9 (c_Ke_needMayMake_ok l hl9 D A r _ u6 x1 x2 x3 _ _ e9) (cwV 3 hts (tg_V wl_Ke_106 wm_Ke_needMayMake we_Ke_needMayMake wi_Ke wo_Ke_needMayMake) rfl rfl rfl wq_Ke_needMayMake ⟨Nat.le_of_ble_eq_true rfl, Nat.le_of_ble_eq_true rfl⟩) (ka_preV X9 hP hD hS 0 rfl rfl) rfl rfl hl.1 rfl (lv_room (Nat.le_of_ble_eq_true rfl)) d_Ke_gate_41 ⟨Nat.le_of_ble_eq_true rfl, Nat.le_of_ble_eq_true rfl⟩) X9 hD hS rfl (fun H locs hP hD hS => ?_)
  refine lv_aload_n hx hb d_Ke_gate_44 rfl (lv_at hl 0 rfl) ?_
  refine lv_iload_n hx hb d_Ke_gate_45 rfl (lv_at hl 2 rfl) ?_
  refine lv_iconst (v := 2) hx hb d_Ke_gate_46 (by decide) ?_
  rcases zo_x h with ⟨k9, u10, e9, h⟩ | ⟨v9, u10, e9, h⟩
  · cases h
  refine ka_v (va_runV (As := [.int x2, .int 2]) (rest := []) S9 (c_Ke_needRoomIn_ok l hl9 D A r _ u8 x2 2 _ _ e9) (cwV 2 hts (tg_V wl_Ke_110 wm_Ke_needRoomIn we_Ke_needRoomIn wi_Ke wo_Ke_needRoomIn) rfl rfl rfl wq_Ke_needRoomIn ⟨Nat.le_of_ble_eq_true rfl, Nat.le_of_ble_eq_true rfl⟩) (ka_preV X9 hP hD hS 0 rfl rfl) rfl rfl hl.1 rfl (lv_room (Nat.le_of_ble_eq_true rfl)) d_Ke_gate_47 ⟨Nat.le_of_ble_eq_true rfl, Nat.le_of_ble_eq_true rfl⟩) X9 hD hS rfl (fun H locs hP hD hS => ?_)
  refine lv_aload_n hx hb d_Ke_gate_50 rfl (lv_at hl 0 rfl) ?_
  refine va_get (D := D) (ci := 4) (v := .ref (A 4)) (C := R_Ke) (T := T_Ke) (N := 5) hx hb hts wu_Ke hown hK hP 0 rfl rfl 3 (by decide) (hts _ wf_Ke_28) (fun _ h9 => h9) rfl d_Ke_gate_51 ?_
  refine lv_iconst (v := 2) hx hb d_Ke_gate_54 (by decide) ?_
  refine lv_iload_n hx hb d_Ke_gate_55 rfl (lv_at hl 2 rfl) ?_
  refine lv_iload_n hx hb d_Ke_gate_56 rfl (lv_at hl 3 rfl) ?_
  refine lv_iconst (v := 2) hx hb d_Ke_gate_57 (by decide) ?_
  obtain ⟨v11, e9, h⟩ := zo_b h
  refine ka_i (va_runV (As := [.int 2, .int x2, .int x3, .int 2]) (rest := []) S9 (c_Tg_add l hl9 D A r _ u10 2 x2 x3 2 _ e9) (cwV 4 hts (tg_V wl_Ke_113 wm_Tg_add we_Tg_add wi_Tg wo_Tg_add) rfl rfl rfl wq_Tg_add ⟨Nat.le_of_ble_eq_true rfl, Nat.le_of_ble_eq_true rfl⟩) (ka_preV X9 hP hD hS 4 rfl rfl) rfl rfl hl.1 rfl (lv_room (Nat.le_of_ble_eq_true rfl)) d_Ke_gate_58 ⟨Nat.le_of_ble_eq_true rfl, Nat.le_of_ble_eq_true rfl⟩) X9 hD hS rfl (fun H locs hP hD hS => ?_)
  refine lv_istore (lv' := [(6, .int v11.1), (0, .ref (A 0)), (1, .int x1), (2, .int x2), (3, .int x3), (4, .int x4), (5, .int x5)]) hx hb d_Ke_gate_61 hl (by decide) rfl (fun ls hl => ?_)
  refine lv_aload_n hx hb d_Ke_gate_63 rfl (lv_at hl 1 rfl) ?_
  refine va_get (D := D) (ci := 4) (v := .ref (A 4)) (C := R_Ke) (T := T_Ke) (N := 5) hx hb hts wu_Ke hown hK hP 0 rfl rfl 3 (by decide) (hts _ wf_Ke_28) (fun _ h9 => h9) rfl d_Ke_gate_64 ?_
  refine lv_iload hx hb d_Ke_gate_67 (lv_at hl 0 rfl) ?_
  refine lv_aload_n hx hb d_Ke_gate_69 rfl (lv_at hl 1 rfl) ?_
  refine va_get (D := D) (ci := 4) (v := .ref (A 4)) (C := R_Ke) (T := T_Ke) (N := 5) hx hb hts wu_Ke hown hK hP 0 rfl rfl 3 (by decide) (hts _ wf_Ke_28) (fun _ h9 => h9) rfl d_Ke_gate_70 ?_
  refine lv_iload_n hx hb d_Ke_gate_73 rfl (lv_at hl 2 rfl) ?_
  obtain ⟨v12, e9, h⟩ := zo_b h
  refine ka_i (va_runV (As := [.int x1]) (rest := [.int v11.1, .ref (A 4)]) S9 (c_Tg_clearanceOf l hl9 D A r _ v11.2 x1 _ e9) (cwV 1 hts (tg_V wl_Ke_90 wm_Tg_clearanceOf we_Tg_clearanceOf wi_Tg wo_Tg_clearanceOf) rfl rfl rfl wq_Tg_clearanceOf ⟨Nat.le_of_ble_eq_true rfl, Nat.le_of_ble_eq_true rfl⟩) (ka_preV X9 hP hD hS 4 rfl rfl) rfl rfl hl.1 rfl (lv_room (Nat.le_of_ble_eq_true rfl)) d_Ke_gate_74 ⟨Nat.le_of_ble_eq_true rfl, Nat.le_of_ble_eq_true rfl⟩) X9 hD hS rfl (fun H locs hP hD hS => ?_)
  obtain ⟨v13, e9, h⟩ := zo_b h
  refine ka_v (va_runV (As := [.int v11.1, .int v12]) (rest := []) S9 (c_Tg_setClearance l hl9 D A r _ v11.2 v11.1 v12 _ e9) (cwV 2 hts (tg_V wl_Ke_97 wm_Tg_setClearance we_Tg_setClearance wi_Tg wo_Tg_setClearance) rfl rfl rfl wq_Tg_setClearance ⟨Nat.le_of_ble_eq_true rfl, Nat.le_of_ble_eq_true rfl⟩) (ka_preV X9 hP hD hS 4 rfl rfl) rfl rfl hl.1 rfl (lv_room (Nat.le_of_ble_eq_true rfl)) d_Ke_gate_77 ⟨Nat.le_of_ble_eq_true rfl, Nat.le_of_ble_eq_true rfl⟩) X9 hD hS rfl (fun H locs hP hD hS => ?_)
  refine lv_aload_n hx hb d_Ke_gate_80 rfl (lv_at hl 1 rfl) ?_
  refine va_get (D := D) (ci := 4) (v := .ref (A 4)) (C := R_Ke) (T := T_Ke) (N := 5) hx hb hts wu_Ke hown hK hP 0 rfl rfl 3 (by decide) (hts _ wf_Ke_28) (fun _ h9 => h9) rfl d_Ke_gate_81 ?_
  refine lv_iload hx hb d_Ke_gate_84 (lv_at hl 0 rfl) ?_
  refine lv_iload hx hb d_Ke_gate_86 (lv_at hl 5 rfl) ?_
  refine lv_iload hx hb d_Ke_gate_88 (lv_at hl 6 rfl) ?_
  obtain ⟨v14, e9, h⟩ := zo_b h
  refine ka_v (va_runV (As := [.int v11.1, .int x4, .int x5]) (rest := []) S9 (c_Tg_setGuardAndEntry l hl9 D A r _ v13 v11.1 x4 x5 _ e9) (cwV 3 hts (tg_V wl_Ke_120 wm_Tg_setGuardAndEntry we_Tg_setGuardAndEntry wi_Tg wo_Tg_setGuardAndEntry) rfl rfl rfl wq_Tg_setGuardAndEntry ⟨Nat.le_of_ble_eq_true rfl, Nat.le_of_ble_eq_true rfl⟩) (ka_preV X9 hP hD hS 4 rfl rfl) rfl rfl hl.1 rfl (lv_room (Nat.le_of_ble_eq_true rfl)) d_Ke_gate_90 ⟨Nat.le_of_ble_eq_true rfl, Nat.le_of_ble_eq_true rfl⟩) X9 hD hS rfl (fun H locs hP hD hS => ?_)
  refine lv_iload hx hb d_Ke_gate_93 (lv_at hl 0 rfl) ?_
  cases h
  exact W.iret hx hb hr (fun t ht hW => ⟨⟨_, (), rfl, rfl, ka_at ht hP⟩, hS.F ht⟩) hS.2.2 d_Ke_gate_95 hlk
set_option maxRecDepth 100000 in
set_option maxHeartbeats 4000000 in
theorem c_Ke_gate_err (l : Launch) (hl9 : l.stackTraces = false) (D : va_G) (A : Nat → Nat) (r : va_W) (sz : Nat) (σ : KS) (x1 x2 x3 x4 x5 : Int32) (k9 : Nat) (z : KS) (h : f_Ke_gate σ x1 x2 x3 x4 x5 = some (.error k9, z)) : vx_Met l y_Ke_gate (Cond.code y_Ke_gate b_Ke_gate 7 (some .int) :: T0) ({ frames := 8, cells := 1, slots := 6, locals := 124 } : Room) (va_Pc [.ref (A 0), .int x1, .int x2, .int x3, .int x4, .int x5] (ka_Wd D A (GW A σ r) sz)) ka_No (ka_Xe D k9 (GW A z r) (va_A (GW A σ r) sz)) 1 6 (va_A (GW A σ r) sz) := by
  unfold f_Ke_gate at h
  refine ka_ofX (own := R_Ke) (fun A9 => ka_Xe D k9 (GW A z r) A9) (by decide) rfl (Nat.le_of_ble_eq_true rfl) ?_
  intro p e s m below meth c A9 ls S9 hr hlk hex X9 hP hD hl
  obtain ⟨hx, hb, hml, hown, hts⟩ := id S9
  have hK := X9.2.1
  have hS : va_S A9 s.heap s.heap [] := va_S.rf
  replace hl : lv_has ls 7 [(0, .ref (A 0)), (1, .int x1), (2, .int x2), (3, .int x3), (4, .int x4), (5, .int x5)] := hl
  refine lv_aload_n hx hb d_Ke_gate_0 rfl (lv_at hl 0 rfl) ?_
  refine va_get (D := D) (ci := 4) (v := .ref (A 2)) (C := R_Ke) (T := T_Ke) (N := 5) hx hb hts wu_Ke hown hK hP 0 rfl rfl 2 (by decide) (hts _ wf_Ke_23) (fun _ h9 => h9) rfl d_Ke_gate_1 ?_
  refine lv_iload_n hx hb d_Ke_gate_4 rfl (lv_at hl 3 rfl) ?_
  obtain ⟨v1, e9, h⟩ := zo_b h
  refine ka_i (va_runV (As := [.int x3]) (rest := []) S9 (c_Lb_has l hl9 D A r _ σ x3 _ e9) (cwV 1 hts (tg_V wl_Ke_34 wm_Lb_has we_Lb_has wi_Lb wo_Lb_has) rfl rfl rfl wq_Lb_has ⟨Nat.le_of_ble_eq_true rfl, Nat.le_of_ble_eq_true rfl⟩) (ka_preV X9 hP hD hS 2 rfl rfl) rfl rfl hl.1 rfl (lv_room (Nat.le_of_ble_eq_true rfl)) d_Ke_gate_5 ⟨Nat.le_of_ble_eq_true rfl, Nat.le_of_ble_eq_true rfl⟩) X9 hD hS rfl (fun H locs hP hD hS => ?_)
  refine lv_if_eq (tgt := 27) hx hb d_Ke_gate_8 (by decide) (fun c2 => ?_) (fun c2 => ?_)
  · replace h := zo_t c2 h
    refine lv_iconst (v := 0) hx hb d_Ke_gate_27 (by decide) ?_
    obtain ⟨rfl, rfl⟩ := zo_e h
    exact ka_err (vx_runS (As := [.int 0]) (rest := []) S9 (c_Ke_needNumber_err l hl9 D A (GW A σ r) _ 0 rfl) (cwS 1 hts (tg_S wl_Ke_44 ws_Ke_needNumber wi_Ke wo_Ke_needNumber) rfl rfl rfl wq_Ke_needNumber ⟨Nat.le_of_ble_eq_true rfl, Nat.le_of_ble_eq_true rfl⟩) (ka_preS X9 hP hD hS) rfl rfl hl.1 rfl (lv_room (Nat.le_of_ble_eq_true rfl)) d_Ke_gate_28 ⟨Nat.le_of_ble_eq_true rfl, Nat.le_of_ble_eq_true rfl⟩) hlk hex X9 hD hS (Nat.le_of_ble_eq_true rfl) (Nat.le_of_ble_eq_true rfl)
  replace h := zo_f c2 h
  refine lv_aload_n hx hb d_Ke_gate_11 rfl (lv_at hl 0 rfl) ?_
  refine va_get (D := D) (ci := 4) (v := .ref (A 2)) (C := R_Ke) (T := T_Ke) (N := 5) hx hb hts wu_Ke hown hK hP 0 rfl rfl 2 (by decide) (hts _ wf_Ke_23) (fun _ h9 => h9) rfl d_Ke_gate_12 ?_
  refine lv_iload hx hb d_Ke_gate_15 (lv_at hl 4 rfl) ?_
  obtain ⟨v3, e9, h⟩ := zo_b h
  refine ka_i (va_runV (As := [.int x4]) (rest := []) S9 (c_Lb_isStarless l hl9 D A r _ σ x4 _ e9) (cwV 1 hts (tg_V wl_Ke_100 wm_Lb_isStarless we_Lb_isStarless wi_Lb wo_Lb_isStarless) rfl rfl rfl wq_Lb_isStarless ⟨Nat.le_of_ble_eq_true rfl, Nat.le_of_ble_eq_true rfl⟩) (ka_preV X9 hP hD hS 2 rfl rfl) rfl rfl hl.1 rfl (lv_room (Nat.le_of_ble_eq_true rfl)) d_Ke_gate_17 ⟨Nat.le_of_ble_eq_true rfl, Nat.le_of_ble_eq_true rfl⟩) X9 hD hS rfl (fun H locs hP hD hS => ?_)
  refine lv_if_eq (tgt := 27) hx hb d_Ke_gate_20 (by decide) (fun c4 => ?_) (fun c4 => ?_)
  · replace h := zo_t c4 h
    refine lv_iconst (v := 0) hx hb d_Ke_gate_27 (by decide) ?_
    obtain ⟨rfl, rfl⟩ := zo_e h
    exact ka_err (vx_runS (As := [.int 0]) (rest := []) S9 (c_Ke_needNumber_err l hl9 D A (GW A σ r) _ 0 rfl) (cwS 1 hts (tg_S wl_Ke_44 ws_Ke_needNumber wi_Ke wo_Ke_needNumber) rfl rfl rfl wq_Ke_needNumber ⟨Nat.le_of_ble_eq_true rfl, Nat.le_of_ble_eq_true rfl⟩) (ka_preS X9 hP hD hS) rfl rfl hl.1 rfl (lv_room (Nat.le_of_ble_eq_true rfl)) d_Ke_gate_28 ⟨Nat.le_of_ble_eq_true rfl, Nat.le_of_ble_eq_true rfl⟩) hlk hex X9 hD hS (Nat.le_of_ble_eq_true rfl) (Nat.le_of_ble_eq_true rfl)
  replace h := zo_f c4 h
  refine lv_iconst (v := 1) hx hb d_Ke_gate_23 (by decide) ?_
  refine lv_goto (tgt := 28) hx hb d_Ke_gate_24 (by decide) ?_
  refine ka_v (va_runS (As := [.int 1]) (rest := []) S9 (c_Ke_needNumber_ok l hl9 D A (GW A σ r) _ 1 (by decide)) (cwS 1 hts (tg_S wl_Ke_44 ws_Ke_needNumber wi_Ke wo_Ke_needNumber) rfl rfl rfl wq_Ke_needNumber ⟨Nat.le_of_ble_eq_true rfl, Nat.le_of_ble_eq_true rfl⟩) (ka_preS X9 hP hD hS) rfl rfl hl.1 rfl (lv_room (Nat.le_of_ble_eq_true rfl)) d_Ke_gate_28 ⟨Nat.le_of_ble_eq_true rfl, Nat.le_of_ble_eq_true rfl⟩) X9 hD hS rfl (fun H locs hP hD hS => ?_)
  refine lv_aload_n hx hb d_Ke_gate_31 rfl (lv_at hl 0 rfl) ?_
  refine lv_iload_n hx hb d_Ke_gate_32 rfl (lv_at hl 1 rfl) ?_
  refine lv_iload_n hx hb d_Ke_gate_33 rfl (lv_at hl 2 rfl) ?_
  rcases zo_x h with ⟨k9, u6, e9, h⟩ | ⟨v5, u6, e9, h⟩
  · cases h
    exact ka_err (vx_runV (As := [.int x1, .int x2]) (rest := []) S9 (c_Ke_needThreadAndContainer_err l hl9 D A r _ σ x1 x2 _ _ e9) (cwV 2 hts (tg_V wl_Ke_103 wm_Ke_needThreadAndContainer we_Ke_needThreadAndContainer wi_Ke wo_Ke_needThreadAndContainer) rfl rfl rfl wq_Ke_needThreadAndContainer ⟨Nat.le_of_ble_eq_true rfl, Nat.le_of_ble_eq_true rfl⟩) (ka_preV X9 hP hD hS 0 rfl rfl) rfl rfl hl.1 rfl (lv_room (Nat.le_of_ble_eq_true rfl)) d_Ke_gate_34 ⟨Nat.le_of_ble_eq_true rfl, Nat.le_of_ble_eq_true rfl⟩) hlk hex X9 hD hS (Nat.le_of_ble_eq_true rfl) (Nat.le_of_ble_eq_true rfl)
  refine ka_v (va_runV (As := [.int x1, .int x2]) (rest := []) S9 (c_Ke_needThreadAndContainer_ok l hl9 D A r _ σ x1 x2 _ _ e9) (cwV 2 hts (tg_V wl_Ke_103 wm_Ke_needThreadAndContainer we_Ke_needThreadAndContainer wi_Ke wo_Ke_needThreadAndContainer) rfl rfl rfl wq_Ke_needThreadAndContainer ⟨Nat.le_of_ble_eq_true rfl, Nat.le_of_ble_eq_true rfl⟩) (ka_preV X9 hP hD hS 0 rfl rfl) rfl rfl hl.1 rfl (lv_room (Nat.le_of_ble_eq_true rfl)) d_Ke_gate_34 ⟨Nat.le_of_ble_eq_true rfl, Nat.le_of_ble_eq_true rfl⟩) X9 hD hS rfl (fun H locs hP hD hS => ?_)
  refine lv_aload_n hx hb d_Ke_gate_37 rfl (lv_at hl 0 rfl) ?_
  refine lv_iload_n hx hb d_Ke_gate_38 rfl (lv_at hl 1 rfl) ?_
  refine lv_iload_n hx hb d_Ke_gate_39 rfl (lv_at hl 2 rfl) ?_
  refine lv_iload_n hx hb d_Ke_gate_40 rfl (lv_at hl 3 rfl) ?_
  rcases zo_x h with ⟨k9, u8, e9, h⟩ | ⟨v7, u8, e9, h⟩
  · cases h
    exact ka_err (vx_runV (As := [.int x1, .int x2, .int x3]) (rest := []) S9 (c_Ke_needMayMake_err l hl9 D A r _ u6 x1 x2 x3 _ _ e9) (cwV 3 hts (tg_V wl_Ke_106 wm_Ke_needMayMake we_Ke_needMayMake wi_Ke wo_Ke_needMayMake) rfl rfl rfl wq_Ke_needMayMake ⟨Nat.le_of_ble_eq_true rfl, Nat.le_of_ble_eq_true rfl⟩) (ka_preV X9 hP hD hS 0 rfl rfl) rfl rfl hl.1 rfl (lv_room (Nat.le_of_ble_eq_true rfl)) d_Ke_gate_41 ⟨Nat.le_of_ble_eq_true rfl, Nat.le_of_ble_eq_true rfl⟩) hlk hex X9 hD hS (Nat.le_of_ble_eq_true rfl) (Nat.le_of_ble_eq_true rfl)
  refine ka_v (va_runV (As := [.int x1, .int x2, .int x3]) (rest := []) S9 (c_Ke_needMayMake_ok l hl9 D A r _ u6 x1 x2 x3 _ _ e9) (cwV 3 hts (tg_V wl_Ke_106 wm_Ke_needMayMake we_Ke_needMayMake wi_Ke wo_Ke_needMayMake) rfl rfl rfl wq_Ke_needMayMake ⟨Nat.le_of_ble_eq_true rfl, Nat.le_of_ble_eq_true rfl⟩) (ka_preV X9 hP hD hS 0 rfl rfl) rfl rfl hl.1 rfl (lv_room (Nat.le_of_ble_eq_true rfl)) d_Ke_gate_41 ⟨Nat.le_of_ble_eq_true rfl, Nat.le_of_ble_eq_true rfl⟩) X9 hD hS rfl (fun H locs hP hD hS => ?_)
  refine lv_aload_n hx hb d_Ke_gate_44 rfl (lv_at hl 0 rfl) ?_
  refine lv_iload_n hx hb d_Ke_gate_45 rfl (lv_at hl 2 rfl) ?_
  refine lv_iconst (v := 2) hx hb d_Ke_gate_46 (by decide) ?_
  rcases zo_x h with ⟨k9, u10, e9, h⟩ | ⟨v9, u10, e9, h⟩
  · cases h
    exact ka_err (vx_runV (As := [.int x2, .int 2]) (rest := []) S9 (c_Ke_needRoomIn_err l hl9 D A r _ u8 x2 2 _ _ e9) (cwV 2 hts (tg_V wl_Ke_110 wm_Ke_needRoomIn we_Ke_needRoomIn wi_Ke wo_Ke_needRoomIn) rfl rfl rfl wq_Ke_needRoomIn ⟨Nat.le_of_ble_eq_true rfl, Nat.le_of_ble_eq_true rfl⟩) (ka_preV X9 hP hD hS 0 rfl rfl) rfl rfl hl.1 rfl (lv_room (Nat.le_of_ble_eq_true rfl)) d_Ke_gate_47 ⟨Nat.le_of_ble_eq_true rfl, Nat.le_of_ble_eq_true rfl⟩) hlk hex X9 hD hS (Nat.le_of_ble_eq_true rfl) (Nat.le_of_ble_eq_true rfl)
  refine ka_v (va_runV (As := [.int x2, .int 2]) (rest := []) S9 (c_Ke_needRoomIn_ok l hl9 D A r _ u8 x2 2 _ _ e9) (cwV 2 hts (tg_V wl_Ke_110 wm_Ke_needRoomIn we_Ke_needRoomIn wi_Ke wo_Ke_needRoomIn) rfl rfl rfl wq_Ke_needRoomIn ⟨Nat.le_of_ble_eq_true rfl, Nat.le_of_ble_eq_true rfl⟩) (ka_preV X9 hP hD hS 0 rfl rfl) rfl rfl hl.1 rfl (lv_room (Nat.le_of_ble_eq_true rfl)) d_Ke_gate_47 ⟨Nat.le_of_ble_eq_true rfl, Nat.le_of_ble_eq_true rfl⟩) X9 hD hS rfl (fun H locs hP hD hS => ?_)
  refine lv_aload_n hx hb d_Ke_gate_50 rfl (lv_at hl 0 rfl) ?_
  refine va_get (D := D) (ci := 4) (v := .ref (A 4)) (C := R_Ke) (T := T_Ke) (N := 5) hx hb hts wu_Ke hown hK hP 0 rfl rfl 3 (by decide) (hts _ wf_Ke_28) (fun _ h9 => h9) rfl d_Ke_gate_51 ?_
  refine lv_iconst (v := 2) hx hb d_Ke_gate_54 (by decide) ?_
  refine lv_iload_n hx hb d_Ke_gate_55 rfl (lv_at hl 2 rfl) ?_
  refine lv_iload_n hx hb d_Ke_gate_56 rfl (lv_at hl 3 rfl) ?_
  refine lv_iconst (v := 2) hx hb d_Ke_gate_57 (by decide) ?_
  obtain ⟨v11, e9, h⟩ := zo_b h
  refine ka_i (va_runV (As := [.int 2, .int x2, .int x3, .int 2]) (rest := []) S9 (c_Tg_add l hl9 D A r _ u10 2 x2 x3 2 _ e9) (cwV 4 hts (tg_V wl_Ke_113 wm_Tg_add we_Tg_add wi_Tg wo_Tg_add) rfl rfl rfl wq_Tg_add ⟨Nat.le_of_ble_eq_true rfl, Nat.le_of_ble_eq_true rfl⟩) (ka_preV X9 hP hD hS 4 rfl rfl) rfl rfl hl.1 rfl (lv_room (Nat.le_of_ble_eq_true rfl)) d_Ke_gate_58 ⟨Nat.le_of_ble_eq_true rfl, Nat.le_of_ble_eq_true rfl⟩) X9 hD hS rfl (fun H locs hP hD hS => ?_)
  refine lv_istore (lv' := [(6, .int v11.1), (0, .ref (A 0)), (1, .int x1), (2, .int x2), (3, .int x3), (4, .int x4), (5, .int x5)]) hx hb d_Ke_gate_61 hl (by decide) rfl (fun ls hl => ?_)
  refine lv_aload_n hx hb d_Ke_gate_63 rfl (lv_at hl 1 rfl) ?_
  refine va_get (D := D) (ci := 4) (v := .ref (A 4)) (C := R_Ke) (T := T_Ke) (N := 5) hx hb hts wu_Ke hown hK hP 0 rfl rfl 3 (by decide) (hts _ wf_Ke_28) (fun _ h9 => h9) rfl d_Ke_gate_64 ?_
  refine lv_iload hx hb d_Ke_gate_67 (lv_at hl 0 rfl) ?_
  refine lv_aload_n hx hb d_Ke_gate_69 rfl (lv_at hl 1 rfl) ?_
  refine va_get (D := D) (ci := 4) (v := .ref (A 4)) (C := R_Ke) (T := T_Ke) (N := 5) hx hb hts wu_Ke hown hK hP 0 rfl rfl 3 (by decide) (hts _ wf_Ke_28) (fun _ h9 => h9) rfl d_Ke_gate_70 ?_
  refine lv_iload_n hx hb d_Ke_gate_73 rfl (lv_at hl 2 rfl) ?_
  obtain ⟨v12, e9, h⟩ := zo_b h
  refine ka_i (va_runV (As := [.int x1]) (rest := [.int v11.1, .ref (A 4)]) S9 (c_Tg_clearanceOf l hl9 D A r _ v11.2 x1 _ e9) (cwV 1 hts (tg_V wl_Ke_90 wm_Tg_clearanceOf we_Tg_clearanceOf wi_Tg wo_Tg_clearanceOf) rfl rfl rfl wq_Tg_clearanceOf ⟨Nat.le_of_ble_eq_true rfl, Nat.le_of_ble_eq_true rfl⟩) (ka_preV X9 hP hD hS 4 rfl rfl) rfl rfl hl.1 rfl (lv_room (Nat.le_of_ble_eq_true rfl)) d_Ke_gate_74 ⟨Nat.le_of_ble_eq_true rfl, Nat.le_of_ble_eq_true rfl⟩) X9 hD hS rfl (fun H locs hP hD hS => ?_)
  obtain ⟨v13, e9, h⟩ := zo_b h
  refine ka_v (va_runV (As := [.int v11.1, .int v12]) (rest := []) S9 (c_Tg_setClearance l hl9 D A r _ v11.2 v11.1 v12 _ e9) (cwV 2 hts (tg_V wl_Ke_97 wm_Tg_setClearance we_Tg_setClearance wi_Tg wo_Tg_setClearance) rfl rfl rfl wq_Tg_setClearance ⟨Nat.le_of_ble_eq_true rfl, Nat.le_of_ble_eq_true rfl⟩) (ka_preV X9 hP hD hS 4 rfl rfl) rfl rfl hl.1 rfl (lv_room (Nat.le_of_ble_eq_true rfl)) d_Ke_gate_77 ⟨Nat.le_of_ble_eq_true rfl, Nat.le_of_ble_eq_true rfl⟩) X9 hD hS rfl (fun H locs hP hD hS => ?_)
  refine lv_aload_n hx hb d_Ke_gate_80 rfl (lv_at hl 1 rfl) ?_
  refine va_get (D := D) (ci := 4) (v := .ref (A 4)) (C := R_Ke) (T := T_Ke) (N := 5) hx hb hts wu_Ke hown hK hP 0 rfl rfl 3 (by decide) (hts _ wf_Ke_28) (fun _ h9 => h9) rfl d_Ke_gate_81 ?_
  refine lv_iload hx hb d_Ke_gate_84 (lv_at hl 0 rfl) ?_
  refine lv_iload hx hb d_Ke_gate_86 (lv_at hl 5 rfl) ?_
  refine lv_iload hx hb d_Ke_gate_88 (lv_at hl 6 rfl) ?_
  obtain ⟨v14, e9, h⟩ := zo_b h
  refine ka_v (va_runV (As := [.int v11.1, .int x4, .int x5]) (rest := []) S9 (c_Tg_setGuardAndEntry l hl9 D A r _ v13 v11.1 x4 x5 _ e9) (cwV 3 hts (tg_V wl_Ke_120 wm_Tg_setGuardAndEntry we_Tg_setGuardAndEntry wi_Tg wo_Tg_setGuardAndEntry) rfl rfl rfl wq_Tg_setGuardAndEntry ⟨Nat.le_of_ble_eq_true rfl, Nat.le_of_ble_eq_true rfl⟩) (ka_preV X9 hP hD hS 4 rfl rfl) rfl rfl hl.1 rfl (lv_room (Nat.le_of_ble_eq_true rfl)) d_Ke_gate_90 ⟨Nat.le_of_ble_eq_true rfl, Nat.le_of_ble_eq_true rfl⟩) X9 hD hS rfl (fun H locs hP hD hS => ?_)
  refine lv_iload hx hb d_Ke_gate_93 (lv_at hl 0 rfl) ?_
  cases h
def f_Ke_thread (σ : KS) (x1 x2 x3 x4 : Int32) : Option (Except Nat Int32 × KS) := (f_Lb_has σ x3).bind fun v1 => if v1 = 0 then (some (.error 1, σ)) else ((f_Lb_isStarless σ x4).bind fun v3 => if v3 = 0 then (some (.error 1, σ)) else (zx (f_Ke_needThreadAndContainer σ x1 x2) fun _ u6 => zx (f_Ke_needMayMake u6 x1 x2 x3) fun _ u8 => (f_Tg_clearanceOf u8 x1).bind fun v9 => (f_Lb_fitsUnder u8 x4 v9).bind fun v10 => if v10 = 0 then some (.error 3, u8) else (f_Lb_fitsUnder u8 x3 x4).bind fun v11 => if v11 = 0 then some (.error 3, u8) else zx (f_Ke_needRoomIn u8 x2 2) fun _ u13 => (f_Tg_add u13 3 x2 x3 2).bind fun v14 => (f_Tg_setClearance v14.2 v14.1 x4).bind fun v15 => some (.ok v14.1, v15)))
set_option maxRecDepth 100000 in
set_option maxHeartbeats 4000000 in
theorem c_Ke_thread_ok (l : Launch) (hl9 : l.stackTraces = false) (D : va_G) (A : Nat → Nat) (r : va_W) (sz : Nat) (σ : KS) (x1 x2 x3 x4 : Int32) (z9 : Int32) (z : KS) (h : f_Ke_thread σ x1 x2 x3 x4 = some (.ok z9, z)) : Met l y_Ke_thread (Cond.code y_Ke_thread b_Ke_thread 6 (some .int) :: T0) ({ frames := 5, cells := 0, slots := 0, locals := 112 } : Room) (va_Pc [.ref (A 0), .int x1, .int x2, .int x3, .int x4] (ka_Wd D A (GW A σ r) sz)) (ka_Ri D z9 (GW A z r) (va_A (GW A σ r) sz)) 0 0 (va_A (GW A σ r) sz) := by
  unfold f_Ke_thread at h
  refine ka_of (own := R_Ke) (fun A9 => ka_Ri D z9 (GW A z r) A9) (by decide) rfl (Nat.le_of_ble_eq_true rfl) ?_
  intro p e s m below meth c A9 ls S9 hr hlk hex X9 hP hD hl
  obtain ⟨hx, hb, hml, hown, hts⟩ := id S9
  have hK := X9.2.1
  have hS : va_S A9 s.heap s.heap [] := va_S.rf
  replace hl : lv_has ls 6 [(0, .ref (A 0)), (1, .int x1), (2, .int x2), (3, .int x3), (4, .int x4)] := hl
  refine lv_aload_n hx hb d_Ke_thread_0 rfl (lv_at hl 0 rfl) ?_
  refine va_get (D := D) (ci := 4) (v := .ref (A 2)) (C := R_Ke) (T := T_Ke) (N := 5) hx hb hts wu_Ke hown hK hP 0 rfl rfl 2 (by decide) (hts _ wf_Ke_23) (fun _ h9 => h9) rfl d_Ke_thread_1 ?_
  refine lv_iload_n hx hb d_Ke_thread_4 rfl (lv_at hl 3 rfl) ?_
  obtain ⟨v1, e9, h⟩ := zo_b h
  refine ka_i (va_runV (As := [.int x3]) (rest := []) S9 (c_Lb_has l hl9 D A r _ σ x3 _ e9) (cwV 1 hts (tg_V wl_Ke_34 wm_Lb_has we_Lb_has wi_Lb wo_Lb_has) rfl rfl rfl wq_Lb_has ⟨Nat.le_of_ble_eq_true rfl, Nat.le_of_ble_eq_true rfl⟩) (ka_preV X9 hP hD hS 2 rfl rfl) rfl rfl hl.1 rfl (lv_room (Nat.le_of_ble_eq_true rfl)) d_Ke_thread_5 ⟨Nat.le_of_ble_eq_true rfl, Nat.le_of_ble_eq_true rfl⟩) X9 hD hS rfl (fun H locs hP hD hS => ?_)
  refine lv_if_eq (tgt := 27) hx hb d_Ke_thread_8 (by decide) (fun c2 => ?_) (fun c2 => ?_)
  · replace h := zo_t c2 h
    refine lv_iconst (v := 0) hx hb d_Ke_thread_27 (by decide) ?_
    cases h
  replace h := zo_f c2 h
  refine lv_aload_n hx hb d_Ke_thread_11 rfl (lv_at hl 0 rfl) ?_
  refine va_get (D := D) (ci := 4) (v := .ref (A 2)) (C := R_Ke) (T := T_Ke) (N := 5) hx hb hts wu_Ke hown hK hP 0 rfl rfl 2 (by decide) (hts _ wf_Ke_23) (fun _ h9 => h9) rfl d_Ke_thread_12 ?_
  refine lv_iload hx hb d_Ke_thread_15 (lv_at hl 4 rfl) ?_
  obtain ⟨v3, e9, h⟩ := zo_b h
  refine ka_i (va_runV (As := [.int x4]) (rest := []) S9 (c_Lb_isStarless l hl9 D A r _ σ x4 _ e9) (cwV 1 hts (tg_V wl_Ke_100 wm_Lb_isStarless we_Lb_isStarless wi_Lb wo_Lb_isStarless) rfl rfl rfl wq_Lb_isStarless ⟨Nat.le_of_ble_eq_true rfl, Nat.le_of_ble_eq_true rfl⟩) (ka_preV X9 hP hD hS 2 rfl rfl) rfl rfl hl.1 rfl (lv_room (Nat.le_of_ble_eq_true rfl)) d_Ke_thread_17 ⟨Nat.le_of_ble_eq_true rfl, Nat.le_of_ble_eq_true rfl⟩) X9 hD hS rfl (fun H locs hP hD hS => ?_)
  refine lv_if_eq (tgt := 27) hx hb d_Ke_thread_20 (by decide) (fun c4 => ?_) (fun c4 => ?_)
  · replace h := zo_t c4 h
    refine lv_iconst (v := 0) hx hb d_Ke_thread_27 (by decide) ?_
    cases h
  replace h := zo_f c4 h
  refine lv_iconst (v := 1) hx hb d_Ke_thread_23 (by decide) ?_
  refine lv_goto (tgt := 28) hx hb d_Ke_thread_24 (by decide) ?_
  refine ka_v (va_runS (As := [.int 1]) (rest := []) S9 (c_Ke_needNumber_ok l hl9 D A (GW A σ r) _ 1 (by decide)) (cwS 1 hts (tg_S wl_Ke_44 ws_Ke_needNumber wi_Ke wo_Ke_needNumber) rfl rfl rfl wq_Ke_needNumber ⟨Nat.le_of_ble_eq_true rfl, Nat.le_of_ble_eq_true rfl⟩) (ka_preS X9 hP hD hS) rfl rfl hl.1 rfl (lv_room (Nat.le_of_ble_eq_true rfl)) d_Ke_thread_28 ⟨Nat.le_of_ble_eq_true rfl, Nat.le_of_ble_eq_true rfl⟩) X9 hD hS rfl (fun H locs hP hD hS => ?_)
  refine lv_aload_n hx hb d_Ke_thread_31 rfl (lv_at hl 0 rfl) ?_
  refine lv_iload_n hx hb d_Ke_thread_32 rfl (lv_at hl 1 rfl) ?_
  refine lv_iload_n hx hb d_Ke_thread_33 rfl (lv_at hl 2 rfl) ?_
  rcases zo_x h with ⟨k9, u6, e9, h⟩ | ⟨v5, u6, e9, h⟩
  · cases h
  refine ka_v (va_runV (As := [.int x1, .int x2]) (rest := []) S9 (c_Ke_needThreadAndContainer_ok l hl9 D A r _ σ x1 x2 _ _ e9) (cwV 2 hts (tg_V wl_Ke_103 wm_Ke_needThreadAndContainer we_Ke_needThreadAndContainer wi_Ke wo_Ke_needThreadAndContainer) rfl rfl rfl wq_Ke_needThreadAndContainer ⟨Nat.le_of_ble_eq_true rfl, Nat.le_of_ble_eq_true rfl⟩) (ka_preV X9 hP hD hS 0 rfl rfl) rfl rfl hl.1 rfl (lv_room (Nat.le_of_ble_eq_true rfl)) d_Ke_thread_34 ⟨Nat.le_of_ble_eq_true rfl, Nat.le_of_ble_eq_true rfl⟩) X9 hD hS rfl (fun H locs hP hD hS => ?_)
  refine lv_aload_n hx hb d_Ke_thread_37 rfl (lv_at hl 0 rfl) ?_
  refine lv_iload_n hx hb d_Ke_thread_38 rfl (lv_at hl 1 rfl) ?_
  refine lv_iload_n hx hb d_Ke_thread_39 rfl (lv_at hl 2 rfl) ?_
  refine lv_iload_n hx hb d_Ke_thread_40 rfl (lv_at hl 3 rfl) ?_
  rcases zo_x h with ⟨k9, u8, e9, h⟩ | ⟨v7, u8, e9, h⟩
  · cases h
  refine ka_v (va_runV (As := [.int x1, .int x2, .int x3]) (rest := []) S9 (c_Ke_needMayMake_ok l hl9 D A r _ u6 x1 x2 x3 _ _ e9) (cwV 3 hts (tg_V wl_Ke_106 wm_Ke_needMayMake we_Ke_needMayMake wi_Ke wo_Ke_needMayMake) rfl rfl rfl wq_Ke_needMayMake ⟨Nat.le_of_ble_eq_true rfl, Nat.le_of_ble_eq_true rfl⟩) (ka_preV X9 hP hD hS 0 rfl rfl) rfl rfl hl.1 rfl (lv_room (Nat.le_of_ble_eq_true rfl)) d_Ke_thread_41 ⟨Nat.le_of_ble_eq_true rfl, Nat.le_of_ble_eq_true rfl⟩) X9 hD hS rfl (fun H locs hP hD hS => ?_)
  refine lv_aload_n hx hb d_Ke_thread_44 rfl (lv_at hl 0 rfl) ?_
  refine va_get (D := D) (ci := 4) (v := .ref (A 2)) (C := R_Ke) (T := T_Ke) (N := 5) hx hb hts wu_Ke hown hK hP 0 rfl rfl 2 (by decide) (hts _ wf_Ke_23) (fun _ h9 => h9) rfl d_Ke_thread_45 ?_
  refine lv_iload hx hb d_Ke_thread_48 (lv_at hl 4 rfl) ?_
  refine lv_aload_n hx hb d_Ke_thread_50 rfl (lv_at hl 0 rfl) ?_
  refine va_get (D := D) (ci := 4) (v := .ref (A 4)) (C := R_Ke) (T := T_Ke) (N := 5) hx hb hts wu_Ke hown hK hP 0 rfl rfl 3 (by decide) (hts _ wf_Ke_28) (fun _ h9 => h9) rfl d_Ke_thread_51 ?_
  refine lv_iload_n hx hb d_Ke_thread_54 rfl (lv_at hl 1 rfl) ?_
  obtain ⟨v9, e9, h⟩ := zo_b h
  refine ka_i (va_runV (As := [.int x1]) (rest := [.int x4, .ref (A 2)]) S9 (c_Tg_clearanceOf l hl9 D A r _ u8 x1 _ e9) (cwV 1 hts (tg_V wl_Ke_90 wm_Tg_clearanceOf we_Tg_clearanceOf wi_Tg wo_Tg_clearanceOf) rfl rfl rfl wq_Tg_clearanceOf ⟨Nat.le_of_ble_eq_true rfl, Nat.le_of_ble_eq_true rfl⟩) (ka_preV X9 hP hD hS 4 rfl rfl) rfl rfl hl.1 rfl (lv_room (Nat.le_of_ble_eq_true rfl)) d_Ke_thread_55 ⟨Nat.le_of_ble_eq_true rfl, Nat.le_of_ble_eq_true rfl⟩) X9 hD hS rfl (fun H locs hP hD hS => ?_)
  obtain ⟨v10, e9, h⟩ := zo_b h
  refine ka_i (va_runV (As := [.int x4, .int v9]) (rest := []) S9 (c_Lb_fitsUnder l hl9 D A r _ u8 x4 v9 _ e9) (cwV 2 hts (tg_V wl_Ke_74 wm_Lb_fitsUnder we_Lb_fitsUnder wi_Lb wo_Lb_fitsUnder) rfl rfl rfl wq_Lb_fitsUnder ⟨Nat.le_of_ble_eq_true rfl, Nat.le_of_ble_eq_true rfl⟩) (ka_preV X9 hP hD hS 2 rfl rfl) rfl rfl hl.1 rfl (lv_room (Nat.le_of_ble_eq_true rfl)) d_Ke_thread_58 ⟨Nat.le_of_ble_eq_true rfl, Nat.le_of_ble_eq_true rfl⟩) X9 hD hS rfl (fun H locs hP hD hS => ?_)
  rcases zo_n h with ⟨c9, h⟩ | ⟨c9, h⟩
  · cases h
  refine ka_v (va_runS (As := [.int v10]) (rest := []) S9 (c_Ke_needAllowed_ok l hl9 D A (GW A u8 r) _ v10 c9) (cwS 1 hts (tg_S wl_Ke_123 ws_Ke_needAllowed wi_Ke wo_Ke_needAllowed) rfl rfl rfl wq_Ke_needAllowed ⟨Nat.le_of_ble_eq_true rfl, Nat.le_of_ble_eq_true rfl⟩) (ka_preS X9 hP hD hS) rfl rfl hl.1 rfl (lv_room (Nat.le_of_ble_eq_true rfl)) d_Ke_thread_61 ⟨Nat.le_of_ble_eq_true rfl, Nat.le_of_ble_eq_true rfl⟩) X9 hD hS rfl (fun H locs hP hD hS => ?_)
  refine lv_aload_n hx hb d_Ke_thread_64 rfl (lv_at hl 0 rfl) ?_
  refine va_get (D := D) (ci := 4) (v := .ref (A 2)) (C := R_Ke) (T := T_Ke) (N := 5) hx hb hts wu_Ke hown hK hP 0 rfl rfl 2 (by decide) (hts _ wf_Ke_23) (fun _ h9 => h9) rfl d_Ke_thread_65 ?_
  refine lv_iload_n hx hb d_Ke_thread_68 rfl (lv_at hl 3 rfl) ?_
  refine lv_iload hx hb d_Ke_thread_69 (lv_at hl 4 rfl) ?_
  obtain ⟨v11, e9, h⟩ := zo_b h
  refine ka_i (va_runV (As := [.int x3, .int x4]) (rest := []) S9 (c_Lb_fitsUnder l hl9 D A r _ u8 x3 x4 _ e9) (cwV 2 hts (tg_V wl_Ke_74 wm_Lb_fitsUnder we_Lb_fitsUnder wi_Lb wo_Lb_fitsUnder) rfl rfl rfl wq_Lb_fitsUnder ⟨Nat.le_of_ble_eq_true rfl, Nat.le_of_ble_eq_true rfl⟩) (ka_preV X9 hP hD hS 2 rfl rfl) rfl rfl hl.1 rfl (lv_room (Nat.le_of_ble_eq_true rfl)) d_Ke_thread_71 ⟨Nat.le_of_ble_eq_true rfl, Nat.le_of_ble_eq_true rfl⟩) X9 hD hS rfl (fun H locs hP hD hS => ?_)
  rcases zo_n h with ⟨c9, h⟩ | ⟨c9, h⟩
  · cases h
  refine ka_v (va_runS (As := [.int v11]) (rest := []) S9 (c_Ke_needAllowed_ok l hl9 D A (GW A u8 r) _ v11 c9) (cwS 1 hts (tg_S wl_Ke_123 ws_Ke_needAllowed wi_Ke wo_Ke_needAllowed) rfl rfl rfl wq_Ke_needAllowed ⟨Nat.le_of_ble_eq_true rfl, Nat.le_of_ble_eq_true rfl⟩) (ka_preS X9 hP hD hS) rfl rfl hl.1 rfl (lv_room (Nat.le_of_ble_eq_true rfl)) d_Ke_thread_74 ⟨Nat.le_of_ble_eq_true rfl, Nat.le_of_ble_eq_true rfl⟩) X9 hD hS rfl (fun H locs hP hD hS => ?_)
  refine lv_aload_n hx hb d_Ke_thread_77 rfl (lv_at hl 0 rfl) ?_
  refine lv_iload_n hx hb d_Ke_thread_78 rfl (lv_at hl 2 rfl) ?_
  refine lv_iconst (v := 2) hx hb d_Ke_thread_79 (by decide) ?_
  rcases zo_x h with ⟨k9, u13, e9, h⟩ | ⟨v12, u13, e9, h⟩
  · cases h
  refine ka_v (va_runV (As := [.int x2, .int 2]) (rest := []) S9 (c_Ke_needRoomIn_ok l hl9 D A r _ u8 x2 2 _ _ e9) (cwV 2 hts (tg_V wl_Ke_110 wm_Ke_needRoomIn we_Ke_needRoomIn wi_Ke wo_Ke_needRoomIn) rfl rfl rfl wq_Ke_needRoomIn ⟨Nat.le_of_ble_eq_true rfl, Nat.le_of_ble_eq_true rfl⟩) (ka_preV X9 hP hD hS 0 rfl rfl) rfl rfl hl.1 rfl (lv_room (Nat.le_of_ble_eq_true rfl)) d_Ke_thread_80 ⟨Nat.le_of_ble_eq_true rfl, Nat.le_of_ble_eq_true rfl⟩) X9 hD hS rfl (fun H locs hP hD hS => ?_)
  refine lv_aload_n hx hb d_Ke_thread_83 rfl (lv_at hl 0 rfl) ?_
  refine va_get (D := D) (ci := 4) (v := .ref (A 4)) (C := R_Ke) (T := T_Ke) (N := 5) hx hb hts wu_Ke hown hK hP 0 rfl rfl 3 (by decide) (hts _ wf_Ke_28) (fun _ h9 => h9) rfl d_Ke_thread_84 ?_
  refine lv_iconst (v := 3) hx hb d_Ke_thread_87 (by decide) ?_
  refine lv_iload_n hx hb d_Ke_thread_88 rfl (lv_at hl 2 rfl) ?_
  refine lv_iload_n hx hb d_Ke_thread_89 rfl (lv_at hl 3 rfl) ?_
  refine lv_iconst (v := 2) hx hb d_Ke_thread_90 (by decide) ?_
  obtain ⟨v14, e9, h⟩ := zo_b h
  refine ka_i (va_runV (As := [.int 3, .int x2, .int x3, .int 2]) (rest := []) S9 (c_Tg_add l hl9 D A r _ u13 3 x2 x3 2 _ e9) (cwV 4 hts (tg_V wl_Ke_113 wm_Tg_add we_Tg_add wi_Tg wo_Tg_add) rfl rfl rfl wq_Tg_add ⟨Nat.le_of_ble_eq_true rfl, Nat.le_of_ble_eq_true rfl⟩) (ka_preV X9 hP hD hS 4 rfl rfl) rfl rfl hl.1 rfl (lv_room (Nat.le_of_ble_eq_true rfl)) d_Ke_thread_91 ⟨Nat.le_of_ble_eq_true rfl, Nat.le_of_ble_eq_true rfl⟩) X9 hD hS rfl (fun H locs hP hD hS => ?_)
  refine lv_istore (lv' := [(5, .int v14.1), (0, .ref (A 0)), (1, .int x1), (2, .int x2), (3, .int x3), (4, .int x4)]) hx hb d_Ke_thread_94 hl (by decide) rfl (fun ls hl => ?_)
  refine lv_aload_n hx hb d_Ke_thread_96 rfl (lv_at hl 1 rfl) ?_
  refine va_get (D := D) (ci := 4) (v := .ref (A 4)) (C := R_Ke) (T := T_Ke) (N := 5) hx hb hts wu_Ke hown hK hP 0 rfl rfl 3 (by decide) (hts _ wf_Ke_28) (fun _ h9 => h9) rfl d_Ke_thread_97 ?_
  refine lv_iload hx hb d_Ke_thread_100 (lv_at hl 0 rfl) ?_
  refine lv_iload hx hb d_Ke_thread_102 (lv_at hl 5 rfl) ?_
  obtain ⟨v15, e9, h⟩ := zo_b h
  refine ka_v (va_runV (As := [.int v14.1, .int x4]) (rest := []) S9 (c_Tg_setClearance l hl9 D A r _ v14.2 v14.1 x4 _ e9) (cwV 2 hts (tg_V wl_Ke_97 wm_Tg_setClearance we_Tg_setClearance wi_Tg wo_Tg_setClearance) rfl rfl rfl wq_Tg_setClearance ⟨Nat.le_of_ble_eq_true rfl, Nat.le_of_ble_eq_true rfl⟩) (ka_preV X9 hP hD hS 4 rfl rfl) rfl rfl hl.1 rfl (lv_room (Nat.le_of_ble_eq_true rfl)) d_Ke_thread_104 ⟨Nat.le_of_ble_eq_true rfl, Nat.le_of_ble_eq_true rfl⟩) X9 hD hS rfl (fun H locs hP hD hS => ?_)
  refine lv_iload hx hb d_Ke_thread_107 (lv_at hl 0 rfl) ?_
  cases h
  exact W.iret hx hb hr (fun t ht hW => ⟨⟨_, (), rfl, rfl, ka_at ht hP⟩, hS.F ht⟩) hS.2.2 d_Ke_thread_109 hlk
set_option maxRecDepth 100000 in
set_option maxHeartbeats 4000000 in
theorem c_Ke_thread_err (l : Launch) (hl9 : l.stackTraces = false) (D : va_G) (A : Nat → Nat) (r : va_W) (sz : Nat) (σ : KS) (x1 x2 x3 x4 : Int32) (k9 : Nat) (z : KS) (h : f_Ke_thread σ x1 x2 x3 x4 = some (.error k9, z)) : vx_Met l y_Ke_thread (Cond.code y_Ke_thread b_Ke_thread 6 (some .int) :: T0) ({ frames := 8, cells := 1, slots := 6, locals := 124 } : Room) (va_Pc [.ref (A 0), .int x1, .int x2, .int x3, .int x4] (ka_Wd D A (GW A σ r) sz)) ka_No (ka_Xe D k9 (GW A z r) (va_A (GW A σ r) sz)) 1 6 (va_A (GW A σ r) sz) := by
  unfold f_Ke_thread at h
  refine ka_ofX (own := R_Ke) (fun A9 => ka_Xe D k9 (GW A z r) A9) (by decide) rfl (Nat.le_of_ble_eq_true rfl) ?_
  intro p e s m below meth c A9 ls S9 hr hlk hex X9 hP hD hl
  obtain ⟨hx, hb, hml, hown, hts⟩ := id S9
  have hK := X9.2.1
  have hS : va_S A9 s.heap s.heap [] := va_S.rf
  replace hl : lv_has ls 6 [(0, .ref (A 0)), (1, .int x1), (2, .int x2), (3, .int x3), (4, .int x4)] := hl
  refine lv_aload_n hx hb d_Ke_thread_0 rfl (lv_at hl 0 rfl) ?_
  refine va_get (D := D) (ci := 4) (v := .ref (A 2)) (C := R_Ke) (T := T_Ke) (N := 5) hx hb hts wu_Ke hown hK hP 0 rfl rfl 2 (by decide) (hts _ wf_Ke_23) (fun _ h9 => h9) rfl d_Ke_thread_1 ?_
  refine lv_iload_n hx hb d_Ke_thread_4 rfl (lv_at hl 3 rfl) ?_
  obtain ⟨v1, e9, h⟩ := zo_b h
  refine ka_i (va_runV (As := [.int x3]) (rest := []) S9 (c_Lb_has l hl9 D A r _ σ x3 _ e9) (cwV 1 hts (tg_V wl_Ke_34 wm_Lb_has we_Lb_has wi_Lb wo_Lb_has) rfl rfl rfl wq_Lb_has ⟨Nat.le_of_ble_eq_true rfl, Nat.le_of_ble_eq_true rfl⟩) (ka_preV X9 hP hD hS 2 rfl rfl) rfl rfl hl.1 rfl (lv_room (Nat.le_of_ble_eq_true rfl)) d_Ke_thread_5 ⟨Nat.le_of_ble_eq_true rfl, Nat.le_of_ble_eq_true rfl⟩) X9 hD hS rfl (fun H locs hP hD hS => ?_)
  refine lv_if_eq (tgt := 27) hx hb d_Ke_thread_8 (by decide) (fun c2 => ?_) (fun c2 => ?_)
  · replace h := zo_t c2 h
    refine lv_iconst (v := 0) hx hb d_Ke_thread_27 (by decide) ?_
    obtain ⟨rfl, rfl⟩ := zo_e h
    exact ka_err (vx_runS (As := [.int 0]) (rest := []) S9 (c_Ke_needNumber_err l hl9 D A (GW A σ r) _ 0 rfl) (cwS 1 hts (tg_S wl_Ke_44 ws_Ke_needNumber wi_Ke wo_Ke_needNumber) rfl rfl rfl wq_Ke_needNumber ⟨Nat.le_of_ble_eq_true rfl, Nat.le_of_ble_eq_true rfl⟩) (ka_preS X9 hP hD hS) rfl rfl hl.1 rfl (lv_room (Nat.le_of_ble_eq_true rfl)) d_Ke_thread_28 ⟨Nat.le_of_ble_eq_true rfl, Nat.le_of_ble_eq_true rfl⟩) hlk hex X9 hD hS (Nat.le_of_ble_eq_true rfl) (Nat.le_of_ble_eq_true rfl)
  replace h := zo_f c2 h
  refine lv_aload_n hx hb d_Ke_thread_11 rfl (lv_at hl 0 rfl) ?_
  refine va_get (D := D) (ci := 4) (v := .ref (A 2)) (C := R_Ke) (T := T_Ke) (N := 5) hx hb hts wu_Ke hown hK hP 0 rfl rfl 2 (by decide) (hts _ wf_Ke_23) (fun _ h9 => h9) rfl d_Ke_thread_12 ?_
  refine lv_iload hx hb d_Ke_thread_15 (lv_at hl 4 rfl) ?_
  obtain ⟨v3, e9, h⟩ := zo_b h
  refine ka_i (va_runV (As := [.int x4]) (rest := []) S9 (c_Lb_isStarless l hl9 D A r _ σ x4 _ e9) (cwV 1 hts (tg_V wl_Ke_100 wm_Lb_isStarless we_Lb_isStarless wi_Lb wo_Lb_isStarless) rfl rfl rfl wq_Lb_isStarless ⟨Nat.le_of_ble_eq_true rfl, Nat.le_of_ble_eq_true rfl⟩) (ka_preV X9 hP hD hS 2 rfl rfl) rfl rfl hl.1 rfl (lv_room (Nat.le_of_ble_eq_true rfl)) d_Ke_thread_17 ⟨Nat.le_of_ble_eq_true rfl, Nat.le_of_ble_eq_true rfl⟩) X9 hD hS rfl (fun H locs hP hD hS => ?_)
  refine lv_if_eq (tgt := 27) hx hb d_Ke_thread_20 (by decide) (fun c4 => ?_) (fun c4 => ?_)
  · replace h := zo_t c4 h
    refine lv_iconst (v := 0) hx hb d_Ke_thread_27 (by decide) ?_
    obtain ⟨rfl, rfl⟩ := zo_e h
    exact ka_err (vx_runS (As := [.int 0]) (rest := []) S9 (c_Ke_needNumber_err l hl9 D A (GW A σ r) _ 0 rfl) (cwS 1 hts (tg_S wl_Ke_44 ws_Ke_needNumber wi_Ke wo_Ke_needNumber) rfl rfl rfl wq_Ke_needNumber ⟨Nat.le_of_ble_eq_true rfl, Nat.le_of_ble_eq_true rfl⟩) (ka_preS X9 hP hD hS) rfl rfl hl.1 rfl (lv_room (Nat.le_of_ble_eq_true rfl)) d_Ke_thread_28 ⟨Nat.le_of_ble_eq_true rfl, Nat.le_of_ble_eq_true rfl⟩) hlk hex X9 hD hS (Nat.le_of_ble_eq_true rfl) (Nat.le_of_ble_eq_true rfl)
  replace h := zo_f c4 h
  refine lv_iconst (v := 1) hx hb d_Ke_thread_23 (by decide) ?_
  refine lv_goto (tgt := 28) hx hb d_Ke_thread_24 (by decide) ?_
  refine ka_v (va_runS (As := [.int 1]) (rest := []) S9 (c_Ke_needNumber_ok l hl9 D A (GW A σ r) _ 1 (by decide)) (cwS 1 hts (tg_S wl_Ke_44 ws_Ke_needNumber wi_Ke wo_Ke_needNumber) rfl rfl rfl wq_Ke_needNumber ⟨Nat.le_of_ble_eq_true rfl, Nat.le_of_ble_eq_true rfl⟩) (ka_preS X9 hP hD hS) rfl rfl hl.1 rfl (lv_room (Nat.le_of_ble_eq_true rfl)) d_Ke_thread_28 ⟨Nat.le_of_ble_eq_true rfl, Nat.le_of_ble_eq_true rfl⟩) X9 hD hS rfl (fun H locs hP hD hS => ?_)
  refine lv_aload_n hx hb d_Ke_thread_31 rfl (lv_at hl 0 rfl) ?_
  refine lv_iload_n hx hb d_Ke_thread_32 rfl (lv_at hl 1 rfl) ?_
  refine lv_iload_n hx hb d_Ke_thread_33 rfl (lv_at hl 2 rfl) ?_
  rcases zo_x h with ⟨k9, u6, e9, h⟩ | ⟨v5, u6, e9, h⟩
  · cases h
    exact ka_err (vx_runV (As := [.int x1, .int x2]) (rest := []) S9 (c_Ke_needThreadAndContainer_err l hl9 D A r _ σ x1 x2 _ _ e9) (cwV 2 hts (tg_V wl_Ke_103 wm_Ke_needThreadAndContainer we_Ke_needThreadAndContainer wi_Ke wo_Ke_needThreadAndContainer) rfl rfl rfl wq_Ke_needThreadAndContainer ⟨Nat.le_of_ble_eq_true rfl, Nat.le_of_ble_eq_true rfl⟩) (ka_preV X9 hP hD hS 0 rfl rfl) rfl rfl hl.1 rfl (lv_room (Nat.le_of_ble_eq_true rfl)) d_Ke_thread_34 ⟨Nat.le_of_ble_eq_true rfl, Nat.le_of_ble_eq_true rfl⟩) hlk hex X9 hD hS (Nat.le_of_ble_eq_true rfl) (Nat.le_of_ble_eq_true rfl)
  refine ka_v (va_runV (As := [.int x1, .int x2]) (rest := []) S9 (c_Ke_needThreadAndContainer_ok l hl9 D A r _ σ x1 x2 _ _ e9) (cwV 2 hts (tg_V wl_Ke_103 wm_Ke_needThreadAndContainer we_Ke_needThreadAndContainer wi_Ke wo_Ke_needThreadAndContainer) rfl rfl rfl wq_Ke_needThreadAndContainer ⟨Nat.le_of_ble_eq_true rfl, Nat.le_of_ble_eq_true rfl⟩) (ka_preV X9 hP hD hS 0 rfl rfl) rfl rfl hl.1 rfl (lv_room (Nat.le_of_ble_eq_true rfl)) d_Ke_thread_34 ⟨Nat.le_of_ble_eq_true rfl, Nat.le_of_ble_eq_true rfl⟩) X9 hD hS rfl (fun H locs hP hD hS => ?_)
  refine lv_aload_n hx hb d_Ke_thread_37 rfl (lv_at hl 0 rfl) ?_
  refine lv_iload_n hx hb d_Ke_thread_38 rfl (lv_at hl 1 rfl) ?_
  refine lv_iload_n hx hb d_Ke_thread_39 rfl (lv_at hl 2 rfl) ?_
  refine lv_iload_n hx hb d_Ke_thread_40 rfl (lv_at hl 3 rfl) ?_
  rcases zo_x h with ⟨k9, u8, e9, h⟩ | ⟨v7, u8, e9, h⟩
  · cases h
    exact ka_err (vx_runV (As := [.int x1, .int x2, .int x3]) (rest := []) S9 (c_Ke_needMayMake_err l hl9 D A r _ u6 x1 x2 x3 _ _ e9) (cwV 3 hts (tg_V wl_Ke_106 wm_Ke_needMayMake we_Ke_needMayMake wi_Ke wo_Ke_needMayMake) rfl rfl rfl wq_Ke_needMayMake ⟨Nat.le_of_ble_eq_true rfl, Nat.le_of_ble_eq_true rfl⟩) (ka_preV X9 hP hD hS 0 rfl rfl) rfl rfl hl.1 rfl (lv_room (Nat.le_of_ble_eq_true rfl)) d_Ke_thread_41 ⟨Nat.le_of_ble_eq_true rfl, Nat.le_of_ble_eq_true rfl⟩) hlk hex X9 hD hS (Nat.le_of_ble_eq_true rfl) (Nat.le_of_ble_eq_true rfl)
  refine ka_v (va_runV (As := [.int x1, .int x2, .int x3]) (rest := []) S9 (c_Ke_needMayMake_ok l hl9 D A r _ u6 x1 x2 x3 _ _ e9) (cwV 3 hts (tg_V wl_Ke_106 wm_Ke_needMayMake we_Ke_needMayMake wi_Ke wo_Ke_needMayMake) rfl rfl rfl wq_Ke_needMayMake ⟨Nat.le_of_ble_eq_true rfl, Nat.le_of_ble_eq_true rfl⟩) (ka_preV X9 hP hD hS 0 rfl rfl) rfl rfl hl.1 rfl (lv_room (Nat.le_of_ble_eq_true rfl)) d_Ke_thread_41 ⟨Nat.le_of_ble_eq_true rfl, Nat.le_of_ble_eq_true rfl⟩) X9 hD hS rfl (fun H locs hP hD hS => ?_)
  refine lv_aload_n hx hb d_Ke_thread_44 rfl (lv_at hl 0 rfl) ?_
  refine va_get (D := D) (ci := 4) (v := .ref (A 2)) (C := R_Ke) (T := T_Ke) (N := 5) hx hb hts wu_Ke hown hK hP 0 rfl rfl 2 (by decide) (hts _ wf_Ke_23) (fun _ h9 => h9) rfl d_Ke_thread_45 ?_
  refine lv_iload hx hb d_Ke_thread_48 (lv_at hl 4 rfl) ?_
  refine lv_aload_n hx hb d_Ke_thread_50 rfl (lv_at hl 0 rfl) ?_
  refine va_get (D := D) (ci := 4) (v := .ref (A 4)) (C := R_Ke) (T := T_Ke) (N := 5) hx hb hts wu_Ke hown hK hP 0 rfl rfl 3 (by decide) (hts _ wf_Ke_28) (fun _ h9 => h9) rfl d_Ke_thread_51 ?_
  refine lv_iload_n hx hb d_Ke_thread_54 rfl (lv_at hl 1 rfl) ?_
  obtain ⟨v9, e9, h⟩ := zo_b h
  refine ka_i (va_runV (As := [.int x1]) (rest := [.int x4, .ref (A 2)]) S9 (c_Tg_clearanceOf l hl9 D A r _ u8 x1 _ e9) (cwV 1 hts (tg_V wl_Ke_90 wm_Tg_clearanceOf we_Tg_clearanceOf wi_Tg wo_Tg_clearanceOf) rfl rfl rfl wq_Tg_clearanceOf ⟨Nat.le_of_ble_eq_true rfl, Nat.le_of_ble_eq_true rfl⟩) (ka_preV X9 hP hD hS 4 rfl rfl) rfl rfl hl.1 rfl (lv_room (Nat.le_of_ble_eq_true rfl)) d_Ke_thread_55 ⟨Nat.le_of_ble_eq_true rfl, Nat.le_of_ble_eq_true rfl⟩) X9 hD hS rfl (fun H locs hP hD hS => ?_)
  obtain ⟨v10, e9, h⟩ := zo_b h
  refine ka_i (va_runV (As := [.int x4, .int v9]) (rest := []) S9 (c_Lb_fitsUnder l hl9 D A r _ u8 x4 v9 _ e9) (cwV 2 hts (tg_V wl_Ke_74 wm_Lb_fitsUnder we_Lb_fitsUnder wi_Lb wo_Lb_fitsUnder) rfl rfl rfl wq_Lb_fitsUnder ⟨Nat.le_of_ble_eq_true rfl, Nat.le_of_ble_eq_true rfl⟩) (ka_preV X9 hP hD hS 2 rfl rfl) rfl rfl hl.1 rfl (lv_room (Nat.le_of_ble_eq_true rfl)) d_Ke_thread_58 ⟨Nat.le_of_ble_eq_true rfl, Nat.le_of_ble_eq_true rfl⟩) X9 hD hS rfl (fun H locs hP hD hS => ?_)
  rcases zo_n h with ⟨c9, h⟩ | ⟨c9, h⟩
  · obtain ⟨rfl, rfl⟩ := zo_e h
    exact ka_err (vx_runS (As := [.int v10]) (rest := []) S9 (c_Ke_needAllowed_err l hl9 D A (GW A u8 r) _ v10 c9) (cwS 1 hts (tg_S wl_Ke_123 ws_Ke_needAllowed wi_Ke wo_Ke_needAllowed) rfl rfl rfl wq_Ke_needAllowed ⟨Nat.le_of_ble_eq_true rfl, Nat.le_of_ble_eq_true rfl⟩) (ka_preS X9 hP hD hS) rfl rfl hl.1 rfl (lv_room (Nat.le_of_ble_eq_true rfl)) d_Ke_thread_61 ⟨Nat.le_of_ble_eq_true rfl, Nat.le_of_ble_eq_true rfl⟩) hlk hex X9 hD hS (Nat.le_of_ble_eq_true rfl) (Nat.le_of_ble_eq_true rfl)
  refine ka_v (va_runS (As := [.int v10]) (rest := []) S9 (c_Ke_needAllowed_ok l hl9 D A (GW A u8 r) _ v10 c9) (cwS 1 hts (tg_S wl_Ke_123 ws_Ke_needAllowed wi_Ke wo_Ke_needAllowed) rfl rfl rfl wq_Ke_needAllowed ⟨Nat.le_of_ble_eq_true rfl, Nat.le_of_ble_eq_true rfl⟩) (ka_preS X9 hP hD hS) rfl rfl hl.1 rfl (lv_room (Nat.le_of_ble_eq_true rfl)) d_Ke_thread_61 ⟨Nat.le_of_ble_eq_true rfl, Nat.le_of_ble_eq_true rfl⟩) X9 hD hS rfl (fun H locs hP hD hS => ?_)
  refine lv_aload_n hx hb d_Ke_thread_64 rfl (lv_at hl 0 rfl) ?_
  refine va_get (D := D) (ci := 4) (v := .ref (A 2)) (C := R_Ke) (T := T_Ke) (N := 5) hx hb hts wu_Ke hown hK hP 0 rfl rfl 2 (by decide) (hts _ wf_Ke_23) (fun _ h9 => h9) rfl d_Ke_thread_65 ?_
  refine lv_iload_n hx hb d_Ke_thread_68 rfl (lv_at hl 3 rfl) ?_
  refine lv_iload hx hb d_Ke_thread_69 (lv_at hl 4 rfl) ?_
  obtain ⟨v11, e9, h⟩ := zo_b h
  refine ka_i (va_runV (As := [.int x3, .int x4]) (rest := []) S9 (c_Lb_fitsUnder l hl9 D A r _ u8 x3 x4 _ e9) (cwV 2 hts (tg_V wl_Ke_74 wm_Lb_fitsUnder we_Lb_fitsUnder wi_Lb wo_Lb_fitsUnder) rfl rfl rfl wq_Lb_fitsUnder ⟨Nat.le_of_ble_eq_true rfl, Nat.le_of_ble_eq_true rfl⟩) (ka_preV X9 hP hD hS 2 rfl rfl) rfl rfl hl.1 rfl (lv_room (Nat.le_of_ble_eq_true rfl)) d_Ke_thread_71 ⟨Nat.le_of_ble_eq_true rfl, Nat.le_of_ble_eq_true rfl⟩) X9 hD hS rfl (fun H locs hP hD hS => ?_)
  rcases zo_n h with ⟨c9, h⟩ | ⟨c9, h⟩
  · obtain ⟨rfl, rfl⟩ := zo_e h
    exact ka_err (vx_runS (As := [.int v11]) (rest := []) S9 (c_Ke_needAllowed_err l hl9 D A (GW A u8 r) _ v11 c9) (cwS 1 hts (tg_S wl_Ke_123 ws_Ke_needAllowed wi_Ke wo_Ke_needAllowed) rfl rfl rfl wq_Ke_needAllowed ⟨Nat.le_of_ble_eq_true rfl, Nat.le_of_ble_eq_true rfl⟩) (ka_preS X9 hP hD hS) rfl rfl hl.1 rfl (lv_room (Nat.le_of_ble_eq_true rfl)) d_Ke_thread_74 ⟨Nat.le_of_ble_eq_true rfl, Nat.le_of_ble_eq_true rfl⟩) hlk hex X9 hD hS (Nat.le_of_ble_eq_true rfl) (Nat.le_of_ble_eq_true rfl)
  refine ka_v (va_runS (As := [.int v11]) (rest := []) S9 (c_Ke_needAllowed_ok l hl9 D A (GW A u8 r) _ v11 c9) (cwS 1 hts (tg_S wl_Ke_123 ws_Ke_needAllowed wi_Ke wo_Ke_needAllowed) rfl rfl rfl wq_Ke_needAllowed ⟨Nat.le_of_ble_eq_true rfl, Nat.le_of_ble_eq_true rfl⟩) (ka_preS X9 hP hD hS) rfl rfl hl.1 rfl (lv_room (Nat.le_of_ble_eq_true rfl)) d_Ke_thread_74 ⟨Nat.le_of_ble_eq_true rfl, Nat.le_of_ble_eq_true rfl⟩) X9 hD hS rfl (fun H locs hP hD hS => ?_)
  refine lv_aload_n hx hb d_Ke_thread_77 rfl (lv_at hl 0 rfl) ?_
  refine lv_iload_n hx hb d_Ke_thread_78 rfl (lv_at hl 2 rfl) ?_
  refine lv_iconst (v := 2) hx hb d_Ke_thread_79 (by decide) ?_
  rcases zo_x h with ⟨k9, u13, e9, h⟩ | ⟨v12, u13, e9, h⟩
  · cases h
    exact ka_err (vx_runV (As := [.int x2, .int 2]) (rest := []) S9 (c_Ke_needRoomIn_err l hl9 D A r _ u8 x2 2 _ _ e9) (cwV 2 hts (tg_V wl_Ke_110 wm_Ke_needRoomIn we_Ke_needRoomIn wi_Ke wo_Ke_needRoomIn) rfl rfl rfl wq_Ke_needRoomIn ⟨Nat.le_of_ble_eq_true rfl, Nat.le_of_ble_eq_true rfl⟩) (ka_preV X9 hP hD hS 0 rfl rfl) rfl rfl hl.1 rfl (lv_room (Nat.le_of_ble_eq_true rfl)) d_Ke_thread_80 ⟨Nat.le_of_ble_eq_true rfl, Nat.le_of_ble_eq_true rfl⟩) hlk hex X9 hD hS (Nat.le_of_ble_eq_true rfl) (Nat.le_of_ble_eq_true rfl)
  refine ka_v (va_runV (As := [.int x2, .int 2]) (rest := []) S9 (c_Ke_needRoomIn_ok l hl9 D A r _ u8 x2 2 _ _ e9) (cwV 2 hts (tg_V wl_Ke_110 wm_Ke_needRoomIn we_Ke_needRoomIn wi_Ke wo_Ke_needRoomIn) rfl rfl rfl wq_Ke_needRoomIn ⟨Nat.le_of_ble_eq_true rfl, Nat.le_of_ble_eq_true rfl⟩) (ka_preV X9 hP hD hS 0 rfl rfl) rfl rfl hl.1 rfl (lv_room (Nat.le_of_ble_eq_true rfl)) d_Ke_thread_80 ⟨Nat.le_of_ble_eq_true rfl, Nat.le_of_ble_eq_true rfl⟩) X9 hD hS rfl (fun H locs hP hD hS => ?_)
  refine lv_aload_n hx hb d_Ke_thread_83 rfl (lv_at hl 0 rfl) ?_
  refine va_get (D := D) (ci := 4) (v := .ref (A 4)) (C := R_Ke) (T := T_Ke) (N := 5) hx hb hts wu_Ke hown hK hP 0 rfl rfl 3 (by decide) (hts _ wf_Ke_28) (fun _ h9 => h9) rfl d_Ke_thread_84 ?_
  refine lv_iconst (v := 3) hx hb d_Ke_thread_87 (by decide) ?_
  refine lv_iload_n hx hb d_Ke_thread_88 rfl (lv_at hl 2 rfl) ?_
  refine lv_iload_n hx hb d_Ke_thread_89 rfl (lv_at hl 3 rfl) ?_
  refine lv_iconst (v := 2) hx hb d_Ke_thread_90 (by decide) ?_
  obtain ⟨v14, e9, h⟩ := zo_b h
  refine ka_i (va_runV (As := [.int 3, .int x2, .int x3, .int 2]) (rest := []) S9 (c_Tg_add l hl9 D A r _ u13 3 x2 x3 2 _ e9) (cwV 4 hts (tg_V wl_Ke_113 wm_Tg_add we_Tg_add wi_Tg wo_Tg_add) rfl rfl rfl wq_Tg_add ⟨Nat.le_of_ble_eq_true rfl, Nat.le_of_ble_eq_true rfl⟩) (ka_preV X9 hP hD hS 4 rfl rfl) rfl rfl hl.1 rfl (lv_room (Nat.le_of_ble_eq_true rfl)) d_Ke_thread_91 ⟨Nat.le_of_ble_eq_true rfl, Nat.le_of_ble_eq_true rfl⟩) X9 hD hS rfl (fun H locs hP hD hS => ?_)
  refine lv_istore (lv' := [(5, .int v14.1), (0, .ref (A 0)), (1, .int x1), (2, .int x2), (3, .int x3), (4, .int x4)]) hx hb d_Ke_thread_94 hl (by decide) rfl (fun ls hl => ?_)
  refine lv_aload_n hx hb d_Ke_thread_96 rfl (lv_at hl 1 rfl) ?_
  refine va_get (D := D) (ci := 4) (v := .ref (A 4)) (C := R_Ke) (T := T_Ke) (N := 5) hx hb hts wu_Ke hown hK hP 0 rfl rfl 3 (by decide) (hts _ wf_Ke_28) (fun _ h9 => h9) rfl d_Ke_thread_97 ?_
  refine lv_iload hx hb d_Ke_thread_100 (lv_at hl 0 rfl) ?_
  refine lv_iload hx hb d_Ke_thread_102 (lv_at hl 5 rfl) ?_
  obtain ⟨v15, e9, h⟩ := zo_b h
  refine ka_v (va_runV (As := [.int v14.1, .int x4]) (rest := []) S9 (c_Tg_setClearance l hl9 D A r _ v14.2 v14.1 x4 _ e9) (cwV 2 hts (tg_V wl_Ke_97 wm_Tg_setClearance we_Tg_setClearance wi_Tg wo_Tg_setClearance) rfl rfl rfl wq_Tg_setClearance ⟨Nat.le_of_ble_eq_true rfl, Nat.le_of_ble_eq_true rfl⟩) (ka_preV X9 hP hD hS 4 rfl rfl) rfl rfl hl.1 rfl (lv_room (Nat.le_of_ble_eq_true rfl)) d_Ke_thread_104 ⟨Nat.le_of_ble_eq_true rfl, Nat.le_of_ble_eq_true rfl⟩) X9 hD hS rfl (fun H locs hP hD hS => ?_)
  refine lv_iload hx hb d_Ke_thread_107 (lv_at hl 0 rfl) ?_
  cases h
def f_Ke_needThere (σ : KS) (x1 x2 x3 : Int32) : Option (Except Nat Unit × KS) := (f_Tg_isThere σ x1).bind fun v1 => if v1 = 0 then (some (.error 2, σ)) else ((f_Tg_isThere σ x2).bind fun v3 => if v3 = 0 then (some (.error 2, σ)) else ((f_Tg_isThere σ x3).bind fun v5 => if v5 = 0 then (some (.error 2, σ)) else (some (.ok (), σ))))
set_option maxRecDepth 100000 in
set_option maxHeartbeats 4000000 in
theorem c_Ke_needThere_ok (l : Launch) (hl9 : l.stackTraces = false) (D : va_G) (A : Nat → Nat) (r : va_W) (sz : Nat) (σ : KS) (x1 x2 x3 : Int32) (z9 : Unit) (z : KS) (h : f_Ke_needThere σ x1 x2 x3 = some (.ok z9, z)) : Met l y_Ke_needThere (Cond.code y_Ke_needThere b_Ke_needThere 4 none :: T0) ({ frames := 1, cells := 0, slots := 0, locals := 21 } : Room) (va_Pc [.ref (A 0), .int x1, .int x2, .int x3] (ka_Wd D A (GW A σ r) sz)) (ka_Rv D (GW A z r) (va_A (GW A σ r) sz)) 0 0 (va_A (GW A σ r) sz) := by
  unfold f_Ke_needThere at h
  refine ka_of (own := R_Ke) (fun A9 => ka_Rv D (GW A z r) A9) (by decide) rfl (Nat.le_of_ble_eq_true rfl) ?_
  intro p e s m below meth c A9 ls S9 hr hlk hex X9 hP hD hl
  obtain ⟨hx, hb, hml, hown, hts⟩ := id S9
  have hK := X9.2.1
  have hS : va_S A9 s.heap s.heap [] := va_S.rf
  replace hl : lv_has ls 4 [(0, .ref (A 0)), (1, .int x1), (2, .int x2), (3, .int x3)] := hl
  refine lv_aload_n hx hb d_Ke_needThere_0 rfl (lv_at hl 0 rfl) ?_
  refine va_get (D := D) (ci := 4) (v := .ref (A 4)) (C := R_Ke) (T := T_Ke) (N := 5) hx hb hts wu_Ke hown hK hP 0 rfl rfl 3 (by decide) (hts _ wf_Ke_28) (fun _ h9 => h9) rfl d_Ke_needThere_1 ?_
  refine lv_iload_n hx hb d_Ke_needThere_4 rfl (lv_at hl 1 rfl) ?_
  obtain ⟨v1, e9, h⟩ := zo_b h
  refine ka_i (va_runV (As := [.int x1]) (rest := []) S9 (c_Tg_isThere l hl9 D A r _ σ x1 _ e9) (cwV 1 hts (tg_V wl_Ke_250 wm_Tg_isThere we_Tg_isThere wi_Tg wo_Tg_isThere) rfl rfl rfl wq_Tg_isThere ⟨Nat.le_of_ble_eq_true rfl, Nat.le_of_ble_eq_true rfl⟩) (ka_preV X9 hP hD hS 4 rfl rfl) rfl rfl hl.1 rfl (lv_room (Nat.le_of_ble_eq_true rfl)) d_Ke_needThere_5 ⟨Nat.le_of_ble_eq_true rfl, Nat.le_of_ble_eq_true rfl⟩) X9 hD hS rfl (fun H locs hP hD hS => ?_)
  refine lv_if_eq (tgt := 37) hx hb d_Ke_needThere_8 (by decide) (fun c2 => ?_) (fun c2 => ?_)
  · replace h := zo_t c2 h
    refine lv_iconst (v := 0) hx hb d_Ke_needThere_37 (by decide) ?_
    cases h
  replace h := zo_f c2 h
  refine lv_aload_n hx hb d_Ke_needThere_11 rfl (lv_at hl 0 rfl) ?_
  refine va_get (D := D) (ci := 4) (v := .ref (A 4)) (C := R_Ke) (T := T_Ke) (N := 5) hx hb hts wu_Ke hown hK hP 0 rfl rfl 3 (by decide) (hts _ wf_Ke_28) (fun _ h9 => h9) rfl d_Ke_needThere_12 ?_
  refine lv_iload_n hx hb d_Ke_needThere_15 rfl (lv_at hl 2 rfl) ?_
  obtain ⟨v3, e9, h⟩ := zo_b h
  refine ka_i (va_runV (As := [.int x2]) (rest := []) S9 (c_Tg_isThere l hl9 D A r _ σ x2 _ e9) (cwV 1 hts (tg_V wl_Ke_250 wm_Tg_isThere we_Tg_isThere wi_Tg wo_Tg_isThere) rfl rfl rfl wq_Tg_isThere ⟨Nat.le_of_ble_eq_true rfl, Nat.le_of_ble_eq_true rfl⟩) (ka_preV X9 hP hD hS 4 rfl rfl) rfl rfl hl.1 rfl (lv_room (Nat.le_of_ble_eq_true rfl)) d_Ke_needThere_16 ⟨Nat.le_of_ble_eq_true rfl, Nat.le_of_ble_eq_true rfl⟩) X9 hD hS rfl (fun H locs hP hD hS => ?_)
  refine lv_if_eq (tgt := 37) hx hb d_Ke_needThere_19 (by decide) (fun c4 => ?_) (fun c4 => ?_)
  · replace h := zo_t c4 h
    refine lv_iconst (v := 0) hx hb d_Ke_needThere_37 (by decide) ?_
    cases h
  replace h := zo_f c4 h
  refine lv_aload_n hx hb d_Ke_needThere_22 rfl (lv_at hl 0 rfl) ?_
  refine va_get (D := D) (ci := 4) (v := .ref (A 4)) (C := R_Ke) (T := T_Ke) (N := 5) hx hb hts wu_Ke hown hK hP 0 rfl rfl 3 (by decide) (hts _ wf_Ke_28) (fun _ h9 => h9) rfl d_Ke_needThere_23 ?_
  refine lv_iload_n hx hb d_Ke_needThere_26 rfl (lv_at hl 3 rfl) ?_
  obtain ⟨v5, e9, h⟩ := zo_b h
  refine ka_i (va_runV (As := [.int x3]) (rest := []) S9 (c_Tg_isThere l hl9 D A r _ σ x3 _ e9) (cwV 1 hts (tg_V wl_Ke_250 wm_Tg_isThere we_Tg_isThere wi_Tg wo_Tg_isThere) rfl rfl rfl wq_Tg_isThere ⟨Nat.le_of_ble_eq_true rfl, Nat.le_of_ble_eq_true rfl⟩) (ka_preV X9 hP hD hS 4 rfl rfl) rfl rfl hl.1 rfl (lv_room (Nat.le_of_ble_eq_true rfl)) d_Ke_needThere_27 ⟨Nat.le_of_ble_eq_true rfl, Nat.le_of_ble_eq_true rfl⟩) X9 hD hS rfl (fun H locs hP hD hS => ?_)
  refine lv_if_eq (tgt := 37) hx hb d_Ke_needThere_30 (by decide) (fun c6 => ?_) (fun c6 => ?_)
  · replace h := zo_t c6 h
    refine lv_iconst (v := 0) hx hb d_Ke_needThere_37 (by decide) ?_
    cases h
  replace h := zo_f c6 h
  refine lv_iconst (v := 1) hx hb d_Ke_needThere_33 (by decide) ?_
  refine lv_goto (tgt := 38) hx hb d_Ke_needThere_34 (by decide) ?_
  refine ka_v (va_runS (As := [.int 1]) (rest := []) S9 (c_Ke_needFound_ok l hl9 D A (GW A σ r) _ 1 (by decide)) (cwS 1 hts (tg_S wl_Ke_169 ws_Ke_needFound wi_Ke wo_Ke_needFound) rfl rfl rfl wq_Ke_needFound ⟨Nat.le_of_ble_eq_true rfl, Nat.le_of_ble_eq_true rfl⟩) (ka_preS X9 hP hD hS) rfl rfl hl.1 rfl (lv_room (Nat.le_of_ble_eq_true rfl)) d_Ke_needThere_38 ⟨Nat.le_of_ble_eq_true rfl, Nat.le_of_ble_eq_true rfl⟩) X9 hD hS rfl (fun H locs hP hD hS => ?_)
  cases h
  exact W.vret hx hb hr (fun t ht hW => ⟨⟨(), rfl, trivial, ka_at ht hP⟩, hS.F ht⟩) hS.2.2 d_Ke_needThere_41 hlk
set_option maxRecDepth 100000 in
set_option maxHeartbeats 4000000 in
theorem c_Ke_needThere_err (l : Launch) (hl9 : l.stackTraces = false) (D : va_G) (A : Nat → Nat) (r : va_W) (sz : Nat) (σ : KS) (x1 x2 x3 : Int32) (k9 : Nat) (z : KS) (h : f_Ke_needThere σ x1 x2 x3 = some (.error k9, z)) : vx_Met l y_Ke_needThere (Cond.code y_Ke_needThere b_Ke_needThere 4 none :: T0) ({ frames := 7, cells := 1, slots := 6, locals := 101 } : Room) (va_Pc [.ref (A 0), .int x1, .int x2, .int x3] (ka_Wd D A (GW A σ r) sz)) ka_No (ka_Xe D k9 (GW A z r) (va_A (GW A σ r) sz)) 1 6 (va_A (GW A σ r) sz) := by
  unfold f_Ke_needThere at h
  refine ka_ofX (own := R_Ke) (fun A9 => ka_Xe D k9 (GW A z r) A9) (by decide) rfl (Nat.le_of_ble_eq_true rfl) ?_
  intro p e s m below meth c A9 ls S9 hr hlk hex X9 hP hD hl
  obtain ⟨hx, hb, hml, hown, hts⟩ := id S9
  have hK := X9.2.1
  have hS : va_S A9 s.heap s.heap [] := va_S.rf
  replace hl : lv_has ls 4 [(0, .ref (A 0)), (1, .int x1), (2, .int x2), (3, .int x3)] := hl
  refine lv_aload_n hx hb d_Ke_needThere_0 rfl (lv_at hl 0 rfl) ?_
  refine va_get (D := D) (ci := 4) (v := .ref (A 4)) (C := R_Ke) (T := T_Ke) (N := 5) hx hb hts wu_Ke hown hK hP 0 rfl rfl 3 (by decide) (hts _ wf_Ke_28) (fun _ h9 => h9) rfl d_Ke_needThere_1 ?_
  refine lv_iload_n hx hb d_Ke_needThere_4 rfl (lv_at hl 1 rfl) ?_
  obtain ⟨v1, e9, h⟩ := zo_b h
  refine ka_i (va_runV (As := [.int x1]) (rest := []) S9 (c_Tg_isThere l hl9 D A r _ σ x1 _ e9) (cwV 1 hts (tg_V wl_Ke_250 wm_Tg_isThere we_Tg_isThere wi_Tg wo_Tg_isThere) rfl rfl rfl wq_Tg_isThere ⟨Nat.le_of_ble_eq_true rfl, Nat.le_of_ble_eq_true rfl⟩) (ka_preV X9 hP hD hS 4 rfl rfl) rfl rfl hl.1 rfl (lv_room (Nat.le_of_ble_eq_true rfl)) d_Ke_needThere_5 ⟨Nat.le_of_ble_eq_true rfl, Nat.le_of_ble_eq_true rfl⟩) X9 hD hS rfl (fun H locs hP hD hS => ?_)
  refine lv_if_eq (tgt := 37) hx hb d_Ke_needThere_8 (by decide) (fun c2 => ?_) (fun c2 => ?_)
  · replace h := zo_t c2 h
    refine lv_iconst (v := 0) hx hb d_Ke_needThere_37 (by decide) ?_
    obtain ⟨rfl, rfl⟩ := zo_e h
    exact ka_err (vx_runS (As := [.int 0]) (rest := []) S9 (c_Ke_needFound_err l hl9 D A (GW A σ r) _ 0 rfl) (cwS 1 hts (tg_S wl_Ke_169 ws_Ke_needFound wi_Ke wo_Ke_needFound) rfl rfl rfl wq_Ke_needFound ⟨Nat.le_of_ble_eq_true rfl, Nat.le_of_ble_eq_true rfl⟩) (ka_preS X9 hP hD hS) rfl rfl hl.1 rfl (lv_room (Nat.le_of_ble_eq_true rfl)) d_Ke_needThere_38 ⟨Nat.le_of_ble_eq_true rfl, Nat.le_of_ble_eq_true rfl⟩) hlk hex X9 hD hS (Nat.le_of_ble_eq_true rfl) (Nat.le_of_ble_eq_true rfl)
  replace h := zo_f c2 h
  refine lv_aload_n hx hb d_Ke_needThere_11 rfl (lv_at hl 0 rfl) ?_
  refine va_get (D := D) (ci := 4) (v := .ref (A 4)) (C := R_Ke) (T := T_Ke) (N := 5) hx hb hts wu_Ke hown hK hP 0 rfl rfl 3 (by decide) (hts _ wf_Ke_28) (fun _ h9 => h9) rfl d_Ke_needThere_12 ?_
  refine lv_iload_n hx hb d_Ke_needThere_15 rfl (lv_at hl 2 rfl) ?_
  obtain ⟨v3, e9, h⟩ := zo_b h
  refine ka_i (va_runV (As := [.int x2]) (rest := []) S9 (c_Tg_isThere l hl9 D A r _ σ x2 _ e9) (cwV 1 hts (tg_V wl_Ke_250 wm_Tg_isThere we_Tg_isThere wi_Tg wo_Tg_isThere) rfl rfl rfl wq_Tg_isThere ⟨Nat.le_of_ble_eq_true rfl, Nat.le_of_ble_eq_true rfl⟩) (ka_preV X9 hP hD hS 4 rfl rfl) rfl rfl hl.1 rfl (lv_room (Nat.le_of_ble_eq_true rfl)) d_Ke_needThere_16 ⟨Nat.le_of_ble_eq_true rfl, Nat.le_of_ble_eq_true rfl⟩) X9 hD hS rfl (fun H locs hP hD hS => ?_)
  refine lv_if_eq (tgt := 37) hx hb d_Ke_needThere_19 (by decide) (fun c4 => ?_) (fun c4 => ?_)
  · replace h := zo_t c4 h
    refine lv_iconst (v := 0) hx hb d_Ke_needThere_37 (by decide) ?_
    obtain ⟨rfl, rfl⟩ := zo_e h
    exact ka_err (vx_runS (As := [.int 0]) (rest := []) S9 (c_Ke_needFound_err l hl9 D A (GW A σ r) _ 0 rfl) (cwS 1 hts (tg_S wl_Ke_169 ws_Ke_needFound wi_Ke wo_Ke_needFound) rfl rfl rfl wq_Ke_needFound ⟨Nat.le_of_ble_eq_true rfl, Nat.le_of_ble_eq_true rfl⟩) (ka_preS X9 hP hD hS) rfl rfl hl.1 rfl (lv_room (Nat.le_of_ble_eq_true rfl)) d_Ke_needThere_38 ⟨Nat.le_of_ble_eq_true rfl, Nat.le_of_ble_eq_true rfl⟩) hlk hex X9 hD hS (Nat.le_of_ble_eq_true rfl) (Nat.le_of_ble_eq_true rfl)
  replace h := zo_f c4 h
  refine lv_aload_n hx hb d_Ke_needThere_22 rfl (lv_at hl 0 rfl) ?_
  refine va_get (D := D) (ci := 4) (v := .ref (A 4)) (C := R_Ke) (T := T_Ke) (N := 5) hx hb hts wu_Ke hown hK hP 0 rfl rfl 3 (by decide) (hts _ wf_Ke_28) (fun _ h9 => h9) rfl d_Ke_needThere_23 ?_
  refine lv_iload_n hx hb d_Ke_needThere_26 rfl (lv_at hl 3 rfl) ?_
  obtain ⟨v5, e9, h⟩ := zo_b h
  refine ka_i (va_runV (As := [.int x3]) (rest := []) S9 (c_Tg_isThere l hl9 D A r _ σ x3 _ e9) (cwV 1 hts (tg_V wl_Ke_250 wm_Tg_isThere we_Tg_isThere wi_Tg wo_Tg_isThere) rfl rfl rfl wq_Tg_isThere ⟨Nat.le_of_ble_eq_true rfl, Nat.le_of_ble_eq_true rfl⟩) (ka_preV X9 hP hD hS 4 rfl rfl) rfl rfl hl.1 rfl (lv_room (Nat.le_of_ble_eq_true rfl)) d_Ke_needThere_27 ⟨Nat.le_of_ble_eq_true rfl, Nat.le_of_ble_eq_true rfl⟩) X9 hD hS rfl (fun H locs hP hD hS => ?_)
  refine lv_if_eq (tgt := 37) hx hb d_Ke_needThere_30 (by decide) (fun c6 => ?_) (fun c6 => ?_)
  · replace h := zo_t c6 h
    refine lv_iconst (v := 0) hx hb d_Ke_needThere_37 (by decide) ?_
    obtain ⟨rfl, rfl⟩ := zo_e h
    exact ka_err (vx_runS (As := [.int 0]) (rest := []) S9 (c_Ke_needFound_err l hl9 D A (GW A σ r) _ 0 rfl) (cwS 1 hts (tg_S wl_Ke_169 ws_Ke_needFound wi_Ke wo_Ke_needFound) rfl rfl rfl wq_Ke_needFound ⟨Nat.le_of_ble_eq_true rfl, Nat.le_of_ble_eq_true rfl⟩) (ka_preS X9 hP hD hS) rfl rfl hl.1 rfl (lv_room (Nat.le_of_ble_eq_true rfl)) d_Ke_needThere_38 ⟨Nat.le_of_ble_eq_true rfl, Nat.le_of_ble_eq_true rfl⟩) hlk hex X9 hD hS (Nat.le_of_ble_eq_true rfl) (Nat.le_of_ble_eq_true rfl)
  replace h := zo_f c6 h
  refine lv_iconst (v := 1) hx hb d_Ke_needThere_33 (by decide) ?_
  refine lv_goto (tgt := 38) hx hb d_Ke_needThere_34 (by decide) ?_
  refine ka_v (va_runS (As := [.int 1]) (rest := []) S9 (c_Ke_needFound_ok l hl9 D A (GW A σ r) _ 1 (by decide)) (cwS 1 hts (tg_S wl_Ke_169 ws_Ke_needFound wi_Ke wo_Ke_needFound) rfl rfl rfl wq_Ke_needFound ⟨Nat.le_of_ble_eq_true rfl, Nat.le_of_ble_eq_true rfl⟩) (ka_preS X9 hP hD hS) rfl rfl hl.1 rfl (lv_room (Nat.le_of_ble_eq_true rfl)) d_Ke_needThere_38 ⟨Nat.le_of_ble_eq_true rfl, Nat.le_of_ble_eq_true rfl⟩) X9 hD hS rfl (fun H locs hP hD hS => ?_)
  cases h
def f_Ke_needCell (σ : KS) (x1 x2 x3 x4 : Int32) : Option (Except Nat Unit × KS) := (f_Ke_isBetween x4 0 7).bind fun v1 => if v1 = 0 then some (.error 1, σ) else zx (f_Ke_needThere σ x1 x2 x3) fun _ u3 => (f_Tg_isOfKind u3 x1 3).bind fun v4 => if v4 = 0 then (some (.error 1, u3)) else ((f_Tg_isOfKind u3 x2 0).bind fun v6 => if v6 = 0 then (some (.error 1, u3)) else ((f_Tg_isOfKind u3 x3 1).bind fun v8 => if v8 = 0 then (some (.error 1, u3)) else ((f_Tg_isIn u3 x3 x2).bind fun v10 => if v10 = 0 then (some (.error 2, u3)) else ((f_Tg_cellCountOf u3 x3).bind fun v12 => if v12 ≤ x4 then (some (.error 2, u3)) else (some (.ok (), u3))))))
set_option maxRecDepth 100000 in
set_option maxHeartbeats 4000000 in
theorem c_Ke_needCell_ok (l : Launch) (hl9 : l.stackTraces = false) (D : va_G) (A : Nat → Nat) (r : va_W) (sz : Nat) (σ : KS) (x1 x2 x3 x4 : Int32) (z9 : Unit) (z : KS) (h : f_Ke_needCell σ x1 x2 x3 x4 = some (.ok z9, z)) : Met l y_Ke_needCell (Cond.code y_Ke_needCell b_Ke_needCell 5 none :: T0) ({ frames := 2, cells := 0, slots := 0, locals := 44 } : Room) (va_Pc [.ref (A 0), .int x1, .int x2, .int x3, .int x4] (ka_Wd D A (GW A σ r) sz)) (ka_Rv D (GW A z r) (va_A (GW A σ r) sz)) 0 0 (va_A (GW A σ r) sz) := by
  unfold f_Ke_needCell at h
  refine ka_of (own := R_Ke) (fun A9 => ka_Rv D (GW A z r) A9) (by decide) rfl (Nat.le_of_ble_eq_true rfl) ?_
  intro p e s m below meth c A9 ls S9 hr hlk hex X9 hP hD hl
  obtain ⟨hx, hb, hml, hown, hts⟩ := id S9
  have hK := X9.2.1
  have hS : va_S A9 s.heap s.heap [] := va_S.rf
  replace hl : lv_has ls 5 [(0, .ref (A 0)), (1, .int x1), (2, .int x2), (3, .int x3), (4, .int x4)] := hl
  refine lv_iload hx hb d_Ke_needCell_0 (lv_at hl 4 rfl) ?_
  refine lv_iconst (v := 0) hx hb d_Ke_needCell_2 (by decide) ?_
  refine lv_bipush (v := 7) hx hb d_Ke_needCell_3 (by decide) ?_
  obtain ⟨v1, e9, h⟩ := zo_b h
  refine ka_i (va_runS (As := [.int x4, .int 0, .int 7]) (rest := []) S9 (c_Ke_isBetween l hl9 D A (GW A σ r) _ x4 0 7 _ e9) (cwS 3 hts (tg_S wl_Ke_40 ws_Ke_isBetween wi_Ke wo_Ke_isBetween) rfl rfl rfl wq_Ke_isBetween ⟨Nat.le_of_ble_eq_true rfl, Nat.le_of_ble_eq_true rfl⟩) (ka_preS X9 hP hD hS) rfl rfl hl.1 rfl (lv_room (Nat.le_of_ble_eq_true rfl)) d_Ke_needCell_5 ⟨Nat.le_of_ble_eq_true rfl, Nat.le_of_ble_eq_true rfl⟩) X9 hD hS rfl (fun H locs hP hD hS => ?_)
  rcases zo_n h with ⟨c9, h⟩ | ⟨c9, h⟩
  · cases h
  refine ka_v (va_runS (As := [.int v1]) (rest := []) S9 (c_Ke_needNumber_ok l hl9 D A (GW A σ r) _ v1 c9) (cwS 1 hts (tg_S wl_Ke_44 ws_Ke_needNumber wi_Ke wo_Ke_needNumber) rfl rfl rfl wq_Ke_needNumber ⟨Nat.le_of_ble_eq_true rfl, Nat.le_of_ble_eq_true rfl⟩) (ka_preS X9 hP hD hS) rfl rfl hl.1 rfl (lv_room (Nat.le_of_ble_eq_true rfl)) d_Ke_needCell_8 ⟨Nat.le_of_ble_eq_true rfl, Nat.le_of_ble_eq_true rfl⟩) X9 hD hS rfl (fun H locs hP hD hS => ?_)
  refine lv_aload_n hx hb d_Ke_needCell_11 rfl (lv_at hl 0 rfl) ?_
  refine lv_iload_n hx hb d_Ke_needCell_12 rfl (lv_at hl 1 rfl) ?_
  refine lv_iload_n hx hb d_Ke_needCell_13 rfl (lv_at hl 2 rfl) ?_
  refine lv_iload_n hx hb d_Ke_needCell_14 rfl (lv_at hl 3 rfl) ?_
  rcases zo_x h with ⟨k9, u3, e9, h⟩ | ⟨v2, u3, e9, h⟩
  · cases h
  refine ka_v (va_runV (As := [.int x1, .int x2, .int x3]) (rest := []) S9 (c_Ke_needThere_ok l hl9 D A r _ σ x1 x2 x3 _ _ e9) (cwV 3 hts (tg_V wl_Ke_160 wm_Ke_needThere we_Ke_needThere wi_Ke wo_Ke_needThere) rfl rfl rfl wq_Ke_needThere ⟨Nat.le_of_ble_eq_true rfl, Nat.le_of_ble_eq_true rfl⟩) (ka_preV X9 hP hD hS 0 rfl rfl) rfl rfl hl.1 rfl (lv_room (Nat.le_of_ble_eq_true rfl)) d_Ke_needCell_15 ⟨Nat.le_of_ble_eq_true rfl, Nat.le_of_ble_eq_true rfl⟩) X9 hD hS rfl (fun H locs hP hD hS => ?_)
  refine lv_aload_n hx hb d_Ke_needCell_18 rfl (lv_at hl 0 rfl) ?_
  refine va_get (D := D) (ci := 4) (v := .ref (A 4)) (C := R_Ke) (T := T_Ke) (N := 5) hx hb hts wu_Ke hown hK hP 0 rfl rfl 3 (by decide) (hts _ wf_Ke_28) (fun _ h9 => h9) rfl d_Ke_needCell_19 ?_
  refine lv_iload_n hx hb d_Ke_needCell_22 rfl (lv_at hl 1 rfl) ?_
  refine lv_iconst (v := 3) hx hb d_Ke_needCell_23 (by decide) ?_
  obtain ⟨v4, e9, h⟩ := zo_b h
  refine ka_i (va_runV (As := [.int x1, .int 3]) (rest := []) S9 (c_Tg_isOfKind l hl9 D A r _ u3 x1 3 _ e9) (cwV 2 hts (tg_V wl_Ke_163 wm_Tg_isOfKind we_Tg_isOfKind wi_Tg wo_Tg_isOfKind) rfl rfl rfl wq_Tg_isOfKind ⟨Nat.le_of_ble_eq_true rfl, Nat.le_of_ble_eq_true rfl⟩) (ka_preV X9 hP hD hS 4 rfl rfl) rfl rfl hl.1 rfl (lv_room (Nat.le_of_ble_eq_true rfl)) d_Ke_needCell_24 ⟨Nat.le_of_ble_eq_true rfl, Nat.le_of_ble_eq_true rfl⟩) X9 hD hS rfl (fun H locs hP hD hS => ?_)
  refine lv_if_eq (tgt := 58) hx hb d_Ke_needCell_27 (by decide) (fun c5 => ?_) (fun c5 => ?_)
  · replace h := zo_t c5 h
    refine lv_iconst (v := 0) hx hb d_Ke_needCell_58 (by decide) ?_
    cases h
  replace h := zo_f c5 h
  refine lv_aload_n hx hb d_Ke_needCell_30 rfl (lv_at hl 0 rfl) ?_
  refine va_get (D := D) (ci := 4) (v := .ref (A 4)) (C := R_Ke) (T := T_Ke) (N := 5) hx hb hts wu_Ke hown hK hP 0 rfl rfl 3 (by decide) (hts _ wf_Ke_28) (fun _ h9 => h9) rfl d_Ke_needCell_31 ?_
  refine lv_iload_n hx hb d_Ke_needCell_34 rfl (lv_at hl 2 rfl) ?_
  refine lv_iconst (v := 0) hx hb d_Ke_needCell_35 (by decide) ?_
  obtain ⟨v6, e9, h⟩ := zo_b h
  refine ka_i (va_runV (As := [.int x2, .int 0]) (rest := []) S9 (c_Tg_isOfKind l hl9 D A r _ u3 x2 0 _ e9) (cwV 2 hts (tg_V wl_Ke_163 wm_Tg_isOfKind we_Tg_isOfKind wi_Tg wo_Tg_isOfKind) rfl rfl rfl wq_Tg_isOfKind ⟨Nat.le_of_ble_eq_true rfl, Nat.le_of_ble_eq_true rfl⟩) (ka_preV X9 hP hD hS 4 rfl rfl) rfl rfl hl.1 rfl (lv_room (Nat.le_of_ble_eq_true rfl)) d_Ke_needCell_36 ⟨Nat.le_of_ble_eq_true rfl, Nat.le_of_ble_eq_true rfl⟩) X9 hD hS rfl (fun H locs hP hD hS => ?_)
  refine lv_if_eq (tgt := 58) hx hb d_Ke_needCell_39 (by decide) (fun c7 => ?_) (fun c7 => ?_)
  · replace h := zo_t c7 h
    refine lv_iconst (v := 0) hx hb d_Ke_needCell_58 (by decide) ?_
    cases h
  replace h := zo_f c7 h
  refine lv_aload_n hx hb d_Ke_needCell_42 rfl (lv_at hl 0 rfl) ?_
  refine va_get (D := D) (ci := 4) (v := .ref (A 4)) (C := R_Ke) (T := T_Ke) (N := 5) hx hb hts wu_Ke hown hK hP 0 rfl rfl 3 (by decide) (hts _ wf_Ke_28) (fun _ h9 => h9) rfl d_Ke_needCell_43 ?_
  refine lv_iload_n hx hb d_Ke_needCell_46 rfl (lv_at hl 3 rfl) ?_
  refine lv_iconst (v := 1) hx hb d_Ke_needCell_47 (by decide) ?_
  obtain ⟨v8, e9, h⟩ := zo_b h
  refine ka_i (va_runV (As := [.int x3, .int 1]) (rest := []) S9 (c_Tg_isOfKind l hl9 D A r _ u3 x3 1 _ e9) (cwV 2 hts (tg_V wl_Ke_163 wm_Tg_isOfKind we_Tg_isOfKind wi_Tg wo_Tg_isOfKind) rfl rfl rfl wq_Tg_isOfKind ⟨Nat.le_of_ble_eq_true rfl, Nat.le_of_ble_eq_true rfl⟩) (ka_preV X9 hP hD hS 4 rfl rfl) rfl rfl hl.1 rfl (lv_room (Nat.le_of_ble_eq_true rfl)) d_Ke_needCell_48 ⟨Nat.le_of_ble_eq_true rfl, Nat.le_of_ble_eq_true rfl⟩) X9 hD hS rfl (fun H locs hP hD hS => ?_)
  refine lv_if_eq (tgt := 58) hx hb d_Ke_needCell_51 (by decide) (fun c9 => ?_) (fun c9 => ?_)
  · replace h := zo_t c9 h
    refine lv_iconst (v := 0) hx hb d_Ke_needCell_58 (by decide) ?_
    cases h
  replace h := zo_f c9 h
  refine lv_iconst (v := 1) hx hb d_Ke_needCell_54 (by decide) ?_
  refine lv_goto (tgt := 59) hx hb d_Ke_needCell_55 (by decide) ?_
  refine ka_v (va_runS (As := [.int 1]) (rest := []) S9 (c_Ke_needNumber_ok l hl9 D A (GW A u3 r) _ 1 (by decide)) (cwS 1 hts (tg_S wl_Ke_44 ws_Ke_needNumber wi_Ke wo_Ke_needNumber) rfl rfl rfl wq_Ke_needNumber ⟨Nat.le_of_ble_eq_true rfl, Nat.le_of_ble_eq_true rfl⟩) (ka_preS X9 hP hD hS) rfl rfl hl.1 rfl (lv_room (Nat.le_of_ble_eq_true rfl)) d_Ke_needCell_59 ⟨Nat.le_of_ble_eq_true rfl, Nat.le_of_ble_eq_true rfl⟩) X9 hD hS rfl (fun H locs hP hD hS => ?_)
  refine lv_aload_n hx hb d_Ke_needCell_62 rfl (lv_at hl 0 rfl) ?_
  refine va_get (D := D) (ci := 4) (v := .ref (A 4)) (C := R_Ke) (T := T_Ke) (N := 5) hx hb hts wu_Ke hown hK hP 0 rfl rfl 3 (by decide) (hts _ wf_Ke_28) (fun _ h9 => h9) rfl d_Ke_needCell_63 ?_
  refine lv_iload_n hx hb d_Ke_needCell_66 rfl (lv_at hl 3 rfl) ?_
  refine lv_iload_n hx hb d_Ke_needCell_67 rfl (lv_at hl 2 rfl) ?_
  obtain ⟨v10, e9, h⟩ := zo_b h
  refine ka_i (va_runV (As := [.int x3, .int x2]) (rest := []) S9 (c_Tg_isIn l hl9 D A r _ u3 x3 x2 _ e9) (cwV 2 hts (tg_V wl_Ke_166 wm_Tg_isIn we_Tg_isIn wi_Tg wo_Tg_isIn) rfl rfl rfl wq_Tg_isIn ⟨Nat.le_of_ble_eq_true rfl, Nat.le_of_ble_eq_true rfl⟩) (ka_preV X9 hP hD hS 4 rfl rfl) rfl rfl hl.1 rfl (lv_room (Nat.le_of_ble_eq_true rfl)) d_Ke_needCell_68 ⟨Nat.le_of_ble_eq_true rfl, Nat.le_of_ble_eq_true rfl⟩) X9 hD hS rfl (fun H locs hP hD hS => ?_)
  refine lv_if_eq (tgt := 91) hx hb d_Ke_needCell_71 (by decide) (fun c11 => ?_) (fun c11 => ?_)
  · replace h := zo_t c11 h
    refine lv_iconst (v := 0) hx hb d_Ke_needCell_91 (by decide) ?_
    cases h
  replace h := zo_f c11 h
  refine lv_iload hx hb d_Ke_needCell_74 (lv_at hl 4 rfl) ?_
  refine lv_aload_n hx hb d_Ke_needCell_76 rfl (lv_at hl 0 rfl) ?_
  refine va_get (D := D) (ci := 4) (v := .ref (A 4)) (C := R_Ke) (T := T_Ke) (N := 5) hx hb hts wu_Ke hown hK hP 0 rfl rfl 3 (by decide) (hts _ wf_Ke_28) (fun _ h9 => h9) rfl d_Ke_needCell_77 ?_
  refine lv_iload_n hx hb d_Ke_needCell_80 rfl (lv_at hl 3 rfl) ?_
  obtain ⟨v12, e9, h⟩ := zo_b h
  refine ka_i (va_runV (As := [.int x3]) (rest := [.int x4]) S9 (c_Tg_cellCountOf l hl9 D A r _ u3 x3 _ e9) (cwV 1 hts (tg_V wl_Ke_257 wm_Tg_cellCountOf we_Tg_cellCountOf wi_Tg wo_Tg_cellCountOf) rfl rfl rfl wq_Tg_cellCountOf ⟨Nat.le_of_ble_eq_true rfl, Nat.le_of_ble_eq_true rfl⟩) (ka_preV X9 hP hD hS 4 rfl rfl) rfl rfl hl.1 rfl (lv_room (Nat.le_of_ble_eq_true rfl)) d_Ke_needCell_81 ⟨Nat.le_of_ble_eq_true rfl, Nat.le_of_ble_eq_true rfl⟩) X9 hD hS rfl (fun H locs hP hD hS => ?_)
  refine lv_icmp_ge (tgt := 91) hx hb d_Ke_needCell_84 (by decide) (fun c13 => ?_) (fun c13 => ?_)
  · replace h := zo_t c13 h
    refine lv_iconst (v := 0) hx hb d_Ke_needCell_91 (by decide) ?_
    cases h
  replace h := zo_f c13 h
  refine lv_iconst (v := 1) hx hb d_Ke_needCell_87 (by decide) ?_
  refine lv_goto (tgt := 92) hx hb d_Ke_needCell_88 (by decide) ?_
  refine ka_v (va_runS (As := [.int 1]) (rest := []) S9 (c_Ke_needFound_ok l hl9 D A (GW A u3 r) _ 1 (by decide)) (cwS 1 hts (tg_S wl_Ke_169 ws_Ke_needFound wi_Ke wo_Ke_needFound) rfl rfl rfl wq_Ke_needFound ⟨Nat.le_of_ble_eq_true rfl, Nat.le_of_ble_eq_true rfl⟩) (ka_preS X9 hP hD hS) rfl rfl hl.1 rfl (lv_room (Nat.le_of_ble_eq_true rfl)) d_Ke_needCell_92 ⟨Nat.le_of_ble_eq_true rfl, Nat.le_of_ble_eq_true rfl⟩) X9 hD hS rfl (fun H locs hP hD hS => ?_)
  cases h
  exact W.vret hx hb hr (fun t ht hW => ⟨⟨(), rfl, trivial, ka_at ht hP⟩, hS.F ht⟩) hS.2.2 d_Ke_needCell_95 hlk
set_option maxRecDepth 100000 in
set_option maxHeartbeats 4000000 in
theorem c_Ke_needCell_err (l : Launch) (hl9 : l.stackTraces = false) (D : va_G) (A : Nat → Nat) (r : va_W) (sz : Nat) (σ : KS) (x1 x2 x3 x4 : Int32) (k9 : Nat) (z : KS) (h : f_Ke_needCell σ x1 x2 x3 x4 = some (.error k9, z)) : vx_Met l y_Ke_needCell (Cond.code y_Ke_needCell b_Ke_needCell 5 none :: T0) ({ frames := 8, cells := 1, slots := 6, locals := 124 } : Room) (va_Pc [.ref (A 0), .int x1, .int x2, .int x3, .int x4] (ka_Wd D A (GW A σ r) sz)) ka_No (ka_Xe D k9 (GW A z r) (va_A (GW A σ r) sz)) 1 6 (va_A (GW A σ r) sz) := by
  unfold f_Ke_needCell at h
  refine ka_ofX (own := R_Ke) (fun A9 => ka_Xe D k9 (GW A z r) A9) (by decide) rfl (Nat.le_of_ble_eq_true rfl) ?_
  intro p e s m below meth c A9 ls S9 hr hlk hex X9 hP hD hl
  obtain ⟨hx, hb, hml, hown, hts⟩ := id S9
  have hK := X9.2.1
  have hS : va_S A9 s.heap s.heap [] := va_S.rf
  replace hl : lv_has ls 5 [(0, .ref (A 0)), (1, .int x1), (2, .int x2), (3, .int x3), (4, .int x4)] := hl
  refine lv_iload hx hb d_Ke_needCell_0 (lv_at hl 4 rfl) ?_
  refine lv_iconst (v := 0) hx hb d_Ke_needCell_2 (by decide) ?_
  refine lv_bipush (v := 7) hx hb d_Ke_needCell_3 (by decide) ?_
  obtain ⟨v1, e9, h⟩ := zo_b h
  refine ka_i (va_runS (As := [.int x4, .int 0, .int 7]) (rest := []) S9 (c_Ke_isBetween l hl9 D A (GW A σ r) _ x4 0 7 _ e9) (cwS 3 hts (tg_S wl_Ke_40 ws_Ke_isBetween wi_Ke wo_Ke_isBetween) rfl rfl rfl wq_Ke_isBetween ⟨Nat.le_of_ble_eq_true rfl, Nat.le_of_ble_eq_true rfl⟩) (ka_preS X9 hP hD hS) rfl rfl hl.1 rfl (lv_room (Nat.le_of_ble_eq_true rfl)) d_Ke_needCell_5 ⟨Nat.le_of_ble_eq_true rfl, Nat.le_of_ble_eq_true rfl⟩) X9 hD hS rfl (fun H locs hP hD hS => ?_)
  rcases zo_n h with ⟨c9, h⟩ | ⟨c9, h⟩
  · obtain ⟨rfl, rfl⟩ := zo_e h
    exact ka_err (vx_runS (As := [.int v1]) (rest := []) S9 (c_Ke_needNumber_err l hl9 D A (GW A σ r) _ v1 c9) (cwS 1 hts (tg_S wl_Ke_44 ws_Ke_needNumber wi_Ke wo_Ke_needNumber) rfl rfl rfl wq_Ke_needNumber ⟨Nat.le_of_ble_eq_true rfl, Nat.le_of_ble_eq_true rfl⟩) (ka_preS X9 hP hD hS) rfl rfl hl.1 rfl (lv_room (Nat.le_of_ble_eq_true rfl)) d_Ke_needCell_8 ⟨Nat.le_of_ble_eq_true rfl, Nat.le_of_ble_eq_true rfl⟩) hlk hex X9 hD hS (Nat.le_of_ble_eq_true rfl) (Nat.le_of_ble_eq_true rfl)
  refine ka_v (va_runS (As := [.int v1]) (rest := []) S9 (c_Ke_needNumber_ok l hl9 D A (GW A σ r) _ v1 c9) (cwS 1 hts (tg_S wl_Ke_44 ws_Ke_needNumber wi_Ke wo_Ke_needNumber) rfl rfl rfl wq_Ke_needNumber ⟨Nat.le_of_ble_eq_true rfl, Nat.le_of_ble_eq_true rfl⟩) (ka_preS X9 hP hD hS) rfl rfl hl.1 rfl (lv_room (Nat.le_of_ble_eq_true rfl)) d_Ke_needCell_8 ⟨Nat.le_of_ble_eq_true rfl, Nat.le_of_ble_eq_true rfl⟩) X9 hD hS rfl (fun H locs hP hD hS => ?_)
  refine lv_aload_n hx hb d_Ke_needCell_11 rfl (lv_at hl 0 rfl) ?_
  refine lv_iload_n hx hb d_Ke_needCell_12 rfl (lv_at hl 1 rfl) ?_
  refine lv_iload_n hx hb d_Ke_needCell_13 rfl (lv_at hl 2 rfl) ?_
  refine lv_iload_n hx hb d_Ke_needCell_14 rfl (lv_at hl 3 rfl) ?_
  rcases zo_x h with ⟨k9, u3, e9, h⟩ | ⟨v2, u3, e9, h⟩
  · cases h
    exact ka_err (vx_runV (As := [.int x1, .int x2, .int x3]) (rest := []) S9 (c_Ke_needThere_err l hl9 D A r _ σ x1 x2 x3 _ _ e9) (cwV 3 hts (tg_V wl_Ke_160 wm_Ke_needThere we_Ke_needThere wi_Ke wo_Ke_needThere) rfl rfl rfl wq_Ke_needThere ⟨Nat.le_of_ble_eq_true rfl, Nat.le_of_ble_eq_true rfl⟩) (ka_preV X9 hP hD hS 0 rfl rfl) rfl rfl hl.1 rfl (lv_room (Nat.le_of_ble_eq_true rfl)) d_Ke_needCell_15 ⟨Nat.le_of_ble_eq_true rfl, Nat.le_of_ble_eq_true rfl⟩) hlk hex X9 hD hS (Nat.le_of_ble_eq_true rfl) (Nat.le_of_ble_eq_true rfl)
  refine ka_v (va_runV (As := [.int x1, .int x2, .int x3]) (rest := []) S9 (c_Ke_needThere_ok l hl9 D A r _ σ x1 x2 x3 _ _ e9) (cwV 3 hts (tg_V wl_Ke_160 wm_Ke_needThere we_Ke_needThere wi_Ke wo_Ke_needThere) rfl rfl rfl wq_Ke_needThere ⟨Nat.le_of_ble_eq_true rfl, Nat.le_of_ble_eq_true rfl⟩) (ka_preV X9 hP hD hS 0 rfl rfl) rfl rfl hl.1 rfl (lv_room (Nat.le_of_ble_eq_true rfl)) d_Ke_needCell_15 ⟨Nat.le_of_ble_eq_true rfl, Nat.le_of_ble_eq_true rfl⟩) X9 hD hS rfl (fun H locs hP hD hS => ?_)
  refine lv_aload_n hx hb d_Ke_needCell_18 rfl (lv_at hl 0 rfl) ?_
  refine va_get (D := D) (ci := 4) (v := .ref (A 4)) (C := R_Ke) (T := T_Ke) (N := 5) hx hb hts wu_Ke hown hK hP 0 rfl rfl 3 (by decide) (hts _ wf_Ke_28) (fun _ h9 => h9) rfl d_Ke_needCell_19 ?_
  refine lv_iload_n hx hb d_Ke_needCell_22 rfl (lv_at hl 1 rfl) ?_
  refine lv_iconst (v := 3) hx hb d_Ke_needCell_23 (by decide) ?_
  obtain ⟨v4, e9, h⟩ := zo_b h
  refine ka_i (va_runV (As := [.int x1, .int 3]) (rest := []) S9 (c_Tg_isOfKind l hl9 D A r _ u3 x1 3 _ e9) (cwV 2 hts (tg_V wl_Ke_163 wm_Tg_isOfKind we_Tg_isOfKind wi_Tg wo_Tg_isOfKind) rfl rfl rfl wq_Tg_isOfKind ⟨Nat.le_of_ble_eq_true rfl, Nat.le_of_ble_eq_true rfl⟩) (ka_preV X9 hP hD hS 4 rfl rfl) rfl rfl hl.1 rfl (lv_room (Nat.le_of_ble_eq_true rfl)) d_Ke_needCell_24 ⟨Nat.le_of_ble_eq_true rfl, Nat.le_of_ble_eq_true rfl⟩) X9 hD hS rfl (fun H locs hP hD hS => ?_)
  refine lv_if_eq (tgt := 58) hx hb d_Ke_needCell_27 (by decide) (fun c5 => ?_) (fun c5 => ?_)
  · replace h := zo_t c5 h
    refine lv_iconst (v := 0) hx hb d_Ke_needCell_58 (by decide) ?_
    obtain ⟨rfl, rfl⟩ := zo_e h
    exact ka_err (vx_runS (As := [.int 0]) (rest := []) S9 (c_Ke_needNumber_err l hl9 D A (GW A u3 r) _ 0 rfl) (cwS 1 hts (tg_S wl_Ke_44 ws_Ke_needNumber wi_Ke wo_Ke_needNumber) rfl rfl rfl wq_Ke_needNumber ⟨Nat.le_of_ble_eq_true rfl, Nat.le_of_ble_eq_true rfl⟩) (ka_preS X9 hP hD hS) rfl rfl hl.1 rfl (lv_room (Nat.le_of_ble_eq_true rfl)) d_Ke_needCell_59 ⟨Nat.le_of_ble_eq_true rfl, Nat.le_of_ble_eq_true rfl⟩) hlk hex X9 hD hS (Nat.le_of_ble_eq_true rfl) (Nat.le_of_ble_eq_true rfl)
  replace h := zo_f c5 h
  refine lv_aload_n hx hb d_Ke_needCell_30 rfl (lv_at hl 0 rfl) ?_
  refine va_get (D := D) (ci := 4) (v := .ref (A 4)) (C := R_Ke) (T := T_Ke) (N := 5) hx hb hts wu_Ke hown hK hP 0 rfl rfl 3 (by decide) (hts _ wf_Ke_28) (fun _ h9 => h9) rfl d_Ke_needCell_31 ?_
  refine lv_iload_n hx hb d_Ke_needCell_34 rfl (lv_at hl 2 rfl) ?_
  refine lv_iconst (v := 0) hx hb d_Ke_needCell_35 (by decide) ?_
  obtain ⟨v6, e9, h⟩ := zo_b h
  refine ka_i (va_runV (As := [.int x2, .int 0]) (rest := []) S9 (c_Tg_isOfKind l hl9 D A r _ u3 x2 0 _ e9) (cwV 2 hts (tg_V wl_Ke_163 wm_Tg_isOfKind we_Tg_isOfKind wi_Tg wo_Tg_isOfKind) rfl rfl rfl wq_Tg_isOfKind ⟨Nat.le_of_ble_eq_true rfl, Nat.le_of_ble_eq_true rfl⟩) (ka_preV X9 hP hD hS 4 rfl rfl) rfl rfl hl.1 rfl (lv_room (Nat.le_of_ble_eq_true rfl)) d_Ke_needCell_36 ⟨Nat.le_of_ble_eq_true rfl, Nat.le_of_ble_eq_true rfl⟩) X9 hD hS rfl (fun H locs hP hD hS => ?_)
  refine lv_if_eq (tgt := 58) hx hb d_Ke_needCell_39 (by decide) (fun c7 => ?_) (fun c7 => ?_)
  · replace h := zo_t c7 h
    refine lv_iconst (v := 0) hx hb d_Ke_needCell_58 (by decide) ?_
    obtain ⟨rfl, rfl⟩ := zo_e h
    exact ka_err (vx_runS (As := [.int 0]) (rest := []) S9 (c_Ke_needNumber_err l hl9 D A (GW A u3 r) _ 0 rfl) (cwS 1 hts (tg_S wl_Ke_44 ws_Ke_needNumber wi_Ke wo_Ke_needNumber) rfl rfl rfl wq_Ke_needNumber ⟨Nat.le_of_ble_eq_true rfl, Nat.le_of_ble_eq_true rfl⟩) (ka_preS X9 hP hD hS) rfl rfl hl.1 rfl (lv_room (Nat.le_of_ble_eq_true rfl)) d_Ke_needCell_59 ⟨Nat.le_of_ble_eq_true rfl, Nat.le_of_ble_eq_true rfl⟩) hlk hex X9 hD hS (Nat.le_of_ble_eq_true rfl) (Nat.le_of_ble_eq_true rfl)
  replace h := zo_f c7 h
  refine lv_aload_n hx hb d_Ke_needCell_42 rfl (lv_at hl 0 rfl) ?_
  refine va_get (D := D) (ci := 4) (v := .ref (A 4)) (C := R_Ke) (T := T_Ke) (N := 5) hx hb hts wu_Ke hown hK hP 0 rfl rfl 3 (by decide) (hts _ wf_Ke_28) (fun _ h9 => h9) rfl d_Ke_needCell_43 ?_
  refine lv_iload_n hx hb d_Ke_needCell_46 rfl (lv_at hl 3 rfl) ?_
  refine lv_iconst (v := 1) hx hb d_Ke_needCell_47 (by decide) ?_
  obtain ⟨v8, e9, h⟩ := zo_b h
  refine ka_i (va_runV (As := [.int x3, .int 1]) (rest := []) S9 (c_Tg_isOfKind l hl9 D A r _ u3 x3 1 _ e9) (cwV 2 hts (tg_V wl_Ke_163 wm_Tg_isOfKind we_Tg_isOfKind wi_Tg wo_Tg_isOfKind) rfl rfl rfl wq_Tg_isOfKind ⟨Nat.le_of_ble_eq_true rfl, Nat.le_of_ble_eq_true rfl⟩) (ka_preV X9 hP hD hS 4 rfl rfl) rfl rfl hl.1 rfl (lv_room (Nat.le_of_ble_eq_true rfl)) d_Ke_needCell_48 ⟨Nat.le_of_ble_eq_true rfl, Nat.le_of_ble_eq_true rfl⟩) X9 hD hS rfl (fun H locs hP hD hS => ?_)
  refine lv_if_eq (tgt := 58) hx hb d_Ke_needCell_51 (by decide) (fun c9 => ?_) (fun c9 => ?_)
  · replace h := zo_t c9 h
    refine lv_iconst (v := 0) hx hb d_Ke_needCell_58 (by decide) ?_
    obtain ⟨rfl, rfl⟩ := zo_e h
    exact ka_err (vx_runS (As := [.int 0]) (rest := []) S9 (c_Ke_needNumber_err l hl9 D A (GW A u3 r) _ 0 rfl) (cwS 1 hts (tg_S wl_Ke_44 ws_Ke_needNumber wi_Ke wo_Ke_needNumber) rfl rfl rfl wq_Ke_needNumber ⟨Nat.le_of_ble_eq_true rfl, Nat.le_of_ble_eq_true rfl⟩) (ka_preS X9 hP hD hS) rfl rfl hl.1 rfl (lv_room (Nat.le_of_ble_eq_true rfl)) d_Ke_needCell_59 ⟨Nat.le_of_ble_eq_true rfl, Nat.le_of_ble_eq_true rfl⟩) hlk hex X9 hD hS (Nat.le_of_ble_eq_true rfl) (Nat.le_of_ble_eq_true rfl)
  replace h := zo_f c9 h
  refine lv_iconst (v := 1) hx hb d_Ke_needCell_54 (by decide) ?_
  refine lv_goto (tgt := 59) hx hb d_Ke_needCell_55 (by decide) ?_
  refine ka_v (va_runS (As := [.int 1]) (rest := []) S9 (c_Ke_needNumber_ok l hl9 D A (GW A u3 r) _ 1 (by decide)) (cwS 1 hts (tg_S wl_Ke_44 ws_Ke_needNumber wi_Ke wo_Ke_needNumber) rfl rfl rfl wq_Ke_needNumber ⟨Nat.le_of_ble_eq_true rfl, Nat.le_of_ble_eq_true rfl⟩) (ka_preS X9 hP hD hS) rfl rfl hl.1 rfl (lv_room (Nat.le_of_ble_eq_true rfl)) d_Ke_needCell_59 ⟨Nat.le_of_ble_eq_true rfl, Nat.le_of_ble_eq_true rfl⟩) X9 hD hS rfl (fun H locs hP hD hS => ?_)
  refine lv_aload_n hx hb d_Ke_needCell_62 rfl (lv_at hl 0 rfl) ?_
  refine va_get (D := D) (ci := 4) (v := .ref (A 4)) (C := R_Ke) (T := T_Ke) (N := 5) hx hb hts wu_Ke hown hK hP 0 rfl rfl 3 (by decide) (hts _ wf_Ke_28) (fun _ h9 => h9) rfl d_Ke_needCell_63 ?_
  refine lv_iload_n hx hb d_Ke_needCell_66 rfl (lv_at hl 3 rfl) ?_
  refine lv_iload_n hx hb d_Ke_needCell_67 rfl (lv_at hl 2 rfl) ?_
  obtain ⟨v10, e9, h⟩ := zo_b h
  refine ka_i (va_runV (As := [.int x3, .int x2]) (rest := []) S9 (c_Tg_isIn l hl9 D A r _ u3 x3 x2 _ e9) (cwV 2 hts (tg_V wl_Ke_166 wm_Tg_isIn we_Tg_isIn wi_Tg wo_Tg_isIn) rfl rfl rfl wq_Tg_isIn ⟨Nat.le_of_ble_eq_true rfl, Nat.le_of_ble_eq_true rfl⟩) (ka_preV X9 hP hD hS 4 rfl rfl) rfl rfl hl.1 rfl (lv_room (Nat.le_of_ble_eq_true rfl)) d_Ke_needCell_68 ⟨Nat.le_of_ble_eq_true rfl, Nat.le_of_ble_eq_true rfl⟩) X9 hD hS rfl (fun H locs hP hD hS => ?_)
  refine lv_if_eq (tgt := 91) hx hb d_Ke_needCell_71 (by decide) (fun c11 => ?_) (fun c11 => ?_)
  · replace h := zo_t c11 h
    refine lv_iconst (v := 0) hx hb d_Ke_needCell_91 (by decide) ?_
    obtain ⟨rfl, rfl⟩ := zo_e h
    exact ka_err (vx_runS (As := [.int 0]) (rest := []) S9 (c_Ke_needFound_err l hl9 D A (GW A u3 r) _ 0 rfl) (cwS 1 hts (tg_S wl_Ke_169 ws_Ke_needFound wi_Ke wo_Ke_needFound) rfl rfl rfl wq_Ke_needFound ⟨Nat.le_of_ble_eq_true rfl, Nat.le_of_ble_eq_true rfl⟩) (ka_preS X9 hP hD hS) rfl rfl hl.1 rfl (lv_room (Nat.le_of_ble_eq_true rfl)) d_Ke_needCell_92 ⟨Nat.le_of_ble_eq_true rfl, Nat.le_of_ble_eq_true rfl⟩) hlk hex X9 hD hS (Nat.le_of_ble_eq_true rfl) (Nat.le_of_ble_eq_true rfl)
  replace h := zo_f c11 h
  refine lv_iload hx hb d_Ke_needCell_74 (lv_at hl 4 rfl) ?_
  refine lv_aload_n hx hb d_Ke_needCell_76 rfl (lv_at hl 0 rfl) ?_
  refine va_get (D := D) (ci := 4) (v := .ref (A 4)) (C := R_Ke) (T := T_Ke) (N := 5) hx hb hts wu_Ke hown hK hP 0 rfl rfl 3 (by decide) (hts _ wf_Ke_28) (fun _ h9 => h9) rfl d_Ke_needCell_77 ?_
  refine lv_iload_n hx hb d_Ke_needCell_80 rfl (lv_at hl 3 rfl) ?_
  obtain ⟨v12, e9, h⟩ := zo_b h
  refine ka_i (va_runV (As := [.int x3]) (rest := [.int x4]) S9 (c_Tg_cellCountOf l hl9 D A r _ u3 x3 _ e9) (cwV 1 hts (tg_V wl_Ke_257 wm_Tg_cellCountOf we_Tg_cellCountOf wi_Tg wo_Tg_cellCountOf) rfl rfl rfl wq_Tg_cellCountOf ⟨Nat.le_of_ble_eq_true rfl, Nat.le_of_ble_eq_true rfl⟩) (ka_preV X9 hP hD hS 4 rfl rfl) rfl rfl hl.1 rfl (lv_room (Nat.le_of_ble_eq_true rfl)) d_Ke_needCell_81 ⟨Nat.le_of_ble_eq_true rfl, Nat.le_of_ble_eq_true rfl⟩) X9 hD hS rfl (fun H locs hP hD hS => ?_)
  refine lv_icmp_ge (tgt := 91) hx hb d_Ke_needCell_84 (by decide) (fun c13 => ?_) (fun c13 => ?_)
  · replace h := zo_t c13 h
    refine lv_iconst (v := 0) hx hb d_Ke_needCell_91 (by decide) ?_
    obtain ⟨rfl, rfl⟩ := zo_e h
    exact ka_err (vx_runS (As := [.int 0]) (rest := []) S9 (c_Ke_needFound_err l hl9 D A (GW A u3 r) _ 0 rfl) (cwS 1 hts (tg_S wl_Ke_169 ws_Ke_needFound wi_Ke wo_Ke_needFound) rfl rfl rfl wq_Ke_needFound ⟨Nat.le_of_ble_eq_true rfl, Nat.le_of_ble_eq_true rfl⟩) (ka_preS X9 hP hD hS) rfl rfl hl.1 rfl (lv_room (Nat.le_of_ble_eq_true rfl)) d_Ke_needCell_92 ⟨Nat.le_of_ble_eq_true rfl, Nat.le_of_ble_eq_true rfl⟩) hlk hex X9 hD hS (Nat.le_of_ble_eq_true rfl) (Nat.le_of_ble_eq_true rfl)
  replace h := zo_f c13 h
  refine lv_iconst (v := 1) hx hb d_Ke_needCell_87 (by decide) ?_
  refine lv_goto (tgt := 92) hx hb d_Ke_needCell_88 (by decide) ?_
  refine ka_v (va_runS (As := [.int 1]) (rest := []) S9 (c_Ke_needFound_ok l hl9 D A (GW A u3 r) _ 1 (by decide)) (cwS 1 hts (tg_S wl_Ke_169 ws_Ke_needFound wi_Ke wo_Ke_needFound) rfl rfl rfl wq_Ke_needFound ⟨Nat.le_of_ble_eq_true rfl, Nat.le_of_ble_eq_true rfl⟩) (ka_preS X9 hP hD hS) rfl rfl hl.1 rfl (lv_room (Nat.le_of_ble_eq_true rfl)) d_Ke_needCell_92 ⟨Nat.le_of_ble_eq_true rfl, Nat.le_of_ble_eq_true rfl⟩) X9 hD hS rfl (fun H locs hP hD hS => ?_)
  cases h
