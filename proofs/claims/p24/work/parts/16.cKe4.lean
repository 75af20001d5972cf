def f_Ke_file (σ : KS) (x1 x2 x3 x4 : Int32) : Option (Except Nat Int32 × KS) := (f_Ke_isBetween x2 0 3).bind fun v1 => if v1 = 0 then (some (.error 1, σ)) else ((f_Ke_isBetween x3 0 3).bind fun v3 => if v3 = 0 then (some (.error 1, σ)) else ((f_Ke_isBetween x4 1 8).bind fun v5 => if v5 = 0 then (some (.error 1, σ)) else ((f_Us_isThere σ x2).bind fun v7 => if v7 = 0 then some (.error 2, σ) else (f_Us_homeOf σ x2).bind fun v8 => (f_Us_directoryOf σ x2).bind fun v9 => zx (f_Ke_read σ x1 v8 v9 x3) fun v10 u11 => if v10 = 0 then ((f_Tg_labelOf u11 v8).bind fun v13 => zx (f_Ke_segment u11 x1 v8 v13 x4) fun v14 u15 => zx (f_Ke_write u15 x1 v8 v9 x3 v14) fun v16 u17 => some (.ok v14, u17)) else (zx (f_Ke_drop u11 x1 v8 v10) fun v18 u19 => (f_Tg_labelOf u19 v8).bind fun v20 => zx (f_Ke_segment u19 x1 v8 v20 x4) fun v21 u22 => zx (f_Ke_write u22 x1 v8 v9 x3 v21) fun v23 u24 => some (.ok v21, u24)))))
set_option maxRecDepth 100000 in
set_option maxHeartbeats 4000000 in
theorem c_Ke_file_ok (l : Launch) (hl9 : l.stackTraces = false) (D : va_G) (A : Nat → Nat) (r : va_W) (sz : Nat) (σ : KS) (x1 x2 x3 x4 : Int32) (z9 : Int32) (z : KS) (h : f_Ke_file σ x1 x2 x3 x4 = some (.ok z9, z)) : Met l y_Ke_file (Cond.code y_Ke_file b_Ke_file 9 (some .int) :: T0) ({ frames := 6, cells := 0, slots := 0, locals := 137 } : Room) (va_Pc [.ref (A 0), .int x1, .int x2, .int x3, .int x4] (ka_Wd D A (GW A σ r) sz)) (ka_Ri D z9 (GW A z r) (va_A (GW A σ r) sz)) 0 0 (va_A (GW A σ r) sz) := by
  unfold f_Ke_file at h
  refine ka_of (own := R_Ke) (fun A9 => ka_Ri D z9 (GW A z r) A9) (by decide) rfl (Nat.le_of_ble_eq_true rfl) ?_
  intro p e s m below meth c A9 ls S9 hr hlk hex X9 hP hD hl
  obtain ⟨hx, hb, hml, hown, hts⟩ := id S9
  have hK := X9.2.1
  have hS : va_S A9 s.heap s.heap [] := va_S.rf
  replace hl : lv_has ls 9 [(0, .ref (A 0)), (1, .int x1), (2, .int x2), (3, .int x3), (4, .int x4)] := hl
  refine lv_iload_n hx hb d_Ke_file_0 rfl (lv_at hl 2 rfl) ?_
  refine lv_iconst (v := 0) hx hb d_Ke_file_1 (by decide) ?_
  refine lv_iconst (v := 3) hx hb d_Ke_file_2 (by decide) ?_
  obtain ⟨v1, e9, h⟩ := zo_b h
  refine ka_i (va_runS (As := [.int x2, .int 0, .int 3]) (rest := []) S9 (c_Ke_isBetween l hl9 D A (GW A σ r) _ x2 0 3 _ e9) (cwS 3 hts (tg_S wl_Ke_40 ws_Ke_isBetween wi_Ke wo_Ke_isBetween) rfl rfl rfl wq_Ke_isBetween ⟨Nat.le_of_ble_eq_true rfl, Nat.le_of_ble_eq_true rfl⟩) (ka_preS X9 hP hD hS) rfl rfl hl.1 rfl (lv_room (Nat.le_of_ble_eq_true rfl)) d_Ke_file_3 ⟨Nat.le_of_ble_eq_true rfl, Nat.le_of_ble_eq_true rfl⟩) X9 hD hS rfl (fun H locs hP hD hS => ?_)
  refine lv_if_eq (tgt := 33) hx hb d_Ke_file_6 (by decide) (fun c2 => ?_) (fun c2 => ?_)
  · replace h := zo_t c2 h
    refine lv_iconst (v := 0) hx hb d_Ke_file_33 (by decide) ?_
    cases h
  replace h := zo_f c2 h
  refine lv_iload_n hx hb d_Ke_file_9 rfl (lv_at hl 3 rfl) ?_
  refine lv_iconst (v := 0) hx hb d_Ke_file_10 (by decide) ?_
  refine lv_iconst (v := 3) hx hb d_Ke_file_11 (by decide) ?_
  obtain ⟨v3, e9, h⟩ := zo_b h
  refine ka_i (va_runS (As := [.int x3, .int 0, .int 3]) (rest := []) S9 (c_Ke_isBetween l hl9 D A (GW A σ r) _ x3 0 3 _ e9) (cwS 3 hts (tg_S wl_Ke_40 ws_Ke_isBetween wi_Ke wo_Ke_isBetween) rfl rfl rfl wq_Ke_isBetween ⟨Nat.le_of_ble_eq_true rfl, Nat.le_of_ble_eq_true rfl⟩) (ka_preS X9 hP hD hS) rfl rfl hl.1 rfl (lv_room (Nat.le_of_ble_eq_true rfl)) d_Ke_file_12 ⟨Nat.le_of_ble_eq_true rfl, Nat.le_of_ble_eq_true rfl⟩) X9 hD hS rfl (fun H locs hP hD hS => ?_)
  refine lv_if_eq (tgt := 33) hx hb d_Ke_file_15 (by decide) (fun c4 => ?_) (fun c4 => ?_)
  · replace h := zo_t c4 h
    refine lv_iconst (v := 0) hx hb d_Ke_file_33 (by decide) ?_
    cases h
  replace h := zo_f c4 h
  refine lv_iload hx hb d_Ke_file_18 (lv_at hl 4 rfl) ?_
  refine lv_iconst (v := 1) hx hb d_Ke_file_20 (by decide) ?_
  refine lv_bipush (v := 8) hx hb d_Ke_file_21 (by decide) ?_
  obtain ⟨v5, e9, h⟩ := zo_b h
  refine ka_i (va_runS (As := [.int x4, .int 1, .int 8]) (rest := []) S9 (c_Ke_isBetween l hl9 D A (GW A σ r) _ x4 1 8 _ e9) (cwS 3 hts (tg_S wl_Ke_40 ws_Ke_isBetween wi_Ke wo_Ke_isBetween) rfl rfl rfl wq_Ke_isBetween ⟨Nat.le_of_ble_eq_true rfl, Nat.le_of_ble_eq_true rfl⟩) (ka_preS X9 hP hD hS) rfl rfl hl.1 rfl (lv_room (Nat.le_of_ble_eq_true rfl)) d_Ke_file_23 ⟨Nat.le_of_ble_eq_true rfl, Nat.le_of_ble_eq_true rfl⟩) X9 hD hS rfl (fun H locs hP hD hS => ?_)
  refine lv_if_eq (tgt := 33) hx hb d_Ke_file_26 (by decide) (fun c6 => ?_) (fun c6 => ?_)
  · replace h := zo_t c6 h
    refine lv_iconst (v := 0) hx hb d_Ke_file_33 (by decide) ?_
    cases h
  replace h := zo_f c6 h
  refine lv_iconst (v := 1) hx hb d_Ke_file_29 (by decide) ?_
  refine lv_goto (tgt := 34) hx hb d_Ke_file_30 (by decide) ?_
  refine ka_v (va_runS (As := [.int 1]) (rest := []) S9 (c_Ke_needNumber_ok l hl9 D A (GW A σ r) _ 1 (by decide)) (cwS 1 hts (tg_S wl_Ke_44 ws_Ke_needNumber wi_Ke wo_Ke_needNumber) rfl rfl rfl wq_Ke_needNumber ⟨Nat.le_of_ble_eq_true rfl, Nat.le_of_ble_eq_true rfl⟩) (ka_preS X9 hP hD hS) rfl rfl hl.1 rfl (lv_room (Nat.le_of_ble_eq_true rfl)) d_Ke_file_34 ⟨Nat.le_of_ble_eq_true rfl, Nat.le_of_ble_eq_true rfl⟩) X9 hD hS rfl (fun H locs hP hD hS => ?_)
  refine lv_aload_n hx hb d_Ke_file_37 rfl (lv_at hl 0 rfl) ?_
  refine va_get (D := D) (ci := 4) (v := .ref (A 16)) (C := R_Ke) (T := T_Ke) (N := 5) hx hb hts wu_Ke hown hK hP 0 rfl rfl 4 (by decide) (hts _ wf_Ke_33) (fun _ h9 => h9) rfl d_Ke_file_38 ?_
  refine lv_iload_n hx hb d_Ke_file_41 rfl (lv_at hl 2 rfl) ?_
  obtain ⟨v7, e9, h⟩ := zo_b h
  refine ka_i (va_runV (As := [.int x2]) (rest := []) S9 (c_Us_isThere l hl9 D A r _ σ x2 _ e9) (cwV 1 hts (tg_V wl_Ke_184 wm_Us_isThere we_Us_isThere wi_Us wo_Us_isThere) rfl rfl rfl wq_Us_isThere ⟨Nat.le_of_ble_eq_true rfl, Nat.le_of_ble_eq_true rfl⟩) (ka_preV X9 hP hD hS 16 rfl rfl) rfl rfl hl.1 rfl (lv_room (Nat.le_of_ble_eq_true rfl)) d_Ke_file_42 ⟨Nat.le_of_ble_eq_true rfl, Nat.le_of_ble_eq_true rfl⟩) X9 hD hS rfl (fun H locs hP hD hS => ?_)
  rcases zo_n h with ⟨c9, h⟩ | ⟨c9, h⟩
  · cases h
  refine ka_v (va_runS (As := [.int v7]) (rest := []) S9 (c_Ke_needFound_ok l hl9 D A (GW A σ r) _ v7 c9) (cwS 1 hts (tg_S wl_Ke_169 ws_Ke_needFound wi_Ke wo_Ke_needFound) rfl rfl rfl wq_Ke_needFound ⟨Nat.le_of_ble_eq_true rfl, Nat.le_of_ble_eq_true rfl⟩) (ka_preS X9 hP hD hS) rfl rfl hl.1 rfl (lv_room (Nat.le_of_ble_eq_true rfl)) d_Ke_file_45 ⟨Nat.le_of_ble_eq_true rfl, Nat.le_of_ble_eq_true rfl⟩) X9 hD hS rfl (fun H locs hP hD hS => ?_)
  refine lv_aload_n hx hb d_Ke_file_48 rfl (lv_at hl 0 rfl) ?_
  refine va_get (D := D) (ci := 4) (v := .ref (A 16)) (C := R_Ke) (T := T_Ke) (N := 5) hx hb hts wu_Ke hown hK hP 0 rfl rfl 4 (by decide) (hts _ wf_Ke_33) (fun _ h9 => h9) rfl d_Ke_file_49 ?_
  refine lv_iload_n hx hb d_Ke_file_52 rfl (lv_at hl 2 rfl) ?_
  obtain ⟨v8, e9, h⟩ := zo_b h
  refine ka_i (va_runV (As := [.int x2]) (rest := []) S9 (c_Us_homeOf l hl9 D A r _ σ x2 _ e9) (cwV 1 hts (tg_V wl_Ke_228 wm_Us_homeOf we_Us_homeOf wi_Us wo_Us_homeOf) rfl rfl rfl wq_Us_homeOf ⟨Nat.le_of_ble_eq_true rfl, Nat.le_of_ble_eq_true rfl⟩) (ka_preV X9 hP hD hS 16 rfl rfl) rfl rfl hl.1 rfl (lv_room (Nat.le_of_ble_eq_true rfl)) d_Ke_file_53 ⟨Nat.le_of_ble_eq_true rfl, Nat.le_of_ble_eq_true rfl⟩) X9 hD hS rfl (fun H locs hP hD hS => ?_)
  refine lv_istore (lv' := [(5, .int v8), (0, .ref (A 0)), (1, .int x1), (2, .int x2), (3, .int x3), (4, .int x4)]) hx hb d_Ke_file_56 hl (by decide) rfl (fun ls hl => ?_)
  refine lv_aload_n hx hb d_Ke_file_58 rfl (lv_at hl 1 rfl) ?_
  refine va_get (D := D) (ci := 4) (v := .ref (A 16)) (C := R_Ke) (T := T_Ke) (N := 5) hx hb hts wu_Ke hown hK hP 0 rfl rfl 4 (by decide) (hts _ wf_Ke_33) (fun _ h9 => h9) rfl d_Ke_file_59 ?_
  refine lv_iload_n hx hb d_Ke_file_62 rfl (lv_at hl 3 rfl) ?_
  obtain ⟨v9, e9, h⟩ := zo_b h
  refine ka_i (va_runV (As := [.int x2]) (rest := []) S9 (c_Us_directoryOf l hl9 D A r _ σ x2 _ e9) (cwV 1 hts (tg_V wl_Ke_231 wm_Us_directoryOf we_Us_directoryOf wi_Us wo_Us_directoryOf) rfl rfl rfl wq_Us_directoryOf ⟨Nat.le_of_ble_eq_true rfl, Nat.le_of_ble_eq_true rfl⟩) (ka_preV X9 hP hD hS 16 rfl rfl) rfl rfl hl.1 rfl (lv_room (Nat.le_of_ble_eq_true rfl)) d_Ke_file_63 ⟨Nat.le_of_ble_eq_true rfl, Nat.le_of_ble_eq_true rfl⟩) X9 hD hS rfl (fun H locs hP hD hS => ?_)
  refine lv_istore (lv' := [(6, .int v9), (5, .int v8), (0, .ref (A 0)), (1, .int x1), (2, .int x2), (3, .int x3), (4, .int x4)]) hx hb d_Ke_file_66 hl (by decide) rfl (fun ls hl => ?_)
  refine lv_aload_n hx hb d_Ke_file_68 rfl (lv_at hl 2 rfl) ?_
  refine lv_iload_n hx hb d_Ke_file_69 rfl (lv_at hl 3 rfl) ?_
  refine lv_iload hx hb d_Ke_file_70 (lv_at hl 1 rfl) ?_
  refine lv_iload hx hb d_Ke_file_72 (lv_at hl 0 rfl) ?_
  refine lv_iload_n hx hb d_Ke_file_74 rfl (lv_at hl 5 rfl) ?_
  rcases zo_x h with ⟨k9, u11, e9, h⟩ | ⟨v10, u11, e9, h⟩
  · cases h
  refine ka_i (va_runV (As := [.int x1, .int v8, .int v9, .int x3]) (rest := []) S9 (c_Ke_read_ok l hl9 D A r _ σ x1 v8 v9 x3 _ _ e9) (cwV 4 hts (tg_V wl_Ke_234 wm_Ke_read we_Ke_read wi_Ke wo_Ke_read) rfl rfl rfl wq_Ke_read ⟨Nat.le_of_ble_eq_true rfl, Nat.le_of_ble_eq_true rfl⟩) (ka_preV X9 hP hD hS 0 rfl rfl) rfl rfl hl.1 rfl (lv_room (Nat.le_of_ble_eq_true rfl)) d_Ke_file_75 ⟨Nat.le_of_ble_eq_true rfl, Nat.le_of_ble_eq_true rfl⟩) X9 hD hS rfl (fun H locs hP hD hS => ?_)
  refine lv_istore (lv' := [(7, .int v10), (6, .int v9), (5, .int v8), (0, .ref (A 0)), (1, .int x1), (2, .int x2), (3, .int x3), (4, .int x4)]) hx hb d_Ke_file_78 hl (by decide) rfl (fun ls hl => ?_)
  refine lv_iload hx hb d_Ke_file_80 (lv_at hl 0 rfl) ?_
  refine lv_if_eq (tgt := 95) hx hb d_Ke_file_82 (by decide) (fun c12 => ?_) (fun c12 => ?_)
  · replace h := zo_t c12 h
    refine lv_aload_n hx hb d_Ke_file_95 rfl (lv_at hl 3 rfl) ?_
    refine lv_iload_n hx hb d_Ke_file_96 rfl (lv_at hl 4 rfl) ?_
    refine lv_iload hx hb d_Ke_file_97 (lv_at hl 2 rfl) ?_
    refine lv_aload_n hx hb d_Ke_file_99 rfl (lv_at hl 3 rfl) ?_
    refine va_get (D := D) (ci := 4) (v := .ref (A 4)) (C := R_Ke) (T := T_Ke) (N := 5) hx hb hts wu_Ke hown hK hP 0 rfl rfl 3 (by decide) (hts _ wf_Ke_28) (fun _ h9 => h9) rfl d_Ke_file_100 ?_
    refine lv_iload hx hb d_Ke_file_103 (lv_at hl 2 rfl) ?_
    obtain ⟨v13, e9, h⟩ := zo_b h
    refine ka_i (va_runV (As := [.int v8]) (rest := [.int v8, .int x1, .ref (A 0)]) S9 (c_Tg_labelOf l hl9 D A r _ u11 v8 _ e9) (cwV 1 hts (tg_V wl_Ke_85 wm_Tg_labelOf we_Tg_labelOf wi_Tg wo_Tg_labelOf) rfl rfl rfl wq_Tg_labelOf ⟨Nat.le_of_ble_eq_true rfl, Nat.le_of_ble_eq_true rfl⟩) (ka_preV X9 hP hD hS 4 rfl rfl) rfl rfl hl.1 rfl (lv_room (Nat.le_of_ble_eq_true rfl)) d_Ke_file_105 ⟨Nat.le_of_ble_eq_true rfl, Nat.le_of_ble_eq_true rfl⟩) X9 hD hS rfl (fun H locs hP hD hS => ?_)
    refine lv_iload hx hb d_Ke_file_108 (lv_at hl 7 rfl) ?_
    rcases zo_x h with ⟨k9, u15, e9, h⟩ | ⟨v14, u15, e9, h⟩
    · cases h
    refine ka_i (va_runV (As := [.int x1, .int v8, .int v13, .int x4]) (rest := []) S9 (c_Ke_segment_ok l hl9 D A r _ u11 x1 v8 v13 x4 _ _ e9) (cwV 4 hts (tg_V wl_Ke_198 wm_Ke_segment we_Ke_segment wi_Ke wo_Ke_segment) rfl rfl rfl wq_Ke_segment ⟨Nat.le_of_ble_eq_true rfl, Nat.le_of_ble_eq_true rfl⟩) (ka_preV X9 hP hD hS 0 rfl rfl) rfl rfl hl.1 rfl (lv_room (Nat.le_of_ble_eq_true rfl)) d_Ke_file_110 ⟨Nat.le_of_ble_eq_true rfl, Nat.le_of_ble_eq_true rfl⟩) X9 hD hS rfl (fun H locs hP hD hS => ?_)
    refine lv_istore (lv' := [(8, .int v14), (7, .int v10), (6, .int v9), (5, .int v8), (0, .ref (A 0)), (1, .int x1), (2, .int x2), (3, .int x3), (4, .int x4)]) hx hb d_Ke_file_113 hl (by decide) rfl (fun ls hl => ?_)
    refine lv_aload_n hx hb d_Ke_file_115 rfl (lv_at hl 4 rfl) ?_
    refine lv_iload_n hx hb d_Ke_file_116 rfl (lv_at hl 5 rfl) ?_
    refine lv_iload hx hb d_Ke_file_117 (lv_at hl 3 rfl) ?_
    refine lv_iload hx hb d_Ke_file_119 (lv_at hl 2 rfl) ?_
    refine lv_iload_n hx hb d_Ke_file_121 rfl (lv_at hl 7 rfl) ?_
    refine lv_iload hx hb d_Ke_file_122 (lv_at hl 0 rfl) ?_
    rcases zo_x h with ⟨k9, u17, e9, h⟩ | ⟨v16, u17, e9, h⟩
    · cases h
    refine ka_i (va_runV (As := [.int x1, .int v8, .int v9, .int x3, .int v14]) (rest := []) S9 (c_Ke_write_ok l hl9 D A r _ u15 x1 v8 v9 x3 v14 _ _ e9) (cwV 5 hts (tg_V wl_Ke_240 wm_Ke_write we_Ke_write wi_Ke wo_Ke_write) rfl rfl rfl wq_Ke_write ⟨Nat.le_of_ble_eq_true rfl, Nat.le_of_ble_eq_true rfl⟩) (ka_preV X9 hP hD hS 0 rfl rfl) rfl rfl hl.1 rfl (lv_room (Nat.le_of_ble_eq_true rfl)) d_Ke_file_124 ⟨Nat.le_of_ble_eq_true rfl, Nat.le_of_ble_eq_true rfl⟩) X9 hD hS rfl (fun H locs hP hD hS => ?_)
    refine lv_pop hx hb d_Ke_file_127 rfl ?_
    refine lv_iload hx hb d_Ke_file_128 (lv_at hl 0 rfl) ?_
    cases h
    exact W.iret hx hb hr (fun t ht hW => ⟨⟨_, (), rfl, rfl, ka_at ht hP⟩, hS.F ht⟩) hS.2.2 d_Ke_file_130 hlk
  replace h := zo_f c12 h
  refine lv_aload_n hx hb d_Ke_file_85 rfl (lv_at hl 3 rfl) ?_
  refine lv_iload_n hx hb d_Ke_file_86 rfl (lv_at hl 4 rfl) ?_
  refine lv_iload hx hb d_Ke_file_87 (lv_at hl 2 rfl) ?_
  refine lv_iload hx hb d_Ke_file_89 (lv_at hl 0 rfl) ?_
  rcases zo_x h with ⟨k9, u19, e9, h⟩ | ⟨v18, u19, e9, h⟩
  · cases h
  refine ka_i (va_runV (As := [.int x1, .int v8, .int v10]) (rest := []) S9 (c_Ke_drop_ok l hl9 D A r _ u11 x1 v8 v10 _ _ e9) (cwV 3 hts (tg_V wl_Ke_237 wm_Ke_drop we_Ke_drop wi_Ke wo_Ke_drop) rfl rfl rfl wq_Ke_drop ⟨Nat.le_of_ble_eq_true rfl, Nat.le_of_ble_eq_true rfl⟩) (ka_preV X9 hP hD hS 0 rfl rfl) rfl rfl hl.1 rfl (lv_room (Nat.le_of_ble_eq_true rfl)) d_Ke_file_91 ⟨Nat.le_of_ble_eq_true rfl, Nat.le_of_ble_eq_true rfl⟩) X9 hD hS rfl (fun H locs hP hD hS => ?_)
  refine lv_pop hx hb d_Ke_file_94 rfl ?_
  refine lv_aload_n hx hb d_Ke_file_95 rfl (lv_at hl 3 rfl) ?_
  refine lv_iload_n hx hb d_Ke_file_96 rfl (lv_at hl 4 rfl) ?_
  refine lv_iload hx hb d_Ke_file_97 (lv_at hl 2 rfl) ?_
  refine lv_aload_n hx hb d_Ke_file_99 rfl (lv_at hl 3 rfl) ?_
  refine va_get (D := D) (ci := 4) (v := .ref (A 4)) (C := R_Ke) (T := T_Ke) (N := 5) hx hb hts wu_Ke hown hK hP 0 rfl rfl 3 (by decide) (hts _ wf_Ke_28) (fun _ h9 => h9) rfl d_Ke_file_100 ?_
  refine lv_iload hx hb d_Ke_file_103 (lv_at hl 2 rfl) ?_
  obtain ⟨v20, e9, h⟩ := zo_b h
  refine ka_i (va_runV (As := [.int v8]) (rest := [.int v8, .int x1, .ref (A 0)]) S9 (c_Tg_labelOf l hl9 D A r _ u19 v8 _ e9) (cwV 1 hts (tg_V wl_Ke_85 wm_Tg_labelOf we_Tg_labelOf wi_Tg wo_Tg_labelOf) rfl rfl rfl wq_Tg_labelOf ⟨Nat.le_of_ble_eq_true rfl, Nat.le_of_ble_eq_true rfl⟩) (ka_preV X9 hP hD hS 4 rfl rfl) rfl rfl hl.1 rfl (lv_room (Nat.le_of_ble_eq_true rfl)) d_Ke_file_105 ⟨Nat.le_of_ble_eq_true rfl, Nat.le_of_ble_eq_true rfl⟩) X9 hD hS rfl (fun H locs hP hD hS => ?_)
  refine lv_iload hx hb d_Ke_file_108 (lv_at hl 7 rfl) ?_
  rcases zo_x h with ⟨k9, u22, e9, h⟩ | ⟨v21, u22, e9, h⟩
  · cases h
  refine ka_i (va_runV (As := [.int x1, .int v8, .int v20, .int x4]) (rest := []) S9 (c_Ke_segment_ok l hl9 D A r _ u19 x1 v8 v20 x4 _ _ e9) (cwV 4 hts (tg_V wl_Ke_198 wm_Ke_segment we_Ke_segment wi_Ke wo_Ke_segment) rfl rfl rfl wq_Ke_segment ⟨Nat.le_of_ble_eq_true rfl, Nat.le_of_ble_eq_true rfl⟩) (ka_preV X9 hP hD hS 0 rfl rfl) rfl rfl hl.1 rfl (lv_room (Nat.le_of_ble_eq_true rfl)) d_Ke_file_110 ⟨Nat.le_of_ble_eq_true rfl, Nat.le_of_ble_eq_true rfl⟩) X9 hD hS rfl (fun H locs hP hD hS => ?_)
  refine lv_istore (lv' := [(8, .int v21), (7, .int v10), (6, .int v9), (5, .int v8), (0, .ref (A 0)), (1, .int x1), (2, .int x2), (3, .int x3), (4, .int x4)]) hx hb d_Ke_file_113 hl (by decide) rfl (fun ls hl => ?_)
  refine lv_aload_n hx hb d_Ke_file_115 rfl (lv_at hl 4 rfl) ?_
  refine lv_iload_n hx hb d_Ke_file_116 rfl (lv_at hl 5 rfl) ?_
  refine lv_iload hx hb d_Ke_file_117 (lv_at hl 3 rfl) ?_
  refine lv_iload hx hb d_Ke_file_119 (lv_at hl 2 rfl) ?_
  refine lv_iload_n hx hb d_Ke_file_121 rfl (lv_at hl 7 rfl) ?_
  refine lv_iload hx hb d_Ke_file_122 (lv_at hl 0 rfl) ?_
  rcases zo_x h with ⟨k9, u24, e9, h⟩ | ⟨v23, u24, e9, h⟩
  · cases h
  refine ka_i (va_runV (As := [.int x1, .int v8, .int v9, .int x3, .int v21]) (rest := []) S9 (c_Ke_write_ok l hl9 D A r _ u22 x1 v8 v9 x3 v21 _ _ e9) (cwV 5 hts (tg_V wl_Ke_240 wm_Ke_write we_Ke_write wi_Ke wo_Ke_write) rfl rfl rfl wq_Ke_write ⟨Nat.le_of_ble_eq_true rfl, Nat.le_of_ble_eq_true rfl⟩) (ka_preV X9 hP hD hS 0 rfl rfl) rfl rfl hl.1 rfl (lv_room (Nat.le_of_ble_eq_true rfl)) d_Ke_file_124 ⟨Nat.le_of_ble_eq_true rfl, Nat.le_of_ble_eq_true rfl⟩) X9 hD hS rfl (fun H locs hP hD hS => ?_)
  refine lv_pop hx hb d_Ke_file_127 rfl ?_
  refine lv_iload hx hb d_Ke_file_128 (lv_at hl 0 rfl) ?_
  cases h
  exact W.iret hx hb hr (fun t ht hW => ⟨⟨_, (), rfl, rfl, ka_at ht hP⟩, hS.F ht⟩) hS.2.2 d_Ke_file_130 hlk
set_option maxRecDepth 100000 in
set_option maxHeartbeats 4000000 in
theorem c_Ke_file_err (l : Launch) (hl9 : l.stackTraces = false) (D : va_G) (A : Nat → Nat) (r : va_W) (sz : Nat) (σ : KS) (x1 x2 x3 x4 : Int32) (k9 : Nat) (z : KS) (h : f_Ke_file σ x1 x2 x3 x4 = some (.error k9, z)) : vx_Met l y_Ke_file (Cond.code y_Ke_file b_Ke_file 9 (some .int) :: T0) ({ frames := 10, cells := 1, slots := 6, locals := 174 } : Room) (va_Pc [.ref (A 0), .int x1, .int x2, .int x3, .int x4] (ka_Wd D A (GW A σ r) sz)) ka_No (ka_Xe D k9 (GW A z r) (va_A (GW A σ r) sz)) 1 6 (va_A (GW A σ r) sz) := by
  unfold f_Ke_file at h
  refine ka_ofX (own := R_Ke) (fun A9 => ka_Xe D k9 (GW A z r) A9) (by decide) rfl (Nat.le_of_ble_eq_true rfl) ?_
  intro p e s m below meth c A9 ls S9 hr hlk hex X9 hP hD hl
  obtain ⟨hx, hb, hml, hown, hts⟩ := id S9
  have hK := X9.2.1
  have hS : va_S A9 s.heap s.heap [] := va_S.rf
  replace hl : lv_has ls 9 [(0, .ref (A 0)), (1, .int x1), (2, .int x2), (3, .int x3), (4, .int x4)] := hl
  refine lv_iload_n hx hb d_Ke_file_0 rfl (lv_at hl 2 rfl) ?_
  refine lv_iconst (v := 0) hx hb d_Ke_file_1 (by decide) ?_
  refine lv_iconst (v := 3) hx hb d_Ke_file_2 (by decide) ?_
  obtain ⟨v1, e9, h⟩ := zo_b h
  refine ka_i (va_runS (As := [.int x2, .int 0, .int 3]) (rest := []) S9 (c_Ke_isBetween l hl9 D A (GW A σ r) _ x2 0 3 _ e9) (cwS 3 hts (tg_S wl_Ke_40 ws_Ke_isBetween wi_Ke wo_Ke_isBetween) rfl rfl rfl wq_Ke_isBetween ⟨Nat.le_of_ble_eq_true rfl, Nat.le_of_ble_eq_true rfl⟩) (ka_preS X9 hP hD hS) rfl rfl hl.1 rfl (lv_room (Nat.le_of_ble_eq_true rfl)) d_Ke_file_3 ⟨Nat.le_of_ble_eq_true rfl, Nat.le_of_ble_eq_true rfl⟩) X9 hD hS rfl (fun H locs hP hD hS => ?_)
  refine lv_if_eq (tgt := 33) hx hb d_Ke_file_6 (by decide) (fun c2 => ?_) (fun c2 => ?_)
  · replace h := zo_t c2 h
    refine lv_iconst (v := 0) hx hb d_Ke_file_33 (by decide) ?_
    obtain ⟨rfl, rfl⟩ := zo_e h
    exact ka_err (vx_runS (As := [.int 0]) (rest := []) S9 (c_Ke_needNumber_err l hl9 D A (GW A σ r) _ 0 rfl) (cwS 1 hts (tg_S wl_Ke_44 ws_Ke_needNumber wi_Ke wo_Ke_needNumber) rfl rfl rfl wq_Ke_needNumber ⟨Nat.le_of_ble_eq_true rfl, Nat.le_of_ble_eq_true rfl⟩) (ka_preS X9 hP hD hS) rfl rfl hl.1 rfl (lv_room (Nat.le_of_ble_eq_true rfl)) d_Ke_file_34 ⟨Nat.le_of_ble_eq_true rfl, Nat.le_of_ble_eq_true rfl⟩) hlk hex X9 hD hS (Nat.le_of_ble_eq_true rfl) (Nat.le_of_ble_eq_true rfl)
  replace h := zo_f c2 h
  refine lv_iload_n hx hb d_Ke_file_9 rfl (lv_at hl 3 rfl) ?_
  refine lv_iconst (v := 0) hx hb d_Ke_file_10 (by decide) ?_
  refine lv_iconst (v := 3) hx hb d_Ke_file_11 (by decide) ?_
  obtain ⟨v3, e9, h⟩ := zo_b h
  refine ka_i (va_runS (As := [.int x3, .int 0, .int 3]) (rest := []) S9 (c_Ke_isBetween l hl9 D A (GW A σ r) _ x3 0 3 _ e9) (cwS 3 hts (tg_S wl_Ke_40 ws_Ke_isBetween wi_Ke wo_Ke_isBetween) rfl rfl rfl wq_Ke_isBetween ⟨Nat.le_of_ble_eq_true rfl, Nat.le_of_ble_eq_true rfl⟩) (ka_preS X9 hP hD hS) rfl rfl hl.1 rfl (lv_room (Nat.le_of_ble_eq_true rfl)) d_Ke_file_12 ⟨Nat.le_of_ble_eq_true rfl, Nat.le_of_ble_eq_true rfl⟩) X9 hD hS rfl (fun H locs hP hD hS => ?_)
  refine lv_if_eq (tgt := 33) hx hb d_Ke_file_15 (by decide) (fun c4 => ?_) (fun c4 => ?_)
  · replace h := zo_t c4 h
    refine lv_iconst (v := 0) hx hb d_Ke_file_33 (by decide) ?_
    obtain ⟨rfl, rfl⟩ := zo_e h
    exact ka_err (vx_runS (As := [.int 0]) (rest := []) S9 (c_Ke_needNumber_err l hl9 D A (GW A σ r) _ 0 rfl) (cwS 1 hts (tg_S wl_Ke_44 ws_Ke_needNumber wi_Ke wo_Ke_needNumber) rfl rfl rfl wq_Ke_needNumber ⟨Nat.le_of_ble_eq_true rfl, Nat.le_of_ble_eq_true rfl⟩) (ka_preS X9 hP hD hS) rfl rfl hl.1 rfl (lv_room (Nat.le_of_ble_eq_true rfl)) d_Ke_file_34 ⟨Nat.le_of_ble_eq_true rfl, Nat.le_of_ble_eq_true rfl⟩) hlk hex X9 hD hS (Nat.le_of_ble_eq_true rfl) (Nat.le_of_ble_eq_true rfl)
  replace h := zo_f c4 h
  refine lv_iload hx hb d_Ke_file_18 (lv_at hl 4 rfl) ?_
  refine lv_iconst (v := 1) hx hb d_Ke_file_20 (by decide) ?_
  refine lv_bipush (v := 8) hx hb d_Ke_file_21 (by decide) ?_
  obtain ⟨v5, e9, h⟩ := zo_b h
  refine ka_i (va_runS (As := [.int x4, .int 1, .int 8]) (rest := []) S9 (c_Ke_isBetween l hl9 D A (GW A σ r) _ x4 1 8 _ e9) (cwS 3 hts (tg_S wl_Ke_40 ws_Ke_isBetween wi_Ke wo_Ke_isBetween) rfl rfl rfl wq_Ke_isBetween ⟨Nat.le_of_ble_eq_true rfl, Nat.le_of_ble_eq_true rfl⟩) (ka_preS X9 hP hD hS) rfl rfl hl.1 rfl (lv_room (Nat.le_of_ble_eq_true rfl)) d_Ke_file_23 ⟨Nat.le_of_ble_eq_true rfl, Nat.le_of_ble_eq_true rfl⟩) X9 hD hS rfl (fun H locs hP hD hS => ?_)
  refine lv_if_eq (tgt := 33) hx hb d_Ke_file_26 (by decide) (fun c6 => ?_) (fun c6 => ?_)
  · replace h := zo_t c6 h
    refine lv_iconst (v := 0) hx hb d_Ke_file_33 (by decide) ?_
    obtain ⟨rfl, rfl⟩ := zo_e h
    exact ka_err (vx_runS (As := [.int 0]) (rest := []) S9 (c_Ke_needNumber_err l hl9 D A (GW A σ r) _ 0 rfl) (cwS 1 hts (tg_S wl_Ke_44 ws_Ke_needNumber wi_Ke wo_Ke_needNumber) rfl rfl rfl wq_Ke_needNumber ⟨Nat.le_of_ble_eq_true rfl, Nat.le_of_ble_eq_true rfl⟩) (ka_preS X9 hP hD hS) rfl rfl hl.1 rfl (lv_room (Nat.le_of_ble_eq_true rfl)) d_Ke_file_34 ⟨Nat.le_of_ble_eq_true rfl, Nat.le_of_ble_eq_true rfl⟩) hlk hex X9 hD hS (Nat.le_of_ble_eq_true rfl) (Nat.le_of_ble_eq_true rfl)
  replace h := zo_f c6 h
  refine lv_iconst (v := 1) hx hb d_Ke_file_29 (by decide) ?_
  refine lv_goto (tgt := 34) hx hb d_Ke_file_30 (by decide) ?_
  refine ka_v (va_runS (As := [.int 1]) (rest := []) S9 (c_Ke_needNumber_ok l hl9 D A (GW A σ r) _ 1 (by decide)) (cwS 1 hts (tg_S wl_Ke_44 ws_Ke_needNumber wi_Ke wo_Ke_needNumber) rfl rfl rfl wq_Ke_needNumber ⟨Nat.le_of_ble_eq_true rfl, Nat.le_of_ble_eq_true rfl⟩) (ka_preS X9 hP hD hS) rfl rfl hl.1 rfl (lv_room (Nat.le_of_ble_eq_true rfl)) d_Ke_file_34 ⟨Nat.le_of_ble_eq_true rfl, Nat.le_of_ble_eq_true rfl⟩) X9 hD hS rfl (fun H locs hP hD hS => ?_)
  refine lv_aload_n hx hb d_Ke_file_37 rfl (lv_at hl 0 rfl) ?_
  refine va_get (D := D) (ci := 4) (v := .ref (A 16)) (C := R_Ke) (T := T_Ke) (N := 5) hx hb hts wu_Ke hown hK hP 0 rfl rfl 4 (by decide) (hts _ wf_Ke_33) (fun _ h9 => h9) rfl d_Ke_file_38 ?_
  refine lv_iload_n hx hb d_Ke_file_41 rfl (lv_at hl 2 rfl) ?_
  obtain ⟨v7, e9, h⟩ := zo_b h
  refine ka_i (va_runV (As := [.int x2]) (rest := []) S9 (c_Us_isThere l hl9 D A r _ σ x2 _ e9) (cwV 1 hts (tg_V wl_Ke_184 wm_Us_isThere we_Us_isThere wi_Us wo_Us_isThere) rfl rfl rfl wq_Us_isThere ⟨Nat.le_of_ble_eq_true rfl, Nat.le_of_ble_eq_true rfl⟩) (ka_preV X9 hP hD hS 16 rfl rfl) rfl rfl hl.1 rfl (lv_room (Nat.le_of_ble_eq_true rfl)) d_Ke_file_42 ⟨Nat.le_of_ble_eq_true rfl, Nat.le_of_ble_eq_true rfl⟩) X9 hD hS rfl (fun H locs hP hD hS => ?_)
  rcases zo_n h with ⟨c9, h⟩ | ⟨c9, h⟩
  · obtain ⟨rfl, rfl⟩ := zo_e h
    exact ka_err (vx_runS (As := [.int v7]) (rest := []) S9 (c_Ke_needFound_err l hl9 D A (GW A σ r) _ v7 c9) (cwS 1 hts (tg_S wl_Ke_169 ws_Ke_needFound wi_Ke wo_Ke_needFound) rfl rfl rfl wq_Ke_needFound ⟨Nat.le_of_ble_eq_true rfl, Nat.le_of_ble_eq_true rfl⟩) (ka_preS X9 hP hD hS) rfl rfl hl.1 rfl (lv_room (Nat.le_of_ble_eq_true rfl)) d_Ke_file_45 ⟨Nat.le_of_ble_eq_true rfl, Nat.le_of_ble_eq_true rfl⟩) hlk hex X9 hD hS (Nat.le_of_ble_eq_true rfl) (Nat.le_of_ble_eq_true rfl)
  refine ka_v (va_runS (As := [.int v7]) (rest := []) S9 (c_Ke_needFound_ok l hl9 D A (GW A σ r) _ v7 c9) (cwS 1 hts (tg_S wl_Ke_169 ws_Ke_needFound wi_Ke wo_Ke_needFound) rfl rfl rfl wq_Ke_needFound ⟨Nat.le_of_ble_eq_true rfl, Nat.le_of_ble_eq_true rfl⟩) (ka_preS X9 hP hD hS) rfl rfl hl.1 rfl (lv_room (Nat.le_of_ble_eq_true rfl)) d_Ke_file_45 ⟨Nat.le_of_ble_eq_true rfl, Nat.le_of_ble_eq_true rfl⟩) X9 hD hS rfl (fun H locs hP hD hS => ?_)
  refine lv_aload_n hx hb d_Ke_file_48 rfl (lv_at hl 0 rfl) ?_
  refine va_get (D := D) (ci := 4) (v := .ref (A 16)) (C := R_Ke) (T := T_Ke) (N := 5) hx hb hts wu_Ke hown hK hP 0 rfl rfl 4 (by decide) (hts _ wf_Ke_33) (fun _ h9 => h9) rfl d_Ke_file_49 ?_
  refine lv_iload_n hx hb d_Ke_file_52 rfl (lv_at hl 2 rfl) ?_
  obtain ⟨v8, e9, h⟩ := zo_b h
  refine ka_i (va_runV (As := [.int x2]) (rest := []) S9 (c_Us_homeOf l hl9 D A r _ σ x2 _ e9) (cwV 1 hts (tg_V wl_Ke_228 wm_Us_homeOf we_Us_homeOf wi_Us wo_Us_homeOf) rfl rfl rfl wq_Us_homeOf ⟨Nat.le_of_ble_eq_true rfl, Nat.le_of_ble_eq_true rfl⟩) (ka_preV X9 hP hD hS 16 rfl rfl) rfl rfl hl.1 rfl (lv_room (Nat.le_of_ble_eq_true rfl)) d_Ke_file_53 ⟨Nat.le_of_ble_eq_true rfl, Nat.le_of_ble_eq_true rfl⟩) X9 hD hS rfl (fun H locs hP hD hS => ?_)
  refine lv_istore (lv' := [(5, .int v8), (0, .ref (A 0)), (1, .int x1), (2, .int x2), (3, .int x3), (4, .int x4)]) hx hb d_Ke_file_56 hl (by decide) rfl (fun ls hl => ?_)
  refine lv_aload_n hx hb d_Ke_file_58 rfl (lv_at hl 1 rfl) ?_
  refine va_get (D := D) (ci := 4) (v := .ref (A 16)) (C := R_Ke) (T := T_Ke) (N := 5) hx hb hts wu_Ke hown hK hP 0 rfl rfl 4 (by decide) (hts _ wf_Ke_33) (fun _ h9 => h9) rfl d_Ke_file_59 ?_
  refine lv_iload_n hx hb d_Ke_file_62 rfl (lv_at hl 3 rfl) ?_
  obtain ⟨v9, e9, h⟩ := zo_b h
  refine ka_i (va_runV (As := [.int x2]) (rest := []) S9 (c_Us_directoryOf l hl9 D A r _ σ x2 _ e9) (cwV 1 hts (tg_V wl_Ke_231 wm_Us_directoryOf we_Us_directoryOf wi_Us wo_Us_directoryOf) rfl rfl rfl wq_Us_directoryOf ⟨Nat.le_of_ble_eq_true rfl, Nat.le_of_ble_eq_true rfl⟩) (ka_preV X9 hP hD hS 16 rfl rfl) rfl rfl hl.1 rfl (lv_room (Nat.le_of_ble_eq_true rfl)) d_Ke_file_63 ⟨Nat.le_of_ble_eq_true rfl, Nat.le_of_ble_eq_true rfl⟩) X9 hD hS rfl (fun H locs hP hD hS => ?_)
  refine lv_istore (lv' := [(6, .int v9), (5, .int v8), (0, .ref (A 0)), (1, .int x1), (2, .int x2), (3, .int x3), (4, .int x4)]) hx hb d_Ke_file_66 hl (by decide) rfl (fun ls hl => ?_)
  refine lv_aload_n hx hb d_Ke_file_68 rfl (lv_at hl 2 rfl) ?_
  refine lv_iload_n hx hb d_Ke_file_69 rfl (lv_at hl 3 rfl) ?_
  refine lv_iload hx hb d_Ke_file_70 (lv_at hl 1 rfl) ?_
  refine lv_iload hx hb d_Ke_file_72 (lv_at hl 0 rfl) ?_
  refine lv_iload_n hx hb d_Ke_file_74 rfl (lv_at hl 5 rfl) ?_
  rcases zo_x h with ⟨k9, u11, e9, h⟩ | ⟨v10, u11, e9, h⟩
  · cases h
    exact ka_err (vx_runV (As := [.int x1, .int v8, .int v9, .int x3]) (rest := []) S9 (c_Ke_read_err l hl9 D A r _ σ x1 v8 v9 x3 _ _ e9) (cwV 4 hts (tg_V wl_Ke_234 wm_Ke_read we_Ke_read wi_Ke wo_Ke_read) rfl rfl rfl wq_Ke_read ⟨Nat.le_of_ble_eq_true rfl, Nat.le_of_ble_eq_true rfl⟩) (ka_preV X9 hP hD hS 0 rfl rfl) rfl rfl hl.1 rfl (lv_room (Nat.le_of_ble_eq_true rfl)) d_Ke_file_75 ⟨Nat.le_of_ble_eq_true rfl, Nat.le_of_ble_eq_true rfl⟩) hlk hex X9 hD hS (Nat.le_of_ble_eq_true rfl) (Nat.le_of_ble_eq_true rfl)
  refine ka_i (va_runV (As := [.int x1, .int v8, .int v9, .int x3]) (rest := []) S9 (c_Ke_read_ok l hl9 D A r _ σ x1 v8 v9 x3 _ _ e9) (cwV 4 hts (tg_V wl_Ke_234 wm_Ke_read we_Ke_read wi_Ke wo_Ke_read) rfl rfl rfl wq_Ke_read ⟨Nat.le_of_ble_eq_true rfl, Nat.le_of_ble_eq_true rfl⟩) (ka_preV X9 hP hD hS 0 rfl rfl) rfl rfl hl.1 rfl (lv_room (Nat.le_of_ble_eq_true rfl)) d_Ke_file_75 ⟨Nat.le_of_ble_eq_true rfl, Nat.le_of_ble_eq_true rfl⟩) X9 hD hS rfl (fun H locs hP hD hS => ?_)
  refine lv_istore (lv' := [(7, .int v10), (6, .int v9), (5, .int v8), (0, .ref (A 0)), (1, .int x1), (2, .int x2), (3, .int x3), (4, .int x4)]) hx hb d_Ke_file_78 hl (by decide) rfl (fun ls hl => ?_)
  refine lv_iload hx hb d_Ke_file_80 (lv_at hl 0 rfl) ?_
  refine lv_if_eq (tgt := 95) hx hb d_Ke_file_82 (by decide) (fun c12 => ?_) (fun c12 => ?_)
  · replace h := zo_t c12 h
    refine lv_aload_n hx hb d_Ke_file_95 rfl (lv_at hl 3 rfl) ?_
    refine lv_iload_n hx hb d_Ke_file_96 rfl (lv_at hl 4 rfl) ?_
    refine lv_iload hx hb d_Ke_file_97 (lv_at hl 2 rfl) ?_
    refine lv_aload_n hx hb d_Ke_file_99 rfl (lv_at hl 3 rfl) ?_
    refine va_get (D := D) (ci := 4) (v := .ref (A 4)) (C := R_Ke) (T := T_Ke) (N := 5) hx hb hts wu_Ke hown hK hP 0 rfl rfl 3 (by decide) (hts _ wf_Ke_28) (fun _ h9 => h9) rfl d_Ke_file_100 ?_
    refine lv_iload hx hb d_Ke_file_103 (lv_at hl 2 rfl) ?_
    obtain ⟨v13, e9, h⟩ := zo_b h
    refine ka_i (va_runV (As := [.int v8]) (rest := [.int v8, .int x1, .ref (A 0)]) S9 (c_Tg_labelOf l hl9 D A r _ u11 v8 _ e9) (cwV 1 hts (tg_V wl_Ke_85 wm_Tg_labelOf we_Tg_labelOf wi_Tg wo_Tg_labelOf) rfl rfl rfl wq_Tg_labelOf ⟨Nat.le_of_ble_eq_true rfl, Nat.le_of_ble_eq_true rfl⟩) (ka_preV X9 hP hD hS 4 rfl rfl) rfl rfl hl.1 rfl (lv_room (Nat.le_of_ble_eq_true rfl)) d_Ke_file_105 ⟨Nat.le_of_ble_eq_true rfl, Nat.le_of_ble_eq_true rfl⟩) X9 hD hS rfl (fun H locs hP hD hS => ?_)
    refine lv_iload hx hb d_Ke_file_108 (lv_at hl 7 rfl) ?_
    rcases zo_x h with ⟨k9, u15, e9, h⟩ | ⟨v14, u15, e9, h⟩
    · cases h
      exact ka_err (vx_runV (As := [.int x1, .int v8, .int v13, .int x4]) (rest := []) S9 (c_Ke_segment_err l hl9 D A r _ u11 x1 v8 v13 x4 _ _ e9) (cwV 4 hts (tg_V wl_Ke_198 wm_Ke_segment we_Ke_segment wi_Ke wo_Ke_segment) rfl rfl rfl wq_Ke_segment ⟨Nat.le_of_ble_eq_true rfl, Nat.le_of_ble_eq_true rfl⟩) (ka_preV X9 hP hD hS 0 rfl rfl) rfl rfl hl.1 rfl (lv_room (Nat.le_of_ble_eq_true rfl)) d_Ke_file_110 ⟨Nat.le_of_ble_eq_true rfl, Nat.le_of_ble_eq_true rfl⟩) hlk hex X9 hD hS (Nat.le_of_ble_eq_true rfl) (Nat.le_of_ble_eq_true rfl)
    refine ka_i (va_runV (As := [.int x1, .int v8, .int v13, .int x4]) (rest := []) S9 (c_Ke_segment_ok l hl9 D A r _ u11 x1 v8 v13 x4 _ _ e9) (cwV 4 hts (tg_V wl_Ke_198 wm_Ke_segment we_Ke_segment wi_Ke wo_Ke_segment) rfl rfl rfl wq_Ke_segment ⟨Nat.le_of_ble_eq_true rfl, Nat.le_of_ble_eq_true rfl⟩) (ka_preV X9 hP hD hS 0 rfl rfl) rfl rfl hl.1 rfl (lv_room (Nat.le_of_ble_eq_true rfl)) d_Ke_file_110 ⟨Nat.le_of_ble_eq_true rfl, Nat.le_of_ble_eq_true rfl⟩) X9 hD hS rfl (fun H locs hP hD hS => ?_)
    refine lv_istore (lv' := [(8, .int v14), (7, .int v10), (6, .int v9), (5, .int v8), (0, .ref (A 0)), (1, .int x1), (2, .int x2), (3, .int x3), (4, .int x4)]) hx hb d_Ke_file_113 hl (by decide) rfl (fun ls hl => ?_)
    refine lv_aload_n hx hb d_Ke_file_115 rfl (lv_at hl 4 rfl) ?_
    refine lv_iload_n hx hb d_Ke_file_116 rfl (lv_at hl 5 rfl) ?_
    refine lv_iload hx hb d_Ke_file_117 (lv_at hl 3 rfl) ?_
    refine lv_iload hx hb d_Ke_file_119 (lv_at hl 2 rfl) ?_
    refine lv_iload_n hx hb d_Ke_file_121 rfl (lv_at hl 7 rfl) ?_
    refine lv_iload hx hb d_Ke_file_122 (lv_at hl 0 rfl) ?_
    rcases zo_x h with ⟨k9, u17, e9, h⟩ | ⟨v16, u17, e9, h⟩
    · cases h
      exact ka_err (vx_runV (As := [.int x1, .int v8, .int v9, .int x3, .int v14]) (rest := []) S9 (c_Ke_write_err l hl9 D A r _ u15 x1 v8 v9 x3 v14 _ _ e9) (cwV 5 hts (tg_V wl_Ke_240 wm_Ke_write we_Ke_write wi_Ke wo_Ke_write) rfl rfl rfl wq_Ke_write ⟨Nat.le_of_ble_eq_true rfl, Nat.le_of_ble_eq_true rfl⟩) (ka_preV X9 hP hD hS 0 rfl rfl) rfl rfl hl.1 rfl (lv_room (Nat.le_of_ble_eq_true rfl)) d_Ke_file_124 ⟨Nat.le_of_ble_eq_true rfl, Nat.le_of_ble_eq_true rfl⟩) hlk hex X9 hD hS (Nat.le_of_ble_eq_true rfl) (Nat.le_of_ble_eq_true rfl)
    refine ka_i (va_runV (As := [.int x1, .int v8, .int v9, .int x3, .int v14]) (rest := []) S9 (c_Ke_write_ok l hl9 D A r _ u15 x1 v8 v9 x3 v14 _ _ e9) (cwV 5 hts (tg_V wl_Ke_240 wm_Ke_write we_Ke_write wi_Ke wo_Ke_write) rfl rfl rfl wq_Ke_write ⟨Nat.le_of_ble_eq_true rfl, Nat.le_of_ble_eq_true rfl⟩) (ka_preV X9 hP hD hS 0 rfl rfl) rfl rfl hl.1 rfl (lv_room (Nat.le_of_ble_eq_true rfl)) d_Ke_file_124 ⟨Nat.le_of_ble_eq_true rfl, Nat.le_of_ble_eq_true rfl⟩) X9 hD hS rfl (fun H locs hP hD hS => ?_)
    refine lv_pop hx hb d_Ke_file_127 rfl ?_
    refine lv_iload hx hb d_Ke_file_128 (lv_at hl 0 rfl) ?_
    cases h
  replace h := zo_f c12 h
  refine lv_aload_n hx hb d_Ke_file_85 rfl (lv_at hl 3 rfl) ?_
  refine lv_iload_n hx hb d_Ke_file_86 rfl (lv_at hl 4 rfl) ?_
  refine lv_iload hx hb d_Ke_file_87 (lv_at hl 2 rfl) ?_
  refine lv_iload hx hb d_Ke_file_89 (lv_at hl 0 rfl) ?_
  rcases zo_x h with ⟨k9, u19, e9, h⟩ | ⟨v18, u19, e9, h⟩
  · cases h
    exact ka_err (vx_runV (As := [.int x1, .int v8, .int v10]) (rest := []) S9 (c_Ke_drop_err l hl9 D A r _ u11 x1 v8 v10 _ _ e9) (cwV 3 hts (tg_V wl_Ke_237 wm_Ke_drop we_Ke_drop wi_Ke wo_Ke_drop) rfl rfl rfl wq_Ke_drop ⟨Nat.le_of_ble_eq_true rfl, Nat.le_of_ble_eq_true rfl⟩) (ka_preV X9 hP hD hS 0 rfl rfl) rfl rfl hl.1 rfl (lv_room (Nat.le_of_ble_eq_true rfl)) d_Ke_file_91 ⟨Nat.le_of_ble_eq_true rfl, Nat.le_of_ble_eq_true rfl⟩) hlk hex X9 hD hS (Nat.le_of_ble_eq_true rfl) (Nat.le_of_ble_eq_true rfl)
  refine ka_i (va_runV (As := [.int x1, .int v8, .int v10]) (rest := []) S9 (c_Ke_drop_ok l hl9 D A r _ u11 x1 v8 v10 _ _ e9) (cwV 3 hts (tg_V wl_Ke_237 wm_Ke_drop we_Ke_drop wi_Ke wo_Ke_drop) rfl rfl rfl wq_Ke_drop ⟨Nat.le_of_ble_eq_true rfl, Nat.le_of_ble_eq_true rfl⟩) (ka_preV X9 hP hD hS 0 rfl rfl) rfl rfl hl.1 rfl (lv_room (Nat.le_of_ble_eq_true rfl)) d_Ke_file_91 ⟨Nat.le_of_ble_eq_true rfl, Nat.le_of_ble_eq_true rfl⟩) X9 hD hS rfl (fun H locs hP hD hS => ?_)
  refine lv_pop hx hb d_Ke_file_94 rfl ?_
  refine lv_aload_n hx hb d_Ke_file_95 rfl (lv_at hl 3 rfl) ?_
  refine lv_iload_n hx hb d_Ke_file_96 rfl (lv_at hl 4 rfl) ?_
  refine lv_iload hx hb d_Ke_file_97 (lv_at hl 2 rfl) ?_
  refine lv_aload_n hx hb d_Ke_file_99 rfl (lv_at hl 3 rfl) ?_
  refine va_get (D := D) (ci := 4) (v := .ref (A 4)) (C := R_Ke) (T := T_Ke) (N := 5) hx hb hts wu_Ke hown hK hP 0 rfl rfl 3 (by decide) (hts _ wf_Ke_28) (fun _ h9 => h9) rfl d_Ke_file_100 ?_
  refine lv_iload hx hb d_Ke_file_103 (lv_at hl 2 rfl) ?_
  obtain ⟨v20, e9, h⟩ := zo_b h
  refine ka_i (va_runV (As := [.int v8]) (rest := [.int v8, .int x1, .ref (A 0)]) S9 (c_Tg_labelOf l hl9 D A r _ u19 v8 _ e9) (cwV 1 hts (tg_V wl_Ke_85 wm_Tg_labelOf we_Tg_labelOf wi_Tg wo_Tg_labelOf) rfl rfl rfl wq_Tg_labelOf ⟨Nat.le_of_ble_eq_true rfl, Nat.le_of_ble_eq_true rfl⟩) (ka_preV X9 hP hD hS 4 rfl rfl) rfl rfl hl.1 rfl (lv_room (Nat.le_of_ble_eq_true rfl)) d_Ke_file_105 ⟨Nat.le_of_ble_eq_true rfl, Nat.le_of_ble_eq_true rfl⟩) X9 hD hS rfl (fun H locs hP hD hS => ?_)
  refine lv_iload hx hb d_Ke_file_108 (lv_at hl 7 rfl) ?_
  rcases zo_x h with ⟨k9, u22, e9, h⟩ | ⟨v21, u22, e9, h⟩
  · cases h
    exact ka_err (vx_runV (As := [.int x1, .int v8, .int v20, .int x4]) (rest := []) S9 (c_Ke_segment_err l hl9 D A r _ u19 x1 v8 v20 x4 _ _ e9) (cwV 4 hts (tg_V wl_Ke_198 wm_Ke_segment we_Ke_segment wi_Ke wo_Ke_segment) rfl rfl rfl wq_Ke_segment ⟨Nat.le_of_ble_eq_true rfl, Nat.le_of_ble_eq_true rfl⟩) (ka_preV X9 hP hD hS 0 rfl rfl) rfl rfl hl.1 rfl (lv_room (Nat.le_of_ble_eq_true rfl)) d_Ke_file_110 ⟨Nat.le_of_ble_eq_true rfl, Nat.le_of_ble_eq_true rfl⟩) hlk hex X9 hD hS (Nat.le_of_ble_eq_true rfl) (Nat.le_of_ble_eq_true rfl)
  refine ka_i (va_runV (As := [.int x1, .int v8, .int v20, .int x4]) (rest := []) S9 (c_Ke_segment_ok l hl9 D A r _ u19 x1 v8 v20 x4 _ _ e9) (cwV 4 hts (tg_V wl_Ke_198 wm_Ke_segment we_Ke_segment wi_Ke wo_Ke_segment) rfl rfl rfl wq_Ke_segment ⟨Nat.le_of_ble_eq_true rfl, Nat.le_of_ble_eq_true rfl⟩) (ka_preV X9 hP hD hS 0 rfl rfl) rfl rfl hl.1 rfl (lv_room (Nat.le_of_ble_eq_true rfl)) d_Ke_file_110 ⟨Nat.le_of_ble_eq_true rfl, Nat.le_of_ble_eq_true rfl⟩) X9 hD hS rfl (fun H locs hP hD hS => ?_)
  refine lv_istore (lv' := [(8, .int v21), (7, .int v10), (6, .int v9), (5, .int v8), (0, .ref (A 0)), (1, .int x1), (2, .int x2), (3, .int x3), (4, .int x4)]) hx hb d_Ke_file_113 hl (by decide) rfl (fun ls hl => ?_)
  refine lv_aload_n hx hb d_Ke_file_115 rfl (lv_at hl 4 rfl) ?_
  refine lv_iload_n hx hb d_Ke_file_116 rfl (lv_at hl 5 rfl) ?_
  refine lv_iload hx hb d_Ke_file_117 (lv_at hl 3 rfl) ?_
  refine lv_iload hx hb d_Ke_file_119 (lv_at hl 2 rfl) ?_
  refine lv_iload_n hx hb d_Ke_file_121 rfl (lv_at hl 7 rfl) ?_
  refine lv_iload hx hb d_Ke_file_122 (lv_at hl 0 rfl) ?_
  rcases zo_x h with ⟨k9, u24, e9, h⟩ | ⟨v23, u24, e9, h⟩
  · cases h
    exact ka_err (vx_runV (As := [.int x1, .int v8, .int v9, .int x3, .int v21]) (rest := []) S9 (c_Ke_write_err l hl9 D A r _ u22 x1 v8 v9 x3 v21 _ _ e9) (cwV 5 hts (tg_V wl_Ke_240 wm_Ke_write we_Ke_write wi_Ke wo_Ke_write) rfl rfl rfl wq_Ke_write ⟨Nat.le_of_ble_eq_true rfl, Nat.le_of_ble_eq_true rfl⟩) (ka_preV X9 hP hD hS 0 rfl rfl) rfl rfl hl.1 rfl (lv_room (Nat.le_of_ble_eq_true rfl)) d_Ke_file_124 ⟨Nat.le_of_ble_eq_true rfl, Nat.le_of_ble_eq_true rfl⟩) hlk hex X9 hD hS (Nat.le_of_ble_eq_true rfl) (Nat.le_of_ble_eq_true rfl)
  refine ka_i (va_runV (As := [.int x1, .int v8, .int v9, .int x3, .int v21]) (rest := []) S9 (c_Ke_write_ok l hl9 D A r _ u22 x1 v8 v9 x3 v21 _ _ e9) (cwV 5 hts (tg_V wl_Ke_240 wm_Ke_write we_Ke_write wi_Ke wo_Ke_write) rfl rfl rfl wq_Ke_write ⟨Nat.le_of_ble_eq_true rfl, Nat.le_of_ble_eq_true rfl⟩) (ka_preV X9 hP hD hS 0 rfl rfl) rfl rfl hl.1 rfl (lv_room (Nat.le_of_ble_eq_true rfl)) d_Ke_file_124 ⟨Nat.le_of_ble_eq_true rfl, Nat.le_of_ble_eq_true rfl⟩) X9 hD hS rfl (fun H locs hP hD hS => ?_)
  refine lv_pop hx hb d_Ke_file_127 rfl ?_
  refine lv_iload hx hb d_Ke_file_128 (lv_at hl 0 rfl) ?_
  cases h
def f_Ke_access (σ : KS) (x1 x2 x3 x4 x5 x6 : Int32) : Option (Except Nat Int32 × KS) := (f_Ke_isBetween x2 0 3).bind fun v1 => if v1 = 0 then (some (.error 1, σ)) else ((f_Ke_isBetween x3 0 3).bind fun v3 => if v3 = 0 then (some (.error 1, σ)) else ((f_Us_isThere σ x2).bind fun v5 => if v5 = 0 then some (.error 2, σ) else (f_Us_homeOf σ x2).bind fun v6 => (f_Us_directoryOf σ x2).bind fun v7 => zx (f_Ke_read σ x1 v6 v7 x3) fun v8 u9 => if v8 = 0 then (some (.error 2, u9)) else (if x5 = 0 then (zx (f_Ke_read u9 x1 v6 v8 x4) fun v12 u13 => some (.ok v12, u13)) else (zx (f_Ke_write u9 x1 v6 v8 x4 x6) fun v14 u15 => some (.ok v14, u15)))))
set_option maxRecDepth 100000 in
set_option maxHeartbeats 4000000 in
theorem c_Ke_access_ok (l : Launch) (hl9 : l.stackTraces = false) (D : va_G) (A : Nat → Nat) (r : va_W) (sz : Nat) (σ : KS) (x1 x2 x3 x4 x5 x6 : Int32) (z9 : Int32) (z : KS) (h : f_Ke_access σ x1 x2 x3 x4 x5 x6 = some (.ok z9, z)) : Met l y_Ke_access (Cond.code y_Ke_access b_Ke_access 9 (some .int) :: T0) ({ frames := 5, cells := 0, slots := 0, locals := 115 } : Room) (va_Pc [.ref (A 0), .int x1, .int x2, .int x3, .int x4, .int x5, .int x6] (ka_Wd D A (GW A σ r) sz)) (ka_Ri D z9 (GW A z r) (va_A (GW A σ r) sz)) 0 0 (va_A (GW A σ r) sz) := by
  unfold f_Ke_access at h
  refine ka_of (own := R_Ke) (fun A9 => ka_Ri D z9 (GW A z r) A9) (by decide) rfl (Nat.le_of_ble_eq_true rfl) ?_
  intro p e s m below meth c A9 ls S9 hr hlk hex X9 hP hD hl
  obtain ⟨hx, hb, hml, hown, hts⟩ := id S9
  have hK := X9.2.1
  have hS : va_S A9 s.heap s.heap [] := va_S.rf
  replace hl : lv_has ls 9 [(0, .ref (A 0)), (1, .int x1), (2, .int x2), (3, .int x3), (4, .int x4), (5, .int x5), (6, .int x6)] := hl
  refine lv_iload_n hx hb d_Ke_access_0 rfl (lv_at hl 2 rfl) ?_
  refine lv_iconst (v := 0) hx hb d_Ke_access_1 (by decide) ?_
  refine lv_iconst (v := 3) hx hb d_Ke_access_2 (by decide) ?_
  obtain ⟨v1, e9, h⟩ := zo_b h
  refine ka_i (va_runS (As := [.int x2, .int 0, .int 3]) (rest := []) S9 (c_Ke_isBetween l hl9 D A (GW A σ r) _ x2 0 3 _ e9) (cwS 3 hts (tg_S wl_Ke_40 ws_Ke_isBetween wi_Ke wo_Ke_isBetween) rfl rfl rfl wq_Ke_isBetween ⟨Nat.le_of_ble_eq_true rfl, Nat.le_of_ble_eq_true rfl⟩) (ka_preS X9 hP hD hS) rfl rfl hl.1 rfl (lv_room (Nat.le_of_ble_eq_true rfl)) d_Ke_access_3 ⟨Nat.le_of_ble_eq_true rfl, Nat.le_of_ble_eq_true rfl⟩) X9 hD hS rfl (fun H locs hP hD hS => ?_)
  refine lv_if_eq (tgt := 22) hx hb d_Ke_access_6 (by decide) (fun c2 => ?_) (fun c2 => ?_)
  · replace h := zo_t c2 h
    refine lv_iconst (v := 0) hx hb d_Ke_access_22 (by decide) ?_
    cases h
  replace h := zo_f c2 h
  refine lv_iload_n hx hb d_Ke_access_9 rfl (lv_at hl 3 rfl) ?_
  refine lv_iconst (v := 0) hx hb d_Ke_access_10 (by decide) ?_
  refine lv_iconst (v := 3) hx hb d_Ke_access_11 (by decide) ?_
  obtain ⟨v3, e9, h⟩ := zo_b h
  refine ka_i (va_runS (As := [.int x3, .int 0, .int 3]) (rest := []) S9 (c_Ke_isBetween l hl9 D A (GW A σ r) _ x3 0 3 _ e9) (cwS 3 hts (tg_S wl_Ke_40 ws_Ke_isBetween wi_Ke wo_Ke_isBetween) rfl rfl rfl wq_Ke_isBetween ⟨Nat.le_of_ble_eq_true rfl, Nat.le_of_ble_eq_true rfl⟩) (ka_preS X9 hP hD hS) rfl rfl hl.1 rfl (lv_room (Nat.le_of_ble_eq_true rfl)) d_Ke_access_12 ⟨Nat.le_of_ble_eq_true rfl, Nat.le_of_ble_eq_true rfl⟩) X9 hD hS rfl (fun H locs hP hD hS => ?_)
  refine lv_if_eq (tgt := 22) hx hb d_Ke_access_15 (by decide) (fun c4 => ?_) (fun c4 => ?_)
  · replace h := zo_t c4 h
    refine lv_iconst (v := 0) hx hb d_Ke_access_22 (by decide) ?_
    cases h
  replace h := zo_f c4 h
  refine lv_iconst (v := 1) hx hb d_Ke_access_18 (by decide) ?_
  refine lv_goto (tgt := 23) hx hb d_Ke_access_19 (by decide) ?_
  refine ka_v (va_runS (As := [.int 1]) (rest := []) S9 (c_Ke_needNumber_ok l hl9 D A (GW A σ r) _ 1 (by decide)) (cwS 1 hts (tg_S wl_Ke_44 ws_Ke_needNumber wi_Ke wo_Ke_needNumber) rfl rfl rfl wq_Ke_needNumber ⟨Nat.le_of_ble_eq_true rfl, Nat.le_of_ble_eq_true rfl⟩) (ka_preS X9 hP hD hS) rfl rfl hl.1 rfl (lv_room (Nat.le_of_ble_eq_true rfl)) d_Ke_access_23 ⟨Nat.le_of_ble_eq_true rfl, Nat.le_of_ble_eq_true rfl⟩) X9 hD hS rfl (fun H locs hP hD hS => ?_)
  refine lv_aload_n hx hb d_Ke_access_26 rfl (lv_at hl 0 rfl) ?_
  refine va_get (D := D) (ci := 4) (v := .ref (A 16)) (C := R_Ke) (T := T_Ke) (N := 5) hx hb hts wu_Ke hown hK hP 0 rfl rfl 4 (by decide) (hts _ wf_Ke_33) (fun _ h9 => h9) rfl d_Ke_access_27 ?_
  refine lv_iload_n hx hb d_Ke_access_30 rfl (lv_at hl 2 rfl) ?_
  obtain ⟨v5, e9, h⟩ := zo_b h
  refine ka_i (va_runV (As := [.int x2]) (rest := []) S9 (c_Us_isThere l hl9 D A r _ σ x2 _ e9) (cwV 1 hts (tg_V wl_Ke_184 wm_Us_isThere we_Us_isThere wi_Us wo_Us_isThere) rfl rfl rfl wq_Us_isThere ⟨Nat.le_of_ble_eq_true rfl, Nat.le_of_ble_eq_true rfl⟩) (ka_preV X9 hP hD hS 16 rfl rfl) rfl rfl hl.1 rfl (lv_room (Nat.le_of_ble_eq_true rfl)) d_Ke_access_31 ⟨Nat.le_of_ble_eq_true rfl, Nat.le_of_ble_eq_true rfl⟩) X9 hD hS rfl (fun H locs hP hD hS => ?_)
  rcases zo_n h with ⟨c9, h⟩ | ⟨c9, h⟩
  · cases h
  refine ka_v (va_runS (As := [.int v5]) (rest := []) S9 (c_Ke_needFound_ok l hl9 D A (GW A σ r) _ v5 c9) (cwS 1 hts (tg_S wl_Ke_169 ws_Ke_needFound wi_Ke wo_Ke_needFound) rfl rfl rfl wq_Ke_needFound ⟨Nat.le_of_ble_eq_true rfl, Nat.le_of_ble_eq_true rfl⟩) (ka_preS X9 hP hD hS) rfl rfl hl.1 rfl (lv_room (Nat.le_of_ble_eq_true rfl)) d_Ke_access_34 ⟨Nat.le_of_ble_eq_true rfl, Nat.le_of_ble_eq_true rfl⟩) X9 hD hS rfl (fun H locs hP hD hS => ?_)
  refine lv_aload_n hx hb d_Ke_access_37 rfl (lv_at hl 0 rfl) ?_
  refine va_get (D := D) (ci := 4) (v := .ref (A 16)) (C := R_Ke) (T := T_Ke) (N := 5) hx hb hts wu_Ke hown hK hP 0 rfl rfl 4 (by decide) (hts _ wf_Ke_33) (fun _ h9 => h9) rfl d_Ke_access_38 ?_
  refine lv_iload_n hx hb d_Ke_access_41 rfl (lv_at hl 2 rfl) ?_
  obtain ⟨v6, e9, h⟩ := zo_b h
  refine ka_i (va_runV (As := [.int x2]) (rest := []) S9 (c_Us_homeOf l hl9 D A r _ σ x2 _ e9) (cwV 1 hts (tg_V wl_Ke_228 wm_Us_homeOf we_Us_homeOf wi_Us wo_Us_homeOf) rfl rfl rfl wq_Us_homeOf ⟨Nat.le_of_ble_eq_true rfl, Nat.le_of_ble_eq_true rfl⟩) (ka_preV X9 hP hD hS 16 rfl rfl) rfl rfl hl.1 rfl (lv_room (Nat.le_of_ble_eq_true rfl)) d_Ke_access_42 ⟨Nat.le_of_ble_eq_true rfl, Nat.le_of_ble_eq_true rfl⟩) X9 hD hS rfl (fun H locs hP hD hS => ?_)
  refine lv_istore (lv' := [(7, .int v6), (0, .ref (A 0)), (1, .int x1), (2, .int x2), (3, .int x3), (4, .int x4), (5, .int x5), (6, .int x6)]) hx hb d_Ke_access_45 hl (by decide) rfl (fun ls hl => ?_)
  refine lv_aload_n hx hb d_Ke_access_47 rfl (lv_at hl 1 rfl) ?_
  refine lv_iload_n hx hb d_Ke_access_48 rfl (lv_at hl 2 rfl) ?_
  refine lv_iload hx hb d_Ke_access_49 (lv_at hl 0 rfl) ?_
  refine lv_aload_n hx hb d_Ke_access_51 rfl (lv_at hl 1 rfl) ?_
  refine va_get (D := D) (ci := 4) (v := .ref (A 16)) (C := R_Ke) (T := T_Ke) (N := 5) hx hb hts wu_Ke hown hK hP 0 rfl rfl 4 (by decide) (hts _ wf_Ke_33) (fun _ h9 => h9) rfl d_Ke_access_52 ?_
  refine lv_iload_n hx hb d_Ke_access_55 rfl (lv_at hl 3 rfl) ?_
  obtain ⟨v7, e9, h⟩ := zo_b h
  refine ka_i (va_runV (As := [.int x2]) (rest := [.int v6, .int x1, .ref (A 0)]) S9 (c_Us_directoryOf l hl9 D A r _ σ x2 _ e9) (cwV 1 hts (tg_V wl_Ke_231 wm_Us_directoryOf we_Us_directoryOf wi_Us wo_Us_directoryOf) rfl rfl rfl wq_Us_directoryOf ⟨Nat.le_of_ble_eq_true rfl, Nat.le_of_ble_eq_true rfl⟩) (ka_preV X9 hP hD hS 16 rfl rfl) rfl rfl hl.1 rfl (lv_room (Nat.le_of_ble_eq_true rfl)) d_Ke_access_56 ⟨Nat.le_of_ble_eq_true rfl, Nat.le_of_ble_eq_true rfl⟩) X9 hD hS rfl (fun H locs hP hD hS => ?_)
  refine lv_iload_n hx hb d_Ke_access_59 rfl (lv_at hl 4 rfl) ?_
  rcases zo_x h with ⟨k9, u9, e9, h⟩ | ⟨v8, u9, e9, h⟩
  · cases h
  refine ka_i (va_runV (As := [.int x1, .int v6, .int v7, .int x3]) (rest := []) S9 (c_Ke_read_ok l hl9 D A r _ σ x1 v6 v7 x3 _ _ e9) (cwV 4 hts (tg_V wl_Ke_234 wm_Ke_read we_Ke_read wi_Ke wo_Ke_read) rfl rfl rfl wq_Ke_read ⟨Nat.le_of_ble_eq_true rfl, Nat.le_of_ble_eq_true rfl⟩) (ka_preV X9 hP hD hS 0 rfl rfl) rfl rfl hl.1 rfl (lv_room (Nat.le_of_ble_eq_true rfl)) d_Ke_access_60 ⟨Nat.le_of_ble_eq_true rfl, Nat.le_of_ble_eq_true rfl⟩) X9 hD hS rfl (fun H locs hP hD hS => ?_)
  refine lv_istore (lv' := [(8, .int v8), (7, .int v6), (0, .ref (A 0)), (1, .int x1), (2, .int x2), (3, .int x3), (4, .int x4), (5, .int x5), (6, .int x6)]) hx hb d_Ke_access_63 hl (by decide) rfl (fun ls hl => ?_)
  refine lv_iload hx hb d_Ke_access_65 (lv_at hl 0 rfl) ?_
  refine lv_if_eq (tgt := 74) hx hb d_Ke_access_67 (by decide) (fun c10 => ?_) (fun c10 => ?_)
  · replace h := zo_t c10 h
    refine lv_iconst (v := 0) hx hb d_Ke_access_74 (by decide) ?_
    cases h
  replace h := zo_f c10 h
  refine lv_iconst (v := 1) hx hb d_Ke_access_70 (by decide) ?_
  refine lv_goto (tgt := 75) hx hb d_Ke_access_71 (by decide) ?_
  refine ka_v (va_runS (As := [.int 1]) (rest := []) S9 (c_Ke_needFound_ok l hl9 D A (GW A u9 r) _ 1 (by decide)) (cwS 1 hts (tg_S wl_Ke_169 ws_Ke_needFound wi_Ke wo_Ke_needFound) rfl rfl rfl wq_Ke_needFound ⟨Nat.le_of_ble_eq_true rfl, Nat.le_of_ble_eq_true rfl⟩) (ka_preS X9 hP hD hS) rfl rfl hl.1 rfl (lv_room (Nat.le_of_ble_eq_true rfl)) d_Ke_access_75 ⟨Nat.le_of_ble_eq_true rfl, Nat.le_of_ble_eq_true rfl⟩) X9 hD hS rfl (fun H locs hP hD hS => ?_)
  refine lv_iload hx hb d_Ke_access_78 (lv_at hl 7 rfl) ?_
  refine lv_if_eq (tgt := 99) hx hb d_Ke_access_80 (by decide) (fun c11 => ?_) (fun c11 => ?_)
  · replace h := zo_t c11 h
    refine lv_aload_n hx hb d_Ke_access_99 rfl (lv_at hl 2 rfl) ?_
    refine lv_iload_n hx hb d_Ke_access_100 rfl (lv_at hl 3 rfl) ?_
    refine lv_iload hx hb d_Ke_access_101 (lv_at hl 1 rfl) ?_
    refine lv_iload hx hb d_Ke_access_103 (lv_at hl 0 rfl) ?_
    refine lv_iload hx hb d_Ke_access_105 (lv_at hl 6 rfl) ?_
    rcases zo_x h with ⟨k9, u13, e9, h⟩ | ⟨v12, u13, e9, h⟩
    · cases h
    refine ka_i (va_runV (As := [.int x1, .int v6, .int v8, .int x4]) (rest := []) S9 (c_Ke_read_ok l hl9 D A r _ u9 x1 v6 v8 x4 _ _ e9) (cwV 4 hts (tg_V wl_Ke_234 wm_Ke_read we_Ke_read wi_Ke wo_Ke_read) rfl rfl rfl wq_Ke_read ⟨Nat.le_of_ble_eq_true rfl, Nat.le_of_ble_eq_true rfl⟩) (ka_preV X9 hP hD hS 0 rfl rfl) rfl rfl hl.1 rfl (lv_room (Nat.le_of_ble_eq_true rfl)) d_Ke_access_107 ⟨Nat.le_of_ble_eq_true rfl, Nat.le_of_ble_eq_true rfl⟩) X9 hD hS rfl (fun H locs hP hD hS => ?_)
    cases h
    exact W.iret hx hb hr (fun t ht hW => ⟨⟨_, (), rfl, rfl, ka_at ht hP⟩, hS.F ht⟩) hS.2.2 d_Ke_access_110 hlk
  replace h := zo_f c11 h
  refine lv_aload_n hx hb d_Ke_access_83 rfl (lv_at hl 2 rfl) ?_
  refine lv_iload_n hx hb d_Ke_access_84 rfl (lv_at hl 3 rfl) ?_
  refine lv_iload hx hb d_Ke_access_85 (lv_at hl 1 rfl) ?_
  refine lv_iload hx hb d_Ke_access_87 (lv_at hl 0 rfl) ?_
  refine lv_iload hx hb d_Ke_access_89 (lv_at hl 6 rfl) ?_
  refine lv_iload hx hb d_Ke_access_91 (lv_at hl 8 rfl) ?_
  rcases zo_x h with ⟨k9, u15, e9, h⟩ | ⟨v14, u15, e9, h⟩
  · cases h
  refine ka_i (va_runV (As := [.int x1, .int v6, .int v8, .int x4, .int x6]) (rest := []) S9 (c_Ke_write_ok l hl9 D A r _ u9 x1 v6 v8 x4 x6 _ _ e9) (cwV 5 hts (tg_V wl_Ke_240 wm_Ke_write we_Ke_write wi_Ke wo_Ke_write) rfl rfl rfl wq_Ke_write ⟨Nat.le_of_ble_eq_true rfl, Nat.le_of_ble_eq_true rfl⟩) (ka_preV X9 hP hD hS 0 rfl rfl) rfl rfl hl.1 rfl (lv_room (Nat.le_of_ble_eq_true rfl)) d_Ke_access_93 ⟨Nat.le_of_ble_eq_true rfl, Nat.le_of_ble_eq_true rfl⟩) X9 hD hS rfl (fun H locs hP hD hS => ?_)
  refine lv_goto (tgt := 110) hx hb d_Ke_access_96 (by decide) ?_
  cases h
  exact W.iret hx hb hr (fun t ht hW => ⟨⟨_, (), rfl, rfl, ka_at ht hP⟩, hS.F ht⟩) hS.2.2 d_Ke_access_110 hlk
set_option maxRecDepth 100000 in
set_option maxHeartbeats 4000000 in
theorem c_Ke_access_err (l : Launch) (hl9 : l.stackTraces = false) (D : va_G) (A : Nat → Nat) (r : va_W) (sz : Nat) (σ : KS) (x1 x2 x3 x4 x5 x6 : Int32) (k9 : Nat) (z : KS) (h : f_Ke_access σ x1 x2 x3 x4 x5 x6 = some (.error k9, z)) : vx_Met l y_Ke_access (Cond.code y_Ke_access b_Ke_access 9 (some .int) :: T0) ({ frames := 10, cells := 1, slots := 6, locals := 174 } : Room) (va_Pc [.ref (A 0), .int x1, .int x2, .int x3, .int x4, .int x5, .int x6] (ka_Wd D A (GW A σ r) sz)) ka_No (ka_Xe D k9 (GW A z r) (va_A (GW A σ r) sz)) 1 6 (va_A (GW A σ r) sz) := by
  unfold f_Ke_access at h
  refine ka_ofX (own := R_Ke) (fun A9 => ka_Xe D k9 (GW A z r) A9) (by decide) rfl (Nat.le_of_ble_eq_true rfl) ?_
  intro p e s m below meth c A9 ls S9 hr hlk hex X9 hP hD hl
  obtain ⟨hx, hb, hml, hown, hts⟩ := id S9
  have hK := X9.2.1
  have hS : va_S A9 s.heap s.heap [] := va_S.rf
  replace hl : lv_has ls 9 [(0, .ref (A 0)), (1, .int x1), (2, .int x2), (3, .int x3), (4, .int x4), (5, .int x5), (6, .int x6)] := hl
  refine lv_iload_n hx hb d_Ke_access_0 rfl (lv_at hl 2 rfl) ?_
  refine lv_iconst (v := 0) hx hb d_Ke_access_1 (by decide) ?_
  refine lv_iconst (v := 3) hx hb d_Ke_access_2 (by decide) ?_
  obtain ⟨v1, e9, h⟩ := zo_b h
  refine ka_i (va_runS (As := [.int x2, .int 0, .int 3]) (rest := []) S9 (c_Ke_isBetween l hl9 D A (GW A σ r) _ x2 0 3 _ e9) (cwS 3 hts (tg_S wl_Ke_40 ws_Ke_isBetween wi_Ke wo_Ke_isBetween) rfl rfl rfl wq_Ke_isBetween ⟨Nat.le_of_ble_eq_true rfl, Nat.le_of_ble_eq_true rfl⟩) (ka_preS X9 hP hD hS) rfl rfl hl.1 rfl (lv_room (Nat.le_of_ble_eq_true rfl)) d_Ke_access_3 ⟨Nat.le_of_ble_eq_true rfl, Nat.le_of_ble_eq_true rfl⟩) X9 hD hS rfl (fun H locs hP hD hS => ?_)
  refine lv_if_eq (tgt := 22) hx hb d_Ke_access_6 (by decide) (fun c2 => ?_) (fun c2 => ?_)
  · replace h := zo_t c2 h
    refine lv_iconst (v := 0) hx hb d_Ke_access_22 (by decide) ?_
    obtain ⟨rfl, rfl⟩ := zo_e h
    exact ka_err (vx_runS (As := [.int 0]) (rest := []) S9 (c_Ke_needNumber_err l hl9 D A (GW A σ r) _ 0 rfl) (cwS 1 hts (tg_S wl_Ke_44 ws_Ke_needNumber wi_Ke wo_Ke_needNumber) rfl rfl rfl wq_Ke_needNumber ⟨Nat.le_of_ble_eq_true rfl, Nat.le_of_ble_eq_true rfl⟩) (ka_preS X9 hP hD hS) rfl rfl hl.1 rfl (lv_room (Nat.le_of_ble_eq_true rfl)) d_Ke_access_23 ⟨Nat.le_of_ble_eq_true rfl, Nat.le_of_ble_eq_true rfl⟩) hlk hex X9 hD hS (Nat.le_of_ble_eq_true rfl) (Nat.le_of_ble_eq_true rfl)
  replace h := zo_f c2 h
  refine lv_iload_n hx hb d_Ke_access_9 rfl (lv_at hl 3 rfl) ?_
  refine lv_iconst (v := 0) hx hb d_Ke_access_10 (by decide) ?_
  refine lv_iconst (v := 3) hx hb d_Ke_access_11 (by decide) ?_
  obtain ⟨v3, e9, h⟩ := zo_b h
  refine ka_i (va_runS (As := [.int x3, .int 0, .int 3]) (rest := []) S9 (c_Ke_isBetween l hl9 D A (GW A σ r) _ x3 0 3 _ e9) (cwS 3 hts (tg_S wl_Ke_40 ws_Ke_isBetween wi_Ke wo_Ke_isBetween) rfl rfl rfl wq_Ke_isBetween ⟨Nat.le_of_ble_eq_true rfl, Nat.le_of_ble_eq_true rfl⟩) (ka_preS X9 hP hD hS) rfl rfl hl.1 rfl (lv_room (Nat.le_of_ble_eq_true rfl)) d_Ke_access_12 ⟨Nat.le_of_ble_eq_true rfl, Nat.le_of_ble_eq_true rfl⟩) X9 hD hS rfl (fun H locs hP hD hS => ?_)
  refine lv_if_eq (tgt := 22) hx hb d_Ke_access_15 (by decide) (fun c4 => ?_) (fun c4 => ?_)
  · replace h := zo_t c4 h
    refine lv_iconst (v := 0) hx hb d_Ke_access_22 (by decide) ?_
    obtain ⟨rfl, rfl⟩ := zo_e h
    exact ka_err (vx_runS (As := [.int 0]) (rest := []) S9 (c_Ke_needNumber_err l hl9 D A (GW A σ r) _ 0 rfl) (cwS 1 hts (tg_S wl_Ke_44 ws_Ke_needNumber wi_Ke wo_Ke_needNumber) rfl rfl rfl wq_Ke_needNumber ⟨Nat.le_of_ble_eq_true rfl, Nat.le_of_ble_eq_true rfl⟩) (ka_preS X9 hP hD hS) rfl rfl hl.1 rfl (lv_room (Nat.le_of_ble_eq_true rfl)) d_Ke_access_23 ⟨Nat.le_of_ble_eq_true rfl, Nat.le_of_ble_eq_true rfl⟩) hlk hex X9 hD hS (Nat.le_of_ble_eq_true rfl) (Nat.le_of_ble_eq_true rfl)
  replace h := zo_f c4 h
  refine lv_iconst (v := 1) hx hb d_Ke_access_18 (by decide) ?_
  refine lv_goto (tgt := 23) hx hb d_Ke_access_19 (by decide) ?_
  refine ka_v (va_runS (As := [.int 1]) (rest := []) S9 (c_Ke_needNumber_ok l hl9 D A (GW A σ r) _ 1 (by decide)) (cwS 1 hts (tg_S wl_Ke_44 ws_Ke_needNumber wi_Ke wo_Ke_needNumber) rfl rfl rfl wq_Ke_needNumber ⟨Nat.le_of_ble_eq_true rfl, Nat.le_of_ble_eq_true rfl⟩) (ka_preS X9 hP hD hS) rfl rfl hl.1 rfl (lv_room (Nat.le_of_ble_eq_true rfl)) d_Ke_access_23 ⟨Nat.le_of_ble_eq_true rfl, Nat.le_of_ble_eq_true rfl⟩) X9 hD hS rfl (fun H locs hP hD hS => ?_)
  refine lv_aload_n hx hb d_Ke_access_26 rfl (lv_at hl 0 rfl) ?_
  refine va_get (D := D) (ci := 4) (v := .ref (A 16)) (C := R_Ke) (T := T_Ke) (N := 5) hx hb hts wu_Ke hown hK hP 0 rfl rfl 4 (by decide) (hts _ wf_Ke_33) (fun _ h9 => h9) rfl d_Ke_access_27 ?_
  refine lv_iload_n hx hb d_Ke_access_30 rfl (lv_at hl 2 rfl) ?_
  obtain ⟨v5, e9, h⟩ := zo_b h
  refine ka_i (va_runV (As := [.int x2]) (rest := []) S9 (c_Us_isThere l hl9 D A r _ σ x2 _ e9) (cwV 1 hts (tg_V wl_Ke_184 wm_Us_isThere we_Us_isThere wi_Us wo_Us_isThere) rfl rfl rfl wq_Us_isThere ⟨Nat.le_of_ble_eq_true rfl, Nat.le_of_ble_eq_true rfl⟩) (ka_preV X9 hP hD hS 16 rfl rfl) rfl rfl hl.1 rfl (lv_room (Nat.le_of_ble_eq_true rfl)) d_Ke_access_31 ⟨Nat.le_of_ble_eq_true rfl, Nat.le_of_ble_eq_true rfl⟩) X9 hD hS rfl (fun H locs hP hD hS => ?_)
  rcases zo_n h with ⟨c9, h⟩ | ⟨c9, h⟩
  · obtain ⟨rfl, rfl⟩ := zo_e h
    exact ka_err (vx_runS (As := [.int v5]) (rest := []) S9 (c_Ke_needFound_err l hl9 D A (GW A σ r) _ v5 c9) (cwS 1 hts (tg_S wl_Ke_169 ws_Ke_needFound wi_Ke wo_Ke_needFound) rfl rfl rfl wq_Ke_needFound ⟨Nat.le_of_ble_eq_true rfl, Nat.le_of_ble_eq_true rfl⟩) (ka_preS X9 hP hD hS) rfl rfl hl.1 rfl (lv_room (Nat.le_of_ble_eq_true rfl)) d_Ke_access_34 ⟨Nat.le_of_ble_eq_true rfl, Nat.le_of_ble_eq_true rfl⟩) hlk hex X9 hD hS (Nat.le_of_ble_eq_true rfl) (Nat.le_of_ble_eq_true rfl)
  refine ka_v (va_runS (As := [.int v5]) (rest := []) S9 (c_Ke_needFound_ok l hl9 D A (GW A σ r) _ v5 c9) (cwS 1 hts (tg_S wl_Ke_169 ws_Ke_needFound wi_Ke wo_Ke_needFound) rfl rfl rfl wq_Ke_needFound ⟨Nat.le_of_ble_eq_true rfl, Nat.le_of_ble_eq_true rfl⟩) (ka_preS X9 hP hD hS) rfl rfl hl.1 rfl (lv_room (Nat.le_of_ble_eq_true rfl)) d_Ke_access_34 ⟨Nat.le_of_ble_eq_true rfl, Nat.le_of_ble_eq_true rfl⟩) X9 hD hS rfl (fun H locs hP hD hS => ?_)
  refine lv_aload_n hx hb d_Ke_access_37 rfl (lv_at hl 0 rfl) ?_
  refine va_get (D := D) (ci := 4) (v := .ref (A 16)) (C := R_Ke) (T := T_Ke) (N := 5) hx hb hts wu_Ke hown hK hP 0 rfl rfl 4 (by decide) (hts _ wf_Ke_33) (fun _ h9 => h9) rfl d_Ke_access_38 ?_
  refine lv_iload_n hx hb d_Ke_access_41 rfl (lv_at hl 2 rfl) ?_
  obtain ⟨v6, e9, h⟩ := zo_b h
  refine ka_i (va_runV (As := [.int x2]) (rest := []) S9 (c_Us_homeOf l hl9 D A r _ σ x2 _ e9) (cwV 1 hts (tg_V wl_Ke_228 wm_Us_homeOf we_Us_homeOf wi_Us wo_Us_homeOf) rfl rfl rfl wq_Us_homeOf ⟨Nat.le_of_ble_eq_true rfl, Nat.le_of_ble_eq_true rfl⟩) (ka_preV X9 hP hD hS 16 rfl rfl) rfl rfl hl.1 rfl (lv_room (Nat.le_of_ble_eq_true rfl)) d_Ke_access_42 ⟨Nat.le_of_ble_eq_true rfl, Nat.le_of_ble_eq_true rfl⟩) X9 hD hS rfl (fun H locs hP hD hS => ?_)
  refine lv_istore (lv' := [(7, .int v6), (0, .ref (A 0)), (1, .int x1), (2, .int x2), (3, .int x3), (4, .int x4), (5, .int x5), (6, .int x6)]) hx hb d_Ke_access_45 hl (by decide) rfl (fun ls hl => ?_)
  refine lv_aload_n hx hb d_Ke_access_47 rfl (lv_at hl 1 rfl) ?_
  refine lv_iload_n hx hb d_Ke_access_48 rfl (lv_at hl 2 rfl) ?_
  refine lv_iload hx hb d_Ke_access_49 (lv_at hl 0 rfl) ?_
  refine lv_aload_n hx hb d_Ke_access_51 rfl (lv_at hl 1 rfl) ?_
  refine va_get (D := D) (ci := 4) (v := .ref (A 16)) (C := R_Ke) (T := T_Ke) (N := 5) hx hb hts wu_Ke hown hK hP 0 rfl rfl 4 (by decide) (hts _ wf_Ke_33) (fun _ h9 => h9) rfl d_Ke_access_52 ?_
  refine lv_iload_n hx hb d_Ke_access_55 rfl (lv_at hl 3 rfl) ?_
  obtain ⟨v7, e9, h⟩ := zo_b h
  refine ka_i (va_runV (As := [.int x2]) (rest := [.int v6, .int x1, .ref (A 0)]) S9 (c_Us_directoryOf l hl9 D A r _ σ x2 _ e9) (cwV 1 hts (tg_V wl_Ke_231 wm_Us_directoryOf we_Us_directoryOf wi_Us wo_Us_directoryOf) rfl rfl rfl wq_Us_directoryOf ⟨Nat.le_of_ble_eq_true rfl, Nat.le_of_ble_eq_true rfl⟩) (ka_preV X9 hP hD hS 16 rfl rfl) rfl rfl hl.1 rfl (lv_room (Nat.le_of_ble_eq_true rfl)) d_Ke_access_56 ⟨Nat.le_of_ble_eq_true rfl, Nat.le_of_ble_eq_true rfl⟩) X9 hD hS rfl (fun H locs hP hD hS => ?_)
  refine lv_iload_n hx hb d_Ke_access_59 rfl (lv_at hl 4 rfl) ?_
  rcases zo_x h with ⟨k9, u9, e9, h⟩ | ⟨v8, u9, e9, h⟩
  · cases h
    exact ka_err (vx_runV (As := [.int x1, .int v6, .int v7, .int x3]) (rest := []) S9 (c_Ke_read_err l hl9 D A r _ σ x1 v6 v7 x3 _ _ e9) (cwV 4 hts (tg_V wl_Ke_234 wm_Ke_read we_Ke_read wi_Ke wo_Ke_read) rfl rfl rfl wq_Ke_read ⟨Nat.le_of_ble_eq_true rfl, Nat.le_of_ble_eq_true rfl⟩) (ka_preV X9 hP hD hS 0 rfl rfl) rfl rfl hl.1 rfl (lv_room (Nat.le_of_ble_eq_true rfl)) d_Ke_access_60 ⟨Nat.le_of_ble_eq_true rfl, Nat.le_of_ble_eq_true rfl⟩) hlk hex X9 hD hS (Nat.le_of_ble_eq_true rfl) (Nat.le_of_ble_eq_true rfl)
  refine ka_i (va_runV (As := [.int x1, .int v6, .int v7, .int x3]) (rest := []) S9 (c_Ke_read_ok l hl9 D A r _ σ x1 v6 v7 x3 _ _ e9) (cwV 4 hts (tg_V wl_Ke_234 wm_Ke_read we_Ke_read wi_Ke wo_Ke_read) rfl rfl rfl wq_Ke_read ⟨Nat.le_of_ble_eq_true rfl, Nat.le_of_ble_eq_true rfl⟩) (ka_preV X9 hP hD hS 0 rfl rfl) rfl rfl hl.1 rfl (lv_room (Nat.le_of_ble_eq_true rfl)) d_Ke_access_60 ⟨Nat.le_of_ble_eq_true rfl, Nat.le_of_ble_eq_true rfl⟩) X9 hD hS rfl (fun H locs hP hD hS => ?_)
  refine lv_istore (lv' := [(8, .int v8), (7, .int v6), (0, .ref (A 0)), (1, .int x1), (2, .int x2), (3, .int x3), (4, .int x4), (5, .int x5), (6, .int x6)]) hx hb d_Ke_access_63 hl (by decide) rfl (fun ls hl => ?_)
  refine lv_iload hx hb d_Ke_access_65 (lv_at hl 0 rfl) ?_
  refine lv_if_eq (tgt := 74) hx hb d_Ke_access_67 (by decide) (fun c10 => ?_) (fun c10 => ?_)
  · replace h := zo_t c10 h
    refine lv_iconst (v := 0) hx hb d_Ke_access_74 (by decide) ?_
    obtain ⟨rfl, rfl⟩ := zo_e h
    exact ka_err (vx_runS (As := [.int 0]) (rest := []) S9 (c_Ke_needFound_err l hl9 D A (GW A u9 r) _ 0 rfl) (cwS 1 hts (tg_S wl_Ke_169 ws_Ke_needFound wi_Ke wo_Ke_needFound) rfl rfl rfl wq_Ke_needFound ⟨Nat.le_of_ble_eq_true rfl, Nat.le_of_ble_eq_true rfl⟩) (ka_preS X9 hP hD hS) rfl rfl hl.1 rfl (lv_room (Nat.le_of_ble_eq_true rfl)) d_Ke_access_75 ⟨Nat.le_of_ble_eq_true rfl, Nat.le_of_ble_eq_true rfl⟩) hlk hex X9 hD hS (Nat.le_of_ble_eq_true rfl) (Nat.le_of_ble_eq_true rfl)
  replace h := zo_f c10 h
  refine lv_iconst (v := 1) hx hb d_Ke_access_70 (by decide) ?_
  refine lv_goto (tgt := 75) hx hb d_Ke_access_71 (by decide) ?_
  refine ka_v (va_runS (As := [.int 1]) (rest := []) S9 (c_Ke_needFound_ok l hl9 D A (GW A u9 r) _ 1 (by decide)) (cwS 1 hts (tg_S wl_Ke_169 ws_Ke_needFound wi_Ke wo_Ke_needFound) rfl rfl rfl wq_Ke_needFound ⟨Nat.le_of_ble_eq_true rfl, Nat.le_of_ble_eq_true rfl⟩) (ka_preS X9 hP hD hS) rfl rfl hl.1 rfl (lv_room (Nat.le_of_ble_eq_true rfl)) d_Ke_access_75 ⟨Nat.le_of_ble_eq_true rfl, Nat.le_of_ble_eq_true rfl⟩) X9 hD hS rfl (fun H locs hP hD hS => ?_)
  refine lv_iload hx hb d_Ke_access_78 (lv_at hl 7 rfl) ?_
  refine lv_if_eq (tgt := 99) hx hb d_Ke_access_80 (by decide) (fun c11 => ?_) (fun c11 => ?_)
  · replace h := zo_t c11 h
    refine lv_aload_n hx hb d_Ke_access_99 rfl (lv_at hl 2 rfl) ?_
    refine lv_iload_n hx hb d_Ke_access_100 rfl (lv_at hl 3 rfl) ?_
    refine lv_iload hx hb d_Ke_access_101 (lv_at hl 1 rfl) ?_
    refine lv_iload hx hb d_Ke_access_103 (lv_at hl 0 rfl) ?_
    refine lv_iload hx hb d_Ke_access_105 (lv_at hl 6 rfl) ?_
    rcases zo_x h with ⟨k9, u13, e9, h⟩ | ⟨v12, u13, e9, h⟩
    · cases h
      exact ka_err (vx_runV (As := [.int x1, .int v6, .int v8, .int x4]) (rest := []) S9 (c_Ke_read_err l hl9 D A r _ u9 x1 v6 v8 x4 _ _ e9) (cwV 4 hts (tg_V wl_Ke_234 wm_Ke_read we_Ke_read wi_Ke wo_Ke_read) rfl rfl rfl wq_Ke_read ⟨Nat.le_of_ble_eq_true rfl, Nat.le_of_ble_eq_true rfl⟩) (ka_preV X9 hP hD hS 0 rfl rfl) rfl rfl hl.1 rfl (lv_room (Nat.le_of_ble_eq_true rfl)) d_Ke_access_107 ⟨Nat.le_of_ble_eq_true rfl, Nat.le_of_ble_eq_true rfl⟩) hlk hex X9 hD hS (Nat.le_of_ble_eq_true rfl) (Nat.le_of_ble_eq_true rfl)
    refine ka_i (va_runV (As := [.int x1, .int v6, .int v8, .int x4]) (rest := []) S9 (c_Ke_read_ok l hl9 D A r _ u9 x1 v6 v8 x4 _ _ e9) (cwV 4 hts (tg_V wl_Ke_234 wm_Ke_read we_Ke_read wi_Ke wo_Ke_read) rfl rfl rfl wq_Ke_read ⟨Nat.le_of_ble_eq_true rfl, Nat.le_of_ble_eq_true rfl⟩) (ka_preV X9 hP hD hS 0 rfl rfl) rfl rfl hl.1 rfl (lv_room (Nat.le_of_ble_eq_true rfl)) d_Ke_access_107 ⟨Nat.le_of_ble_eq_true rfl, Nat.le_of_ble_eq_true rfl⟩) X9 hD hS rfl (fun H locs hP hD hS => ?_)
    cases h
  replace h := zo_f c11 h
  refine lv_aload_n hx hb d_Ke_access_83 rfl (lv_at hl 2 rfl) ?_
  refine lv_iload_n hx hb d_Ke_access_84 rfl (lv_at hl 3 rfl) ?_
  refine lv_iload hx hb d_Ke_access_85 (lv_at hl 1 rfl) ?_
  refine lv_iload hx hb d_Ke_access_87 (lv_at hl 0 rfl) ?_
  refine lv_iload hx hb d_Ke_access_89 (lv_at hl 6 rfl) ?_
  refine lv_iload hx hb d_Ke_access_91 (lv_at hl 8 rfl) ?_
  rcases zo_x h with ⟨k9, u15, e9, h⟩ | ⟨v14, u15, e9, h⟩
  · cases h
    exact ka_err (vx_runV (As := [.int x1, .int v6, .int v8, .int x4, .int x6]) (rest := []) S9 (c_Ke_write_err l hl9 D A r _ u9 x1 v6 v8 x4 x6 _ _ e9) (cwV 5 hts (tg_V wl_Ke_240 wm_Ke_write we_Ke_write wi_Ke wo_Ke_write) rfl rfl rfl wq_Ke_write ⟨Nat.le_of_ble_eq_true rfl, Nat.le_of_ble_eq_true rfl⟩) (ka_preV X9 hP hD hS 0 rfl rfl) rfl rfl hl.1 rfl (lv_room (Nat.le_of_ble_eq_true rfl)) d_Ke_access_93 ⟨Nat.le_of_ble_eq_true rfl, Nat.le_of_ble_eq_true rfl⟩) hlk hex X9 hD hS (Nat.le_of_ble_eq_true rfl) (Nat.le_of_ble_eq_true rfl)
  refine ka_i (va_runV (As := [.int x1, .int v6, .int v8, .int x4, .int x6]) (rest := []) S9 (c_Ke_write_ok l hl9 D A r _ u9 x1 v6 v8 x4 x6 _ _ e9) (cwV 5 hts (tg_V wl_Ke_240 wm_Ke_write we_Ke_write wi_Ke wo_Ke_write) rfl rfl rfl wq_Ke_write ⟨Nat.le_of_ble_eq_true rfl, Nat.le_of_ble_eq_true rfl⟩) (ka_preV X9 hP hD hS 0 rfl rfl) rfl rfl hl.1 rfl (lv_room (Nat.le_of_ble_eq_true rfl)) d_Ke_access_93 ⟨Nat.le_of_ble_eq_true rfl, Nat.le_of_ble_eq_true rfl⟩) X9 hD hS rfl (fun H locs hP hD hS => ?_)
  refine lv_goto (tgt := 110) hx hb d_Ke_access_96 (by decide) ?_
  cases h
def f_Ke_snapshot (σ : KS) : Option (Int32 × KS) := (f_Sn_takeFrom_24_1 σ).bind fun v1 => (f_Tg_howMany v1).bind fun v2 => some (v2, v1)
set_option maxRecDepth 100000 in
set_option maxHeartbeats 4000000 in
theorem c_Ke_snapshot (l : Launch) (hl9 : l.stackTraces = false) (D : va_G) (A : Nat → Nat) (r : va_W) (sz : Nat) (σ : KS) (z : Int32 × KS) (h : f_Ke_snapshot σ = some z) : Met l y_Ke_snapshot (Cond.code y_Ke_snapshot b_Ke_snapshot 1 (some .int) :: T0) ({ frames := 3, cells := 0, slots := 0, locals := 102 } : Room) (va_Pc [.ref (A 0)] (ka_Wd D A (GW A σ r) sz)) (ka_Ri D z.1 (GW A z.2 r) (va_A (GW A σ r) sz)) 0 0 (va_A (GW A σ r) sz) := by
  unfold f_Ke_snapshot at h
  refine ka_of (own := R_Ke) (fun A9 => ka_Ri D z.1 (GW A z.2 r) A9) (by decide) rfl (Nat.le_of_ble_eq_true rfl) ?_
  intro p e s m below meth c A9 ls S9 hr hlk hex X9 hP hD hl
  obtain ⟨hx, hb, hml, hown, hts⟩ := id S9
  have hK := X9.2.1
  have hS : va_S A9 s.heap s.heap [] := va_S.rf
  replace hl : lv_has ls 1 [(0, .ref (A 0))] := hl
  refine lv_aload_n hx hb d_Ke_snapshot_0 rfl (lv_at hl 0 rfl) ?_
  refine va_get (D := D) (ci := 4) (v := .ref (A 24)) (C := R_Ke) (T := T_Ke) (N := 5) hx hb hts wu_Ke hown hK hP 0 rfl rfl 1 (by decide) (hts _ wf_Ke_16) (fun _ h9 => h9) rfl d_Ke_snapshot_1 ?_
  refine lv_aload_n hx hb d_Ke_snapshot_4 rfl (lv_at hl 0 rfl) ?_
  refine va_get (D := D) (ci := 4) (v := .ref (A 1)) (C := R_Ke) (T := T_Ke) (N := 5) hx hb hts wu_Ke hown hK hP 0 rfl rfl 0 (by decide) (hts _ wf_Ke_10) (fun _ h9 => h9) rfl d_Ke_snapshot_5 ?_
  obtain ⟨v1, e9, h⟩ := zo_b h
  refine ka_v (va_runV (As := [.ref (A 1)]) (rest := []) S9 (c_Sn_takeFrom_24_1 l hl9 D A r _ σ _ e9) (cwV 1 hts (tg_V wl_Ke_243 wm_Sn_takeFrom we_Sn_takeFrom wi_Sn wo_Sn_takeFrom) rfl rfl rfl wq_Sn_takeFrom ⟨Nat.le_of_ble_eq_true rfl, Nat.le_of_ble_eq_true rfl⟩) (ka_preV X9 hP hD hS 24 rfl rfl) rfl rfl hl.1 rfl (lv_room (Nat.le_of_ble_eq_true rfl)) d_Ke_snapshot_8 ⟨Nat.le_of_ble_eq_true rfl, Nat.le_of_ble_eq_true rfl⟩) X9 hD hS rfl (fun H locs hP hD hS => ?_)
  refine lv_aload_n hx hb d_Ke_snapshot_11 rfl (lv_at hl 0 rfl) ?_
  refine va_get (D := D) (ci := 4) (v := .ref (A 4)) (C := R_Ke) (T := T_Ke) (N := 5) hx hb hts wu_Ke hown hK hP 0 rfl rfl 3 (by decide) (hts _ wf_Ke_28) (fun _ h9 => h9) rfl d_Ke_snapshot_12 ?_
  obtain ⟨v2, e9, h⟩ := zo_b h
  refine ka_i (va_runV (As := []) (rest := []) S9 (c_Tg_howMany l hl9 D A r _ v1 _ e9) (cwV 0 hts (tg_V wl_Ke_247 wm_Tg_howMany we_Tg_howMany wi_Tg wo_Tg_howMany) rfl rfl rfl wq_Tg_howMany ⟨Nat.le_of_ble_eq_true rfl, Nat.le_of_ble_eq_true rfl⟩) (ka_preV X9 hP hD hS 4 rfl rfl) rfl rfl hl.1 rfl (lv_room (Nat.le_of_ble_eq_true rfl)) d_Ke_snapshot_15 ⟨Nat.le_of_ble_eq_true rfl, Nat.le_of_ble_eq_true rfl⟩) X9 hD hS rfl (fun H locs hP hD hS => ?_)
  cases h
  exact W.iret hx hb hr (fun t ht hW => ⟨⟨_, (), rfl, rfl, ka_at ht hP⟩, hS.F ht⟩) hS.2.2 d_Ke_snapshot_18 hlk
def f_Ke_crash (σ : KS) : Option (Int32 × KS) := (f_Sn_takeFrom_1_24 σ).bind fun v1 => (f_Tg_howMany v1).bind fun v2 => some (v2, v1)
set_option maxRecDepth 100000 in
set_option maxHeartbeats 4000000 in
theorem c_Ke_crash (l : Launch) (hl9 : l.stackTraces = false) (D : va_G) (A : Nat → Nat) (r : va_W) (sz : Nat) (σ : KS) (z : Int32 × KS) (h : f_Ke_crash σ = some z) : Met l y_Ke_crash (Cond.code y_Ke_crash b_Ke_crash 1 (some .int) :: T0) ({ frames := 3, cells := 0, slots := 0, locals := 102 } : Room) (va_Pc [.ref (A 0)] (ka_Wd D A (GW A σ r) sz)) (ka_Ri D z.1 (GW A z.2 r) (va_A (GW A σ r) sz)) 0 0 (va_A (GW A σ r) sz) := by
  unfold f_Ke_crash at h
  refine ka_of (own := R_Ke) (fun A9 => ka_Ri D z.1 (GW A z.2 r) A9) (by decide) rfl (Nat.le_of_ble_eq_true rfl) ?_
  intro p e s m below meth c A9 ls S9 hr hlk hex X9 hP hD hl
  obtain ⟨hx, hb, hml, hown, hts⟩ := id S9
  have hK := X9.2.1
  have hS : va_S A9 s.heap s.heap [] := va_S.rf
  replace hl : lv_has ls 1 [(0, .ref (A 0))] := hl
  refine lv_aload_n hx hb d_Ke_crash_0 rfl (lv_at hl 0 rfl) ?_
  refine va_get (D := D) (ci := 4) (v := .ref (A 1)) (C := R_Ke) (T := T_Ke) (N := 5) hx hb hts wu_Ke hown hK hP 0 rfl rfl 0 (by decide) (hts _ wf_Ke_10) (fun _ h9 => h9) rfl d_Ke_crash_1 ?_
  refine lv_aload_n hx hb d_Ke_crash_4 rfl (lv_at hl 0 rfl) ?_
  refine va_get (D := D) (ci := 4) (v := .ref (A 24)) (C := R_Ke) (T := T_Ke) (N := 5) hx hb hts wu_Ke hown hK hP 0 rfl rfl 1 (by decide) (hts _ wf_Ke_16) (fun _ h9 => h9) rfl d_Ke_crash_5 ?_
  obtain ⟨v1, e9, h⟩ := zo_b h
  refine ka_v (va_runV (As := [.ref (A 24)]) (rest := []) S9 (c_Sn_takeFrom_1_24 l hl9 D A r _ σ _ e9) (cwV 1 hts (tg_V wl_Ke_243 wm_Sn_takeFrom we_Sn_takeFrom wi_Sn wo_Sn_takeFrom) rfl rfl rfl wq_Sn_takeFrom ⟨Nat.le_of_ble_eq_true rfl, Nat.le_of_ble_eq_true rfl⟩) (ka_preV X9 hP hD hS 1 rfl rfl) rfl rfl hl.1 rfl (lv_room (Nat.le_of_ble_eq_true rfl)) d_Ke_crash_8 ⟨Nat.le_of_ble_eq_true rfl, Nat.le_of_ble_eq_true rfl⟩) X9 hD hS rfl (fun H locs hP hD hS => ?_)
  refine lv_aload_n hx hb d_Ke_crash_11 rfl (lv_at hl 0 rfl) ?_
  refine va_get (D := D) (ci := 4) (v := .ref (A 4)) (C := R_Ke) (T := T_Ke) (N := 5) hx hb hts wu_Ke hown hK hP 0 rfl rfl 3 (by decide) (hts _ wf_Ke_28) (fun _ h9 => h9) rfl d_Ke_crash_12 ?_
  obtain ⟨v2, e9, h⟩ := zo_b h
  refine ka_i (va_runV (As := []) (rest := []) S9 (c_Tg_howMany l hl9 D A r _ v1 _ e9) (cwV 0 hts (tg_V wl_Ke_247 wm_Tg_howMany we_Tg_howMany wi_Tg wo_Tg_howMany) rfl rfl rfl wq_Tg_howMany ⟨Nat.le_of_ble_eq_true rfl, Nat.le_of_ble_eq_true rfl⟩) (ka_preV X9 hP hD hS 4 rfl rfl) rfl rfl hl.1 rfl (lv_room (Nat.le_of_ble_eq_true rfl)) d_Ke_crash_15 ⟨Nat.le_of_ble_eq_true rfl, Nat.le_of_ble_eq_true rfl⟩) X9 hD hS rfl (fun H locs hP hD hS => ?_)
  cases h
  exact W.iret hx hb hr (fun t ht hW => ⟨⟨_, (), rfl, rfl, ka_at ht hP⟩, hS.F ht⟩) hS.2.2 d_Ke_crash_18 hlk
def f_Ke_object (σ : KS) (x1 x2 : Int32) : Option (Except Nat Int32 × KS) := (f_Ke_isBetween x2 0 6).bind fun v1 => if v1 = 0 then some (.error 1, σ) else (f_Tg_isThere σ x1).bind fun v2 => if v2 = 0 then some (.error 2, σ) else if x2 = 0 then ((f_Tg_kindOf σ x1).bind fun v3 => some (.ok v3, σ)) else if x2 = 1 then ((f_Tg_labelOf σ x1).bind fun v4 => some (.ok v4, σ)) else if x2 = 2 then ((f_Tg_quotaOf σ x1).bind fun v5 => some (.ok v5, σ)) else if x2 = 3 then ((f_Tg_useOf σ x1).bind fun v6 => some (.ok v6, σ)) else if x2 = 4 then ((f_Tg_placeOf σ x1).bind fun v7 => some (.ok v7, σ)) else if x2 = 5 then ((f_Tg_clearanceOf σ x1).bind fun v8 => some (.ok v8, σ)) else ((f_Tg_cellCountOf σ x1).bind fun v9 => some (.ok v9, σ))
set_option maxRecDepth 100000 in
set_option maxHeartbeats 4000000 in
theorem c_Ke_object_ok (l : Launch) (hl9 : l.stackTraces = false) (D : va_G) (A : Nat → Nat) (r : va_W) (sz : Nat) (σ : KS) (x1 x2 : Int32) (z9 : Int32) (z : KS) (h : f_Ke_object σ x1 x2 = some (.ok z9, z)) : Met l y_Ke_object (Cond.code y_Ke_object b_Ke_object 3 (some .int) :: T0) ({ frames := 3, cells := 0, slots := 0, locals := 66 } : Room) (va_Pc [.ref (A 0), .int x1, .int x2] (ka_Wd D A (GW A σ r) sz)) (ka_Ri D z9 (GW A z r) (va_A (GW A σ r) sz)) 0 0 (va_A (GW A σ r) sz) := by
  unfold f_Ke_object at h
  refine ka_of (own := R_Ke) (fun A9 => ka_Ri D z9 (GW A z r) A9) (by decide) rfl (Nat.le_of_ble_eq_true rfl) ?_
  intro p e s m below meth c A9 ls S9 hr hlk hex X9 hP hD hl
  obtain ⟨hx, hb, hml, hown, hts⟩ := id S9
  have hK := X9.2.1
  have hS : va_S A9 s.heap s.heap [] := va_S.rf
  replace hl : lv_has ls 3 [(0, .ref (A 0)), (1, .int x1), (2, .int x2)] := hl
  refine lv_iload_n hx hb d_Ke_object_0 rfl (lv_at hl 2 rfl) ?_
  refine lv_iconst (v := 0) hx hb d_Ke_object_1 (by decide) ?_
  refine lv_bipush (v := 6) hx hb d_Ke_object_2 (by decide) ?_
  obtain ⟨v1, e9, h⟩ := zo_b h
  refine ka_i (va_runS (As := [.int x2, .int 0, .int 6]) (rest := []) S9 (c_Ke_isBetween l hl9 D A (GW A σ r) _ x2 0 6 _ e9) (cwS 3 hts (tg_S wl_Ke_40 ws_Ke_isBetween wi_Ke wo_Ke_isBetween) rfl rfl rfl wq_Ke_isBetween ⟨Nat.le_of_ble_eq_true rfl, Nat.le_of_ble_eq_true rfl⟩) (ka_preS X9 hP hD hS) rfl rfl hl.1 rfl (lv_room (Nat.le_of_ble_eq_true rfl)) d_Ke_object_4 ⟨Nat.le_of_ble_eq_true rfl, Nat.le_of_ble_eq_true rfl⟩) X9 hD hS rfl (fun H locs hP hD hS => ?_)
  rcases zo_n h with ⟨c9, h⟩ | ⟨c9, h⟩
  · cases h
  refine ka_v (va_runS (As := [.int v1]) (rest := []) S9 (c_Ke_needNumber_ok l hl9 D A (GW A σ r) _ v1 c9) (cwS 1 hts (tg_S wl_Ke_44 ws_Ke_needNumber wi_Ke wo_Ke_needNumber) rfl rfl rfl wq_Ke_needNumber ⟨Nat.le_of_ble_eq_true rfl, Nat.le_of_ble_eq_true rfl⟩) (ka_preS X9 hP hD hS) rfl rfl hl.1 rfl (lv_room (Nat.le_of_ble_eq_true rfl)) d_Ke_object_7 ⟨Nat.le_of_ble_eq_true rfl, Nat.le_of_ble_eq_true rfl⟩) X9 hD hS rfl (fun H locs hP hD hS => ?_)
  refine lv_aload_n hx hb d_Ke_object_10 rfl (lv_at hl 0 rfl) ?_
  refine va_get (D := D) (ci := 4) (v := .ref (A 4)) (C := R_Ke) (T := T_Ke) (N := 5) hx hb hts wu_Ke hown hK hP 0 rfl rfl 3 (by decide) (hts _ wf_Ke_28) (fun _ h9 => h9) rfl d_Ke_object_11 ?_
  refine lv_iload_n hx hb d_Ke_object_14 rfl (lv_at hl 1 rfl) ?_
  obtain ⟨v2, e9, h⟩ := zo_b h
  refine ka_i (va_runV (As := [.int x1]) (rest := []) S9 (c_Tg_isThere l hl9 D A r _ σ x1 _ e9) (cwV 1 hts (tg_V wl_Ke_250 wm_Tg_isThere we_Tg_isThere wi_Tg wo_Tg_isThere) rfl rfl rfl wq_Tg_isThere ⟨Nat.le_of_ble_eq_true rfl, Nat.le_of_ble_eq_true rfl⟩) (ka_preV X9 hP hD hS 4 rfl rfl) rfl rfl hl.1 rfl (lv_room (Nat.le_of_ble_eq_true rfl)) d_Ke_object_15 ⟨Nat.le_of_ble_eq_true rfl, Nat.le_of_ble_eq_true rfl⟩) X9 hD hS rfl (fun H locs hP hD hS => ?_)
  rcases zo_n h with ⟨c9, h⟩ | ⟨c9, h⟩
  · cases h
  refine ka_v (va_runS (As := [.int v2]) (rest := []) S9 (c_Ke_needFound_ok l hl9 D A (GW A σ r) _ v2 c9) (cwS 1 hts (tg_S wl_Ke_169 ws_Ke_needFound wi_Ke wo_Ke_needFound) rfl rfl rfl wq_Ke_needFound ⟨Nat.le_of_ble_eq_true rfl, Nat.le_of_ble_eq_true rfl⟩) (ka_preS X9 hP hD hS) rfl rfl hl.1 rfl (lv_room (Nat.le_of_ble_eq_true rfl)) d_Ke_object_18 ⟨Nat.le_of_ble_eq_true rfl, Nat.le_of_ble_eq_true rfl⟩) X9 hD hS rfl (fun H locs hP hD hS => ?_)
  refine lv_iload_n hx hb d_Ke_object_21 rfl (lv_at hl 2 rfl) ?_
  by_cases c9_0 : x2 = 0
  · replace h := zo_t c9_0 h
    refine ka_tabIn (tgt := 60) (off := 38) hx hb d_Ke_object_22 c9_0 (by decide) (by decide) (by decide) (by decide) ?_
    refine lv_aload_n hx hb d_Ke_object_60 rfl (lv_at hl 0 rfl) ?_
    refine va_get (D := D) (ci := 4) (v := .ref (A 4)) (C := R_Ke) (T := T_Ke) (N := 5) hx hb hts wu_Ke hown hK hP 0 rfl rfl 3 (by decide) (hts _ wf_Ke_28) (fun _ h9 => h9) rfl d_Ke_object_61 ?_
    refine lv_iload_n hx hb d_Ke_object_64 rfl (lv_at hl 1 rfl) ?_
    obtain ⟨v3, e9, h⟩ := zo_b h
    refine ka_i (va_runV (As := [.int x1]) (rest := []) S9 (c_Tg_kindOf l hl9 D A r _ σ x1 _ e9) (cwV 1 hts (tg_V wl_Ke_251 wm_Tg_kindOf we_Tg_kindOf wi_Tg wo_Tg_kindOf) rfl rfl rfl wq_Tg_kindOf ⟨Nat.le_of_ble_eq_true rfl, Nat.le_of_ble_eq_true rfl⟩) (ka_preV X9 hP hD hS 4 rfl rfl) rfl rfl hl.1 rfl (lv_room (Nat.le_of_ble_eq_true rfl)) d_Ke_object_65 ⟨Nat.le_of_ble_eq_true rfl, Nat.le_of_ble_eq_true rfl⟩) X9 hD hS rfl (fun H locs hP hD hS => ?_)
    cases h
    exact W.iret hx hb hr (fun t ht hW => ⟨⟨_, (), rfl, rfl, ka_at ht hP⟩, hS.F ht⟩) hS.2.2 d_Ke_object_68 hlk
  replace h := zo_f c9_0 h
  by_cases c9_1 : x2 = 1
  · replace h := zo_t c9_1 h
    refine ka_tabIn (tgt := 69) (off := 47) hx hb d_Ke_object_22 c9_1 (by decide) (by decide) (by decide) (by decide) ?_
    refine lv_aload_n hx hb d_Ke_object_69 rfl (lv_at hl 0 rfl) ?_
    refine va_get (D := D) (ci := 4) (v := .ref (A 4)) (C := R_Ke) (T := T_Ke) (N := 5) hx hb hts wu_Ke hown hK hP 0 rfl rfl 3 (by decide) (hts _ wf_Ke_28) (fun _ h9 => h9) rfl d_Ke_object_70 ?_
    refine lv_iload_n hx hb d_Ke_object_73 rfl (lv_at hl 1 rfl) ?_
    obtain ⟨v4, e9, h⟩ := zo_b h
    refine ka_i (va_runV (As := [.int x1]) (rest := []) S9 (c_Tg_labelOf l hl9 D A r _ σ x1 _ e9) (cwV 1 hts (tg_V wl_Ke_85 wm_Tg_labelOf we_Tg_labelOf wi_Tg wo_Tg_labelOf) rfl rfl rfl wq_Tg_labelOf ⟨Nat.le_of_ble_eq_true rfl, Nat.le_of_ble_eq_true rfl⟩) (ka_preV X9 hP hD hS 4 rfl rfl) rfl rfl hl.1 rfl (lv_room (Nat.le_of_ble_eq_true rfl)) d_Ke_object_74 ⟨Nat.le_of_ble_eq_true rfl, Nat.le_of_ble_eq_true rfl⟩) X9 hD hS rfl (fun H locs hP hD hS => ?_)
    cases h
    exact W.iret hx hb hr (fun t ht hW => ⟨⟨_, (), rfl, rfl, ka_at ht hP⟩, hS.F ht⟩) hS.2.2 d_Ke_object_77 hlk
  replace h := zo_f c9_1 h
  by_cases c9_2 : x2 = 2
  · replace h := zo_t c9_2 h
    refine ka_tabIn (tgt := 78) (off := 56) hx hb d_Ke_object_22 c9_2 (by decide) (by decide) (by decide) (by decide) ?_
    refine lv_aload_n hx hb d_Ke_object_78 rfl (lv_at hl 0 rfl) ?_
    refine va_get (D := D) (ci := 4) (v := .ref (A 4)) (C := R_Ke) (T := T_Ke) (N := 5) hx hb hts wu_Ke hown hK hP 0 rfl rfl 3 (by decide) (hts _ wf_Ke_28) (fun _ h9 => h9) rfl d_Ke_object_79 ?_
    refine lv_iload_n hx hb d_Ke_object_82 rfl (lv_at hl 1 rfl) ?_
    obtain ⟨v5, e9, h⟩ := zo_b h
    refine ka_i (va_runV (As := [.int x1]) (rest := []) S9 (c_Tg_quotaOf l hl9 D A r _ σ x1 _ e9) (cwV 1 hts (tg_V wl_Ke_145 wm_Tg_quotaOf we_Tg_quotaOf wi_Tg wo_Tg_quotaOf) rfl rfl rfl wq_Tg_quotaOf ⟨Nat.le_of_ble_eq_true rfl, Nat.le_of_ble_eq_true rfl⟩) (ka_preV X9 hP hD hS 4 rfl rfl) rfl rfl hl.1 rfl (lv_room (Nat.le_of_ble_eq_true rfl)) d_Ke_object_83 ⟨Nat.le_of_ble_eq_true rfl, Nat.le_of_ble_eq_true rfl⟩) X9 hD hS rfl (fun H locs hP hD hS => ?_)
    cases h
    exact W.iret hx hb hr (fun t ht hW => ⟨⟨_, (), rfl, rfl, ka_at ht hP⟩, hS.F ht⟩) hS.2.2 d_Ke_object_86 hlk
  replace h := zo_f c9_2 h
  by_cases c9_3 : x2 = 3
  · replace h := zo_t c9_3 h
    refine ka_tabIn (tgt := 87) (off := 65) hx hb d_Ke_object_22 c9_3 (by decide) (by decide) (by decide) (by decide) ?_
    refine lv_aload_n hx hb d_Ke_object_87 rfl (lv_at hl 0 rfl) ?_
    refine va_get (D := D) (ci := 4) (v := .ref (A 4)) (C := R_Ke) (T := T_Ke) (N := 5) hx hb hts wu_Ke hown hK hP 0 rfl rfl 3 (by decide) (hts _ wf_Ke_28) (fun _ h9 => h9) rfl d_Ke_object_88 ?_
    refine lv_iload_n hx hb d_Ke_object_91 rfl (lv_at hl 1 rfl) ?_
    obtain ⟨v6, e9, h⟩ := zo_b h
    refine ka_i (va_runV (As := [.int x1]) (rest := []) S9 (c_Tg_useOf l hl9 D A r _ σ x1 _ e9) (cwV 1 hts (tg_V wl_Ke_148 wm_Tg_useOf we_Tg_useOf wi_Tg wo_Tg_useOf) rfl rfl rfl wq_Tg_useOf ⟨Nat.le_of_ble_eq_true rfl, Nat.le_of_ble_eq_true rfl⟩) (ka_preV X9 hP hD hS 4 rfl rfl) rfl rfl hl.1 rfl (lv_room (Nat.le_of_ble_eq_true rfl)) d_Ke_object_92 ⟨Nat.le_of_ble_eq_true rfl, Nat.le_of_ble_eq_true rfl⟩) X9 hD hS rfl (fun H locs hP hD hS => ?_)
    cases h
    exact W.iret hx hb hr (fun t ht hW => ⟨⟨_, (), rfl, rfl, ka_at ht hP⟩, hS.F ht⟩) hS.2.2 d_Ke_object_95 hlk
  replace h := zo_f c9_3 h
  by_cases c9_4 : x2 = 4
  · replace h := zo_t c9_4 h
    refine ka_tabIn (tgt := 96) (off := 74) hx hb d_Ke_object_22 c9_4 (by decide) (by decide) (by decide) (by decide) ?_
    refine lv_aload_n hx hb d_Ke_object_96 rfl (lv_at hl 0 rfl) ?_
    refine va_get (D := D) (ci := 4) (v := .ref (A 4)) (C := R_Ke) (T := T_Ke) (N := 5) hx hb hts wu_Ke hown hK hP 0 rfl rfl 3 (by decide) (hts _ wf_Ke_28) (fun _ h9 => h9) rfl d_Ke_object_97 ?_
    refine lv_iload_n hx hb d_Ke_object_100 rfl (lv_at hl 1 rfl) ?_
    obtain ⟨v7, e9, h⟩ := zo_b h
    refine ka_i (va_runV (As := [.int x1]) (rest := []) S9 (c_Tg_placeOf l hl9 D A r _ σ x1 _ e9) (cwV 1 hts (tg_V wl_Ke_254 wm_Tg_placeOf we_Tg_placeOf wi_Tg wo_Tg_placeOf) rfl rfl rfl wq_Tg_placeOf ⟨Nat.le_of_ble_eq_true rfl, Nat.le_of_ble_eq_true rfl⟩) (ka_preV X9 hP hD hS 4 rfl rfl) rfl rfl hl.1 rfl (lv_room (Nat.le_of_ble_eq_true rfl)) d_Ke_object_101 ⟨Nat.le_of_ble_eq_true rfl, Nat.le_of_ble_eq_true rfl⟩) X9 hD hS rfl (fun H locs hP hD hS => ?_)
    cases h
    exact W.iret hx hb hr (fun t ht hW => ⟨⟨_, (), rfl, rfl, ka_at ht hP⟩, hS.F ht⟩) hS.2.2 d_Ke_object_104 hlk
  replace h := zo_f c9_4 h
  by_cases c9_5 : x2 = 5
  · replace h := zo_t c9_5 h
    refine ka_tabIn (tgt := 105) (off := 83) hx hb d_Ke_object_22 c9_5 (by decide) (by decide) (by decide) (by decide) ?_
    refine lv_aload_n hx hb d_Ke_object_105 rfl (lv_at hl 0 rfl) ?_
    refine va_get (D := D) (ci := 4) (v := .ref (A 4)) (C := R_Ke) (T := T_Ke) (N := 5) hx hb hts wu_Ke hown hK hP 0 rfl rfl 3 (by decide) (hts _ wf_Ke_28) (fun _ h9 => h9) rfl d_Ke_object_106 ?_
    refine lv_iload_n hx hb d_Ke_object_109 rfl (lv_at hl 1 rfl) ?_
    obtain ⟨v8, e9, h⟩ := zo_b h
    refine ka_i (va_runV (As := [.int x1]) (rest := []) S9 (c_Tg_clearanceOf l hl9 D A r _ σ x1 _ e9) (cwV 1 hts (tg_V wl_Ke_90 wm_Tg_clearanceOf we_Tg_clearanceOf wi_Tg wo_Tg_clearanceOf) rfl rfl rfl wq_Tg_clearanceOf ⟨Nat.le_of_ble_eq_true rfl, Nat.le_of_ble_eq_true rfl⟩) (ka_preV X9 hP hD hS 4 rfl rfl) rfl rfl hl.1 rfl (lv_room (Nat.le_of_ble_eq_true rfl)) d_Ke_object_110 ⟨Nat.le_of_ble_eq_true rfl, Nat.le_of_ble_eq_true rfl⟩) X9 hD hS rfl (fun H locs hP hD hS => ?_)
    cases h
    exact W.iret hx hb hr (fun t ht hW => ⟨⟨_, (), rfl, rfl, ka_at ht hP⟩, hS.F ht⟩) hS.2.2 d_Ke_object_113 hlk
  replace h := zo_f c9_5 h
  refine lv_tableOut (tgt := 114) hx hb d_Ke_object_22 (by have q0 := lv_neT c9_0 (a := 0) (by decide); have q1 := lv_neT c9_1 (a := 1) (by decide); have q2 := lv_neT c9_2 (a := 2) (by decide); have q3 := lv_neT c9_3 (a := 3) (by decide); have q4 := lv_neT c9_4 (a := 4) (by decide); have q5 := lv_neT c9_5 (a := 5) (by decide); omega) (by decide) ?_
  refine lv_aload_n hx hb d_Ke_object_114 rfl (lv_at hl 0 rfl) ?_
  refine va_get (D := D) (ci := 4) (v := .ref (A 4)) (C := R_Ke) (T := T_Ke) (N := 5) hx hb hts wu_Ke hown hK hP 0 rfl rfl 3 (by decide) (hts _ wf_Ke_28) (fun _ h9 => h9) rfl d_Ke_object_115 ?_
  refine lv_iload_n hx hb d_Ke_object_118 rfl (lv_at hl 1 rfl) ?_
  obtain ⟨v9, e9, h⟩ := zo_b h
  refine ka_i (va_runV (As := [.int x1]) (rest := []) S9 (c_Tg_cellCountOf l hl9 D A r _ σ x1 _ e9) (cwV 1 hts (tg_V wl_Ke_257 wm_Tg_cellCountOf we_Tg_cellCountOf wi_Tg wo_Tg_cellCountOf) rfl rfl rfl wq_Tg_cellCountOf ⟨Nat.le_of_ble_eq_true rfl, Nat.le_of_ble_eq_true rfl⟩) (ka_preV X9 hP hD hS 4 rfl rfl) rfl rfl hl.1 rfl (lv_room (Nat.le_of_ble_eq_true rfl)) d_Ke_object_119 ⟨Nat.le_of_ble_eq_true rfl, Nat.le_of_ble_eq_true rfl⟩) X9 hD hS rfl (fun H locs hP hD hS => ?_)
  cases h
  exact W.iret hx hb hr (fun t ht hW => ⟨⟨_, (), rfl, rfl, ka_at ht hP⟩, hS.F ht⟩) hS.2.2 d_Ke_object_122 hlk
set_option maxRecDepth 100000 in
set_option maxHeartbeats 4000000 in
theorem c_Ke_object_err (l : Launch) (hl9 : l.stackTraces = false) (D : va_G) (A : Nat → Nat) (r : va_W) (sz : Nat) (σ : KS) (x1 x2 : Int32) (k9 : Nat) (z : KS) (h : f_Ke_object σ x1 x2 = some (.error k9, z)) : vx_Met l y_Ke_object (Cond.code y_Ke_object b_Ke_object 3 (some .int) :: T0) ({ frames := 7, cells := 1, slots := 6, locals := 101 } : Room) (va_Pc [.ref (A 0), .int x1, .int x2] (ka_Wd D A (GW A σ r) sz)) ka_No (ka_Xe D k9 (GW A z r) (va_A (GW A σ r) sz)) 1 6 (va_A (GW A σ r) sz) := by
  unfold f_Ke_object at h
  refine ka_ofX (own := R_Ke) (fun A9 => ka_Xe D k9 (GW A z r) A9) (by decide) rfl (Nat.le_of_ble_eq_true rfl) ?_
  intro p e s m below meth c A9 ls S9 hr hlk hex X9 hP hD hl
  obtain ⟨hx, hb, hml, hown, hts⟩ := id S9
  have hK := X9.2.1
  have hS : va_S A9 s.heap s.heap [] := va_S.rf
  replace hl : lv_has ls 3 [(0, .ref (A 0)), (1, .int x1), (2, .int x2)] := hl
  refine lv_iload_n hx hb d_Ke_object_0 rfl (lv_at hl 2 rfl) ?_
  refine lv_iconst (v := 0) hx hb d_Ke_object_1 (by decide) ?_
  refine lv_bipush (v := 6) hx hb d_Ke_object_2 (by decide) ?_
  obtain ⟨v1, e9, h⟩ := zo_b h
  refine ka_i (va_runS (As := [.int x2, .int 0, .int 6]) (rest := []) S9 (c_Ke_isBetween l hl9 D A (GW A σ r) _ x2 0 6 _ e9) (cwS 3 hts (tg_S wl_Ke_40 ws_Ke_isBetween wi_Ke wo_Ke_isBetween) rfl rfl rfl wq_Ke_isBetween ⟨Nat.le_of_ble_eq_true rfl, Nat.le_of_ble_eq_true rfl⟩) (ka_preS X9 hP hD hS) rfl rfl hl.1 rfl (lv_room (Nat.le_of_ble_eq_true rfl)) d_Ke_object_4 ⟨Nat.le_of_ble_eq_true rfl, Nat.le_of_ble_eq_true rfl⟩) X9 hD hS rfl (fun H locs hP hD hS => ?_)
  rcases zo_n h with ⟨c9, h⟩ | ⟨c9, h⟩
  · obtain ⟨rfl, rfl⟩ := zo_e h
    exact ka_err (vx_runS (As := [.int v1]) (rest := []) S9 (c_Ke_needNumber_err l hl9 D A (GW A σ r) _ v1 c9) (cwS 1 hts (tg_S wl_Ke_44 ws_Ke_needNumber wi_Ke wo_Ke_needNumber) rfl rfl rfl wq_Ke_needNumber ⟨Nat.le_of_ble_eq_true rfl, Nat.le_of_ble_eq_true rfl⟩) (ka_preS X9 hP hD hS) rfl rfl hl.1 rfl (lv_room (Nat.le_of_ble_eq_true rfl)) d_Ke_object_7 ⟨Nat.le_of_ble_eq_true rfl, Nat.le_of_ble_eq_true rfl⟩) hlk hex X9 hD hS (Nat.le_of_ble_eq_true rfl) (Nat.le_of_ble_eq_true rfl)
  refine ka_v (va_runS (As := [.int v1]) (rest := []) S9 (c_Ke_needNumber_ok l hl9 D A (GW A σ r) _ v1 c9) (cwS 1 hts (tg_S wl_Ke_44 ws_Ke_needNumber wi_Ke wo_Ke_needNumber) rfl rfl rfl wq_Ke_needNumber ⟨Nat.le_of_ble_eq_true rfl, Nat.le_of_ble_eq_true rfl⟩) (ka_preS X9 hP hD hS) rfl rfl hl.1 rfl (lv_room (Nat.le_of_ble_eq_true rfl)) d_Ke_object_7 ⟨Nat.le_of_ble_eq_true rfl, Nat.le_of_ble_eq_true rfl⟩) X9 hD hS rfl (fun H locs hP hD hS => ?_)
  refine lv_aload_n hx hb d_Ke_object_10 rfl (lv_at hl 0 rfl) ?_
  refine va_get (D := D) (ci := 4) (v := .ref (A 4)) (C := R_Ke) (T := T_Ke) (N := 5) hx hb hts wu_Ke hown hK hP 0 rfl rfl 3 (by decide) (hts _ wf_Ke_28) (fun _ h9 => h9) rfl d_Ke_object_11 ?_
  refine lv_iload_n hx hb d_Ke_object_14 rfl (lv_at hl 1 rfl) ?_
  obtain ⟨v2, e9, h⟩ := zo_b h
  refine ka_i (va_runV (As := [.int x1]) (rest := []) S9 (c_Tg_isThere l hl9 D A r _ σ x1 _ e9) (cwV 1 hts (tg_V wl_Ke_250 wm_Tg_isThere we_Tg_isThere wi_Tg wo_Tg_isThere) rfl rfl rfl wq_Tg_isThere ⟨Nat.le_of_ble_eq_true rfl, Nat.le_of_ble_eq_true rfl⟩) (ka_preV X9 hP hD hS 4 rfl rfl) rfl rfl hl.1 rfl (lv_room (Nat.le_of_ble_eq_true rfl)) d_Ke_object_15 ⟨Nat.le_of_ble_eq_true rfl, Nat.le_of_ble_eq_true rfl⟩) X9 hD hS rfl (fun H locs hP hD hS => ?_)
  rcases zo_n h with ⟨c9, h⟩ | ⟨c9, h⟩
  · obtain ⟨rfl, rfl⟩ := zo_e h
    exact ka_err (vx_runS (As := [.int v2]) (rest := []) S9 (c_Ke_needFound_err l hl9 D A (GW A σ r) _ v2 c9) (cwS 1 hts (tg_S wl_Ke_169 ws_Ke_needFound wi_Ke wo_Ke_needFound) rfl rfl rfl wq_Ke_needFound ⟨Nat.le_of_ble_eq_true rfl, Nat.le_of_ble_eq_true rfl⟩) (ka_preS X9 hP hD hS) rfl rfl hl.1 rfl (lv_room (Nat.le_of_ble_eq_true rfl)) d_Ke_object_18 ⟨Nat.le_of_ble_eq_true rfl, Nat.le_of_ble_eq_true rfl⟩) hlk hex X9 hD hS (Nat.le_of_ble_eq_true rfl) (Nat.le_of_ble_eq_true rfl)
  refine ka_v (va_runS (As := [.int v2]) (rest := []) S9 (c_Ke_needFound_ok l hl9 D A (GW A σ r) _ v2 c9) (cwS 1 hts (tg_S wl_Ke_169 ws_Ke_needFound wi_Ke wo_Ke_needFound) rfl rfl rfl wq_Ke_needFound ⟨Nat.le_of_ble_eq_true rfl, Nat.le_of_ble_eq_true rfl⟩) (ka_preS X9 hP hD hS) rfl rfl hl.1 rfl (lv_room (Nat.le_of_ble_eq_true rfl)) d_Ke_object_18 ⟨Nat.le_of_ble_eq_true rfl, Nat.le_of_ble_eq_true rfl⟩) X9 hD hS rfl (fun H locs hP hD hS => ?_)
  refine lv_iload_n hx hb d_Ke_object_21 rfl (lv_at hl 2 rfl) ?_
  by_cases c9_0 : x2 = 0
  · replace h := zo_t c9_0 h
    refine ka_tabIn (tgt := 60) (off := 38) hx hb d_Ke_object_22 c9_0 (by decide) (by decide) (by decide) (by decide) ?_
    refine lv_aload_n hx hb d_Ke_object_60 rfl (lv_at hl 0 rfl) ?_
    refine va_get (D := D) (ci := 4) (v := .ref (A 4)) (C := R_Ke) (T := T_Ke) (N := 5) hx hb hts wu_Ke hown hK hP 0 rfl rfl 3 (by decide) (hts _ wf_Ke_28) (fun _ h9 => h9) rfl d_Ke_object_61 ?_
    refine lv_iload_n hx hb d_Ke_object_64 rfl (lv_at hl 1 rfl) ?_
    obtain ⟨v3, e9, h⟩ := zo_b h
    refine ka_i (va_runV (As := [.int x1]) (rest := []) S9 (c_Tg_kindOf l hl9 D A r _ σ x1 _ e9) (cwV 1 hts (tg_V wl_Ke_251 wm_Tg_kindOf we_Tg_kindOf wi_Tg wo_Tg_kindOf) rfl rfl rfl wq_Tg_kindOf ⟨Nat.le_of_ble_eq_true rfl, Nat.le_of_ble_eq_true rfl⟩) (ka_preV X9 hP hD hS 4 rfl rfl) rfl rfl hl.1 rfl (lv_room (Nat.le_of_ble_eq_true rfl)) d_Ke_object_65 ⟨Nat.le_of_ble_eq_true rfl, Nat.le_of_ble_eq_true rfl⟩) X9 hD hS rfl (fun H locs hP hD hS => ?_)
    cases h
  replace h := zo_f c9_0 h
  by_cases c9_1 : x2 = 1
  · replace h := zo_t c9_1 h
    refine ka_tabIn (tgt := 69) (off := 47) hx hb d_Ke_object_22 c9_1 (by decide) (by decide) (by decide) (by decide) ?_
    refine lv_aload_n hx hb d_Ke_object_69 rfl (lv_at hl 0 rfl) ?_
    refine va_get (D := D) (ci := 4) (v := .ref (A 4)) (C := R_Ke) (T := T_Ke) (N := 5) hx hb hts wu_Ke hown hK hP 0 rfl rfl 3 (by decide) (hts _ wf_Ke_28) (fun _ h9 => h9) rfl d_Ke_object_70 ?_
    refine lv_iload_n hx hb d_Ke_object_73 rfl (lv_at hl 1 rfl) ?_
    obtain ⟨v4, e9, h⟩ := zo_b h
    refine ka_i (va_runV (As := [.int x1]) (rest := []) S9 (c_Tg_labelOf l hl9 D A r _ σ x1 _ e9) (cwV 1 hts (tg_V wl_Ke_85 wm_Tg_labelOf we_Tg_labelOf wi_Tg wo_Tg_labelOf) rfl rfl rfl wq_Tg_labelOf ⟨Nat.le_of_ble_eq_true rfl, Nat.le_of_ble_eq_true rfl⟩) (ka_preV X9 hP hD hS 4 rfl rfl) rfl rfl hl.1 rfl (lv_room (Nat.le_of_ble_eq_true rfl)) d_Ke_object_74 ⟨Nat.le_of_ble_eq_true rfl, Nat.le_of_ble_eq_true rfl⟩) X9 hD hS rfl (fun H locs hP hD hS => ?_)
    cases h
  replace h := zo_f c9_1 h
  by_cases c9_2 : x2 = 2
  · replace h := zo_t c9_2 h
    refine ka_tabIn (tgt := 78) (off := 56) hx hb d_Ke_object_22 c9_2 (by decide) (by decide) (by decide) (by decide) ?_
    refine lv_aload_n hx hb d_Ke_object_78 rfl (lv_at hl 0 rfl) ?_
    refine va_get (D := D) (ci := 4) (v := .ref (A 4)) (C := R_Ke) (T := T_Ke) (N := 5) hx hb hts wu_Ke hown hK hP 0 rfl rfl 3 (by decide) (hts _ wf_Ke_28) (fun _ h9 => h9) rfl d_Ke_object_79 ?_
    refine lv_iload_n hx hb d_Ke_object_82 rfl (lv_at hl 1 rfl) ?_
    obtain ⟨v5, e9, h⟩ := zo_b h
    refine ka_i (va_runV (As := [.int x1]) (rest := []) S9 (c_Tg_quotaOf l hl9 D A r _ σ x1 _ e9) (cwV 1 hts (tg_V wl_Ke_145 wm_Tg_quotaOf we_Tg_quotaOf wi_Tg wo_Tg_quotaOf) rfl rfl rfl wq_Tg_quotaOf ⟨Nat.le_of_ble_eq_true rfl, Nat.le_of_ble_eq_true rfl⟩) (ka_preV X9 hP hD hS 4 rfl rfl) rfl rfl hl.1 rfl (lv_room (Nat.le_of_ble_eq_true rfl)) d_Ke_object_83 ⟨Nat.le_of_ble_eq_true rfl, Nat.le_of_ble_eq_true rfl⟩) X9 hD hS rfl (fun H locs hP hD hS => ?_)
    cases h
  replace h := zo_f c9_2 h
  by_cases c9_3 : x2 = 3
  · replace h := zo_t c9_3 h
    refine ka_tabIn (tgt := 87) (off := 65) hx hb d_Ke_object_22 c9_3 (by decide) (by decide) (by decide) (by decide) ?_
    refine lv_aload_n hx hb d_Ke_object_87 rfl (lv_at hl 0 rfl) ?_
    refine va_get (D := D) (ci := 4) (v := .ref (A 4)) (C := R_Ke) (T := T_Ke) (N := 5) hx hb hts wu_Ke hown hK hP 0 rfl rfl 3 (by decide) (hts _ wf_Ke_28) (fun _ h9 => h9) rfl d_Ke_object_88 ?_
    refine lv_iload_n hx hb d_Ke_object_91 rfl (lv_at hl 1 rfl) ?_
    obtain ⟨v6, e9, h⟩ := zo_b h
    refine ka_i (va_runV (As := [.int x1]) (rest := []) S9 (c_Tg_useOf l hl9 D A r _ σ x1 _ e9) (cwV 1 hts (tg_V wl_Ke_148 wm_Tg_useOf we_Tg_useOf wi_Tg wo_Tg_useOf) rfl rfl rfl wq_Tg_useOf ⟨Nat.le_of_ble_eq_true rfl, Nat.le_of_ble_eq_true rfl⟩) (ka_preV X9 hP hD hS 4 rfl rfl) rfl rfl hl.1 rfl (lv_room (Nat.le_of_ble_eq_true rfl)) d_Ke_object_92 ⟨Nat.le_of_ble_eq_true rfl, Nat.le_of_ble_eq_true rfl⟩) X9 hD hS rfl (fun H locs hP hD hS => ?_)
    cases h
  replace h := zo_f c9_3 h
  by_cases c9_4 : x2 = 4
  · replace h := zo_t c9_4 h
    refine ka_tabIn (tgt := 96) (off := 74) hx hb d_Ke_object_22 c9_4 (by decide) (by decide) (by decide) (by decide) ?_
    refine lv_aload_n hx hb d_Ke_object_96 rfl (lv_at hl 0 rfl) ?_
    refine va_get (D := D) (ci := 4) (v := .ref (A 4)) (C := R_Ke) (T := T_Ke) (N := 5) hx hb hts wu_Ke hown hK hP 0 rfl rfl 3 (by decide) (hts _ wf_Ke_28) (fun _ h9 => h9) rfl d_Ke_object_97 ?_
    refine lv_iload_n hx hb d_Ke_object_100 rfl (lv_at hl 1 rfl) ?_
    obtain ⟨v7, e9, h⟩ := zo_b h
    refine ka_i (va_runV (As := [.int x1]) (rest := []) S9 (c_Tg_placeOf l hl9 D A r _ σ x1 _ e9) (cwV 1 hts (tg_V wl_Ke_254 wm_Tg_placeOf we_Tg_placeOf wi_Tg wo_Tg_placeOf) rfl rfl rfl wq_Tg_placeOf ⟨Nat.le_of_ble_eq_true rfl, Nat.le_of_ble_eq_true rfl⟩) (ka_preV X9 hP hD hS 4 rfl rfl) rfl rfl hl.1 rfl (lv_room (Nat.le_of_ble_eq_true rfl)) d_Ke_object_101 ⟨Nat.le_of_ble_eq_true rfl, Nat.le_of_ble_eq_true rfl⟩) X9 hD hS rfl (fun H locs hP hD hS => ?_)
    cases h
  replace h := zo_f c9_4 h
  by_cases c9_5 : x2 = 5
  · replace h := zo_t c9_5 h
    refine ka_tabIn (tgt := 105) (off := 83) hx hb d_Ke_object_22 c9_5 (by decide) (by decide) (by decide) (by decide) ?_
    refine lv_aload_n hx hb d_Ke_object_105 rfl (lv_at hl 0 rfl) ?_
    refine va_get (D := D) (ci := 4) (v := .ref (A 4)) (C := R_Ke) (T := T_Ke) (N := 5) hx hb hts wu_Ke hown hK hP 0 rfl rfl 3 (by decide) (hts _ wf_Ke_28) (fun _ h9 => h9) rfl d_Ke_object_106 ?_
    refine lv_iload_n hx hb d_Ke_object_109 rfl (lv_at hl 1 rfl) ?_
    obtain ⟨v8, e9, h⟩ := zo_b h
    refine ka_i (va_runV (As := [.int x1]) (rest := []) S9 (c_Tg_clearanceOf l hl9 D A r _ σ x1 _ e9) (cwV 1 hts (tg_V wl_Ke_90 wm_Tg_clearanceOf we_Tg_clearanceOf wi_Tg wo_Tg_clearanceOf) rfl rfl rfl wq_Tg_clearanceOf ⟨Nat.le_of_ble_eq_true rfl, Nat.le_of_ble_eq_true rfl⟩) (ka_preV X9 hP hD hS 4 rfl rfl) rfl rfl hl.1 rfl (lv_room (Nat.le_of_ble_eq_true rfl)) d_Ke_object_110 ⟨Nat.le_of_ble_eq_true rfl, Nat.le_of_ble_eq_true rfl⟩) X9 hD hS rfl (fun H locs hP hD hS => ?_)
    cases h
  replace h := zo_f c9_5 h
  refine lv_tableOut (tgt := 114) hx hb d_Ke_object_22 (by have q0 := lv_neT c9_0 (a := 0) (by decide); have q1 := lv_neT c9_1 (a := 1) (by decide); have q2 := lv_neT c9_2 (a := 2) (by decide); have q3 := lv_neT c9_3 (a := 3) (by decide); have q4 := lv_neT c9_4 (a := 4) (by decide); have q5 := lv_neT c9_5 (a := 5) (by decide); omega) (by decide) ?_
  refine lv_aload_n hx hb d_Ke_object_114 rfl (lv_at hl 0 rfl) ?_
  refine va_get (D := D) (ci := 4) (v := .ref (A 4)) (C := R_Ke) (T := T_Ke) (N := 5) hx hb hts wu_Ke hown hK hP 0 rfl rfl 3 (by decide) (hts _ wf_Ke_28) (fun _ h9 => h9) rfl d_Ke_object_115 ?_
  refine lv_iload_n hx hb d_Ke_object_118 rfl (lv_at hl 1 rfl) ?_
  obtain ⟨v9, e9, h⟩ := zo_b h
  refine ka_i (va_runV (As := [.int x1]) (rest := []) S9 (c_Tg_cellCountOf l hl9 D A r _ σ x1 _ e9) (cwV 1 hts (tg_V wl_Ke_257 wm_Tg_cellCountOf we_Tg_cellCountOf wi_Tg wo_Tg_cellCountOf) rfl rfl rfl wq_Tg_cellCountOf ⟨Nat.le_of_ble_eq_true rfl, Nat.le_of_ble_eq_true rfl⟩) (ka_preV X9 hP hD hS 4 rfl rfl) rfl rfl hl.1 rfl (lv_room (Nat.le_of_ble_eq_true rfl)) d_Ke_object_119 ⟨Nat.le_of_ble_eq_true rfl, Nat.le_of_ble_eq_true rfl⟩) X9 hD hS rfl (fun H locs hP hD hS => ?_)
  cases h
def f_Ke_in (σ : KS) (x1 x2 : Int32) : Option (Except Nat Int32 × KS) := (f_Tg_isThere σ x1).bind fun v1 => if v1 = 0 then some (.error 2, σ) else (f_Tg_isOfKind σ x1 0).bind fun v2 => if v2 = 0 then some (.error 1, σ) else (f_Tg_nthIn σ x1 x2).bind fun v3 => if v3 = 0 then (some (.error 2, σ)) else (some (.ok v3, σ))
set_option maxRecDepth 100000 in
set_option maxHeartbeats 4000000 in
theorem c_Ke_in_ok (l : Launch) (hl9 : l.stackTraces = false) (D : va_G) (A : Nat → Nat) (r : va_W) (sz : Nat) (σ : KS) (x1 x2 : Int32) (z9 : Int32) (z : KS) (h : f_Ke_in σ x1 x2 = some (.ok z9, z)) : Met l y_Ke_in (Cond.code y_Ke_in b_Ke_in 4 (some .int) :: T0) ({ frames := 2, cells := 0, slots := 0, locals := 46 } : Room) (va_Pc [.ref (A 0), .int x1, .int x2] (ka_Wd D A (GW A σ r) sz)) (ka_Ri D z9 (GW A z r) (va_A (GW A σ r) sz)) 0 0 (va_A (GW A σ r) sz) := by
  unfold f_Ke_in at h
  refine ka_of (own := R_Ke) (fun A9 => ka_Ri D z9 (GW A z r) A9) (by decide) rfl (Nat.le_of_ble_eq_true rfl) ?_
  intro p e s m below meth c A9 ls S9 hr hlk hex X9 hP hD hl
  obtain ⟨hx, hb, hml, hown, hts⟩ := id S9
  have hK := X9.2.1
  have hS : va_S A9 s.heap s.heap [] := va_S.rf
  replace hl : lv_has ls 4 [(0, .ref (A 0)), (1, .int x1), (2, .int x2)] := hl
  refine lv_aload_n hx hb d_Ke_in_0 rfl (lv_at hl 0 rfl) ?_
  refine va_get (D := D) (ci := 4) (v := .ref (A 4)) (C := R_Ke) (T := T_Ke) (N := 5) hx hb hts wu_Ke hown hK hP 0 rfl rfl 3 (by decide) (hts _ wf_Ke_28) (fun _ h9 => h9) rfl d_Ke_in_1 ?_
  refine lv_iload_n hx hb d_Ke_in_4 rfl (lv_at hl 1 rfl) ?_
  obtain ⟨v1, e9, h⟩ := zo_b h
  refine ka_i (va_runV (As := [.int x1]) (rest := []) S9 (c_Tg_isThere l hl9 D A r _ σ x1 _ e9) (cwV 1 hts (tg_V wl_Ke_250 wm_Tg_isThere we_Tg_isThere wi_Tg wo_Tg_isThere) rfl rfl rfl wq_Tg_isThere ⟨Nat.le_of_ble_eq_true rfl, Nat.le_of_ble_eq_true rfl⟩) (ka_preV X9 hP hD hS 4 rfl rfl) rfl rfl hl.1 rfl (lv_room (Nat.le_of_ble_eq_true rfl)) d_Ke_in_5 ⟨Nat.le_of_ble_eq_true rfl, Nat.le_of_ble_eq_true rfl⟩) X9 hD hS rfl (fun H locs hP hD hS => ?_)
  rcases zo_n h with ⟨c9, h⟩ | ⟨c9, h⟩
  · cases h
  refine ka_v (va_runS (As := [.int v1]) (rest := []) S9 (c_Ke_needFound_ok l hl9 D A (GW A σ r) _ v1 c9) (cwS 1 hts (tg_S wl_Ke_169 ws_Ke_needFound wi_Ke wo_Ke_needFound) rfl rfl rfl wq_Ke_needFound ⟨Nat.le_of_ble_eq_true rfl, Nat.le_of_ble_eq_true rfl⟩) (ka_preS X9 hP hD hS) rfl rfl hl.1 rfl (lv_room (Nat.le_of_ble_eq_true rfl)) d_Ke_in_8 ⟨Nat.le_of_ble_eq_true rfl, Nat.le_of_ble_eq_true rfl⟩) X9 hD hS rfl (fun H locs hP hD hS => ?_)
  refine lv_aload_n hx hb d_Ke_in_11 rfl (lv_at hl 0 rfl) ?_
  refine va_get (D := D) (ci := 4) (v := .ref (A 4)) (C := R_Ke) (T := T_Ke) (N := 5) hx hb hts wu_Ke hown hK hP 0 rfl rfl 3 (by decide) (hts _ wf_Ke_28) (fun _ h9 => h9) rfl d_Ke_in_12 ?_
  refine lv_iload_n hx hb d_Ke_in_15 rfl (lv_at hl 1 rfl) ?_
  refine lv_iconst (v := 0) hx hb d_Ke_in_16 (by decide) ?_
  obtain ⟨v2, e9, h⟩ := zo_b h
  refine ka_i (va_runV (As := [.int x1, .int 0]) (rest := []) S9 (c_Tg_isOfKind l hl9 D A r _ σ x1 0 _ e9) (cwV 2 hts (tg_V wl_Ke_163 wm_Tg_isOfKind we_Tg_isOfKind wi_Tg wo_Tg_isOfKind) rfl rfl rfl wq_Tg_isOfKind ⟨Nat.le_of_ble_eq_true rfl, Nat.le_of_ble_eq_true rfl⟩) (ka_preV X9 hP hD hS 4 rfl rfl) rfl rfl hl.1 rfl (lv_room (Nat.le_of_ble_eq_true rfl)) d_Ke_in_17 ⟨Nat.le_of_ble_eq_true rfl, Nat.le_of_ble_eq_true rfl⟩) X9 hD hS rfl (fun H locs hP hD hS => ?_)
  rcases zo_n h with ⟨c9, h⟩ | ⟨c9, h⟩
  · cases h
  refine ka_v (va_runS (As := [.int v2]) (rest := []) S9 (c_Ke_needNumber_ok l hl9 D A (GW A σ r) _ v2 c9) (cwS 1 hts (tg_S wl_Ke_44 ws_Ke_needNumber wi_Ke wo_Ke_needNumber) rfl rfl rfl wq_Ke_needNumber ⟨Nat.le_of_ble_eq_true rfl, Nat.le_of_ble_eq_true rfl⟩) (ka_preS X9 hP hD hS) rfl rfl hl.1 rfl (lv_room (Nat.le_of_ble_eq_true rfl)) d_Ke_in_20 ⟨Nat.le_of_ble_eq_true rfl, Nat.le_of_ble_eq_true rfl⟩) X9 hD hS rfl (fun H locs hP hD hS => ?_)
  refine lv_aload_n hx hb d_Ke_in_23 rfl (lv_at hl 0 rfl) ?_
  refine va_get (D := D) (ci := 4) (v := .ref (A 4)) (C := R_Ke) (T := T_Ke) (N := 5) hx hb hts wu_Ke hown hK hP 0 rfl rfl 3 (by decide) (hts _ wf_Ke_28) (fun _ h9 => h9) rfl d_Ke_in_24 ?_
  refine lv_iload_n hx hb d_Ke_in_27 rfl (lv_at hl 1 rfl) ?_
  refine lv_iload_n hx hb d_Ke_in_28 rfl (lv_at hl 2 rfl) ?_
  obtain ⟨v3, e9, h⟩ := zo_b h
  refine ka_i (va_runV (As := [.int x1, .int x2]) (rest := []) S9 (c_Tg_nthIn l hl9 D A r _ σ x1 x2 _ e9) (cwV 2 hts (tg_V wl_Ke_260 wm_Tg_nthIn we_Tg_nthIn wi_Tg wo_Tg_nthIn) rfl rfl rfl wq_Tg_nthIn ⟨Nat.le_of_ble_eq_true rfl, Nat.le_of_ble_eq_true rfl⟩) (ka_preV X9 hP hD hS 4 rfl rfl) rfl rfl hl.1 rfl (lv_room (Nat.le_of_ble_eq_true rfl)) d_Ke_in_29 ⟨Nat.le_of_ble_eq_true rfl, Nat.le_of_ble_eq_true rfl⟩) X9 hD hS rfl (fun H locs hP hD hS => ?_)
  refine lv_istore_n (lv' := [(3, .int v3), (0, .ref (A 0)), (1, .int x1), (2, .int x2)]) hx hb d_Ke_in_32 rfl hl (by decide) rfl (fun ls hl => ?_)
  refine lv_iload_n hx hb d_Ke_in_33 rfl (lv_at hl 0 rfl) ?_
  refine lv_if_eq (tgt := 41) hx hb d_Ke_in_34 (by decide) (fun c4 => ?_) (fun c4 => ?_)
  · replace h := zo_t c4 h
    refine lv_iconst (v := 0) hx hb d_Ke_in_41 (by decide) ?_
    cases h
  replace h := zo_f c4 h
  refine lv_iconst (v := 1) hx hb d_Ke_in_37 (by decide) ?_
  refine lv_goto (tgt := 42) hx hb d_Ke_in_38 (by decide) ?_
  refine ka_v (va_runS (As := [.int 1]) (rest := []) S9 (c_Ke_needFound_ok l hl9 D A (GW A σ r) _ 1 (by decide)) (cwS 1 hts (tg_S wl_Ke_169 ws_Ke_needFound wi_Ke wo_Ke_needFound) rfl rfl rfl wq_Ke_needFound ⟨Nat.le_of_ble_eq_true rfl, Nat.le_of_ble_eq_true rfl⟩) (ka_preS X9 hP hD hS) rfl rfl hl.1 rfl (lv_room (Nat.le_of_ble_eq_true rfl)) d_Ke_in_42 ⟨Nat.le_of_ble_eq_true rfl, Nat.le_of_ble_eq_true rfl⟩) X9 hD hS rfl (fun H locs hP hD hS => ?_)
  refine lv_iload_n hx hb d_Ke_in_45 rfl (lv_at hl 0 rfl) ?_
  cases h
  exact W.iret hx hb hr (fun t ht hW => ⟨⟨_, (), rfl, rfl, ka_at ht hP⟩, hS.F ht⟩) hS.2.2 d_Ke_in_46 hlk
set_option maxRecDepth 100000 in
set_option maxHeartbeats 4000000 in
theorem c_Ke_in_err (l : Launch) (hl9 : l.stackTraces = false) (D : va_G) (A : Nat → Nat) (r : va_W) (sz : Nat) (σ : KS) (x1 x2 : Int32) (k9 : Nat) (z : KS) (h : f_Ke_in σ x1 x2 = some (.error k9, z)) : vx_Met l y_Ke_in (Cond.code y_Ke_in b_Ke_in 4 (some .int) :: T0) ({ frames := 7, cells := 1, slots := 6, locals := 101 } : Room) (va_Pc [.ref (A 0), .int x1, .int x2] (ka_Wd D A (GW A σ r) sz)) ka_No (ka_Xe D k9 (GW A z r) (va_A (GW A σ r) sz)) 1 6 (va_A (GW A σ r) sz) := by
  unfold f_Ke_in at h
  refine ka_ofX (own := R_Ke) (fun A9 => ka_Xe D k9 (GW A z r) A9) (by decide) rfl (Nat.le_of_ble_eq_true rfl) ?_
  intro p e s m below meth c A9 ls S9 hr hlk hex X9 hP hD hl
  obtain ⟨hx, hb, hml, hown, hts⟩ := id S9
  have hK := X9.2.1
  have hS : va_S A9 s.heap s.heap [] := va_S.rf
  replace hl : lv_has ls 4 [(0, .ref (A 0)), (1, .int x1), (2, .int x2)] := hl
  refine lv_aload_n hx hb d_Ke_in_0 rfl (lv_at hl 0 rfl) ?_
  refine va_get (D := D) (ci := 4) (v := .ref (A 4)) (C := R_Ke) (T := T_Ke) (N := 5) hx hb hts wu_Ke hown hK hP 0 rfl rfl 3 (by decide) (hts _ wf_Ke_28) (fun _ h9 => h9) rfl d_Ke_in_1 ?_
  refine lv_iload_n hx hb d_Ke_in_4 rfl (lv_at hl 1 rfl) ?_
  obtain ⟨v1, e9, h⟩ := zo_b h
  refine ka_i (va_runV (As := [.int x1]) (rest := []) S9 (c_Tg_isThere l hl9 D A r _ σ x1 _ e9) (cwV 1 hts (tg_V wl_Ke_250 wm_Tg_isThere we_Tg_isThere wi_Tg wo_Tg_isThere) rfl rfl rfl wq_Tg_isThere ⟨Nat.le_of_ble_eq_true rfl, Nat.le_of_ble_eq_true rfl⟩) (ka_preV X9 hP hD hS 4 rfl rfl) rfl rfl hl.1 rfl (lv_room (Nat.le_of_ble_eq_true rfl)) d_Ke_in_5 ⟨Nat.le_of_ble_eq_true rfl, Nat.le_of_ble_eq_true rfl⟩) X9 hD hS rfl (fun H locs hP hD hS => ?_)
  rcases zo_n h with ⟨c9, h⟩ | ⟨c9, h⟩
  · obtain ⟨rfl, rfl⟩ := zo_e h
    exact ka_err (vx_runS (As := [.int v1]) (rest := []) S9 (c_Ke_needFound_err l hl9 D A (GW A σ r) _ v1 c9) (cwS 1 hts (tg_S wl_Ke_169 ws_Ke_needFound wi_Ke wo_Ke_needFound) rfl rfl rfl wq_Ke_needFound ⟨Nat.le_of_ble_eq_true rfl, Nat.le_of_ble_eq_true rfl⟩) (ka_preS X9 hP hD hS) rfl rfl hl.1 rfl (lv_room (Nat.le_of_ble_eq_true rfl)) d_Ke_in_8 ⟨Nat.le_of_ble_eq_true rfl, Nat.le_of_ble_eq_true rfl⟩) hlk hex X9 hD hS (Nat.le_of_ble_eq_true rfl) (Nat.le_of_ble_eq_true rfl)
  refine ka_v (va_runS (As := [.int v1]) (rest := []) S9 (c_Ke_needFound_ok l hl9 D A (GW A σ r) _ v1 c9) (cwS 1 hts (tg_S wl_Ke_169 ws_Ke_needFound wi_Ke wo_Ke_needFound) rfl rfl rfl wq_Ke_needFound ⟨Nat.le_of_ble_eq_true rfl, Nat.le_of_ble_eq_true rfl⟩) (ka_preS X9 hP hD hS) rfl rfl hl.1 rfl (lv_room (Nat.le_of_ble_eq_true rfl)) d_Ke_in_8 ⟨Nat.le_of_ble_eq_true rfl, Nat.le_of_ble_eq_true rfl⟩) X9 hD hS rfl (fun H locs hP hD hS => ?_)
  refine lv_aload_n hx hb d_Ke_in_11 rfl (lv_at hl 0 rfl) ?_
  refine va_get (D := D) (ci := 4) (v := .ref (A 4)) (C := R_Ke) (T := T_Ke) (N := 5) hx hb hts wu_Ke hown hK hP 0 rfl rfl 3 (by decide) (hts _ wf_Ke_28) (fun _ h9 => h9) rfl d_Ke_in_12 ?_
  refine lv_iload_n hx hb d_Ke_in_15 rfl (lv_at hl 1 rfl) ?_
  refine lv_iconst (v := 0) hx hb d_Ke_in_16 (by decide) ?_
  obtain ⟨v2, e9, h⟩ := zo_b h
  refine ka_i (va_runV (As := [.int x1, .int 0]) (rest := []) S9 (c_Tg_isOfKind l hl9 D A r _ σ x1 0 _ e9) (cwV 2 hts (tg_V wl_Ke_163 wm_Tg_isOfKind we_Tg_isOfKind wi_Tg wo_Tg_isOfKind) rfl rfl rfl wq_Tg_isOfKind ⟨Nat.le_of_ble_eq_true rfl, Nat.le_of_ble_eq_true rfl⟩) (ka_preV X9 hP hD hS 4 rfl rfl) rfl rfl hl.1 rfl (lv_room (Nat.le_of_ble_eq_true rfl)) d_Ke_in_17 ⟨Nat.le_of_ble_eq_true rfl, Nat.le_of_ble_eq_true rfl⟩) X9 hD hS rfl (fun H locs hP hD hS => ?_)
  rcases zo_n h with ⟨c9, h⟩ | ⟨c9, h⟩
  · obtain ⟨rfl, rfl⟩ := zo_e h
    exact ka_err (vx_runS (As := [.int v2]) (rest := []) S9 (c_Ke_needNumber_err l hl9 D A (GW A σ r) _ v2 c9) (cwS 1 hts (tg_S wl_Ke_44 ws_Ke_needNumber wi_Ke wo_Ke_needNumber) rfl rfl rfl wq_Ke_needNumber ⟨Nat.le_of_ble_eq_true rfl, Nat.le_of_ble_eq_true rfl⟩) (ka_preS X9 hP hD hS) rfl rfl hl.1 rfl (lv_room (Nat.le_of_ble_eq_true rfl)) d_Ke_in_20 ⟨Nat.le_of_ble_eq_true rfl, Nat.le_of_ble_eq_true rfl⟩) hlk hex X9 hD hS (Nat.le_of_ble_eq_true rfl) (Nat.le_of_ble_eq_true rfl)
  refine ka_v (va_runS (As := [.int v2]) (rest := []) S9 (c_Ke_needNumber_ok l hl9 D A (GW A σ r) _ v2 c9) (cwS 1 hts (tg_S wl_Ke_44 ws_Ke_needNumber wi_Ke wo_Ke_needNumber) rfl rfl rfl wq_Ke_needNumber ⟨Nat.le_of_ble_eq_true rfl, Nat.le_of_ble_eq_true rfl⟩) (ka_preS X9 hP hD hS) rfl rfl hl.1 rfl (lv_room (Nat.le_of_ble_eq_true rfl)) d_Ke_in_20 ⟨Nat.le_of_ble_eq_true rfl, Nat.le_of_ble_eq_true rfl⟩) X9 hD hS rfl (fun H locs hP hD hS => ?_)
  refine lv_aload_n hx hb d_Ke_in_23 rfl (lv_at hl 0 rfl) ?_
  refine va_get (D := D) (ci := 4) (v := .ref (A 4)) (C := R_Ke) (T := T_Ke) (N := 5) hx hb hts wu_Ke hown hK hP 0 rfl rfl 3 (by decide) (hts _ wf_Ke_28) (fun _ h9 => h9) rfl d_Ke_in_24 ?_
  refine lv_iload_n hx hb d_Ke_in_27 rfl (lv_at hl 1 rfl) ?_
  refine lv_iload_n hx hb d_Ke_in_28 rfl (lv_at hl 2 rfl) ?_
  obtain ⟨v3, e9, h⟩ := zo_b h
  refine ka_i (va_runV (As := [.int x1, .int x2]) (rest := []) S9 (c_Tg_nthIn l hl9 D A r _ σ x1 x2 _ e9) (cwV 2 hts (tg_V wl_Ke_260 wm_Tg_nthIn we_Tg_nthIn wi_Tg wo_Tg_nthIn) rfl rfl rfl wq_Tg_nthIn ⟨Nat.le_of_ble_eq_true rfl, Nat.le_of_ble_eq_true rfl⟩) (ka_preV X9 hP hD hS 4 rfl rfl) rfl rfl hl.1 rfl (lv_room (Nat.le_of_ble_eq_true rfl)) d_Ke_in_29 ⟨Nat.le_of_ble_eq_true rfl, Nat.le_of_ble_eq_true rfl⟩) X9 hD hS rfl (fun H locs hP hD hS => ?_)
  refine lv_istore_n (lv' := [(3, .int v3), (0, .ref (A 0)), (1, .int x1), (2, .int x2)]) hx hb d_Ke_in_32 rfl hl (by decide) rfl (fun ls hl => ?_)
  refine lv_iload_n hx hb d_Ke_in_33 rfl (lv_at hl 0 rfl) ?_
  refine lv_if_eq (tgt := 41) hx hb d_Ke_in_34 (by decide) (fun c4 => ?_) (fun c4 => ?_)
  · replace h := zo_t c4 h
    refine lv_iconst (v := 0) hx hb d_Ke_in_41 (by decide) ?_
    obtain ⟨rfl, rfl⟩ := zo_e h
    exact ka_err (vx_runS (As := [.int 0]) (rest := []) S9 (c_Ke_needFound_err l hl9 D A (GW A σ r) _ 0 rfl) (cwS 1 hts (tg_S wl_Ke_169 ws_Ke_needFound wi_Ke wo_Ke_needFound) rfl rfl rfl wq_Ke_needFound ⟨Nat.le_of_ble_eq_true rfl, Nat.le_of_ble_eq_true rfl⟩) (ka_preS X9 hP hD hS) rfl rfl hl.1 rfl (lv_room (Nat.le_of_ble_eq_true rfl)) d_Ke_in_42 ⟨Nat.le_of_ble_eq_true rfl, Nat.le_of_ble_eq_true rfl⟩) hlk hex X9 hD hS (Nat.le_of_ble_eq_true rfl) (Nat.le_of_ble_eq_true rfl)
  replace h := zo_f c4 h
  refine lv_iconst (v := 1) hx hb d_Ke_in_37 (by decide) ?_
  refine lv_goto (tgt := 42) hx hb d_Ke_in_38 (by decide) ?_
  refine ka_v (va_runS (As := [.int 1]) (rest := []) S9 (c_Ke_needFound_ok l hl9 D A (GW A σ r) _ 1 (by decide)) (cwS 1 hts (tg_S wl_Ke_169 ws_Ke_needFound wi_Ke wo_Ke_needFound) rfl rfl rfl wq_Ke_needFound ⟨Nat.le_of_ble_eq_true rfl, Nat.le_of_ble_eq_true rfl⟩) (ka_preS X9 hP hD hS) rfl rfl hl.1 rfl (lv_room (Nat.le_of_ble_eq_true rfl)) d_Ke_in_42 ⟨Nat.le_of_ble_eq_true rfl, Nat.le_of_ble_eq_true rfl⟩) X9 hD hS rfl (fun H locs hP hD hS => ?_)
  refine lv_iload_n hx hb d_Ke_in_45 rfl (lv_at hl 0 rfl) ?_
  cases h
def f_Ke_count (σ : KS) (x1 : Int32) : Option (Int32) := if x1 = 0 then ((f_Tg_howMany σ).bind fun v1 => some v1) else if x1 = 1 then ((f_Lb_howMany σ).bind fun v2 => some v2) else if x1 = 2 then (some (gN_categories σ)) else if x1 = 3 then ((f_Us_howMany σ).bind fun v3 => some v3) else (some (-1))
set_option maxRecDepth 100000 in
set_option maxHeartbeats 4000000 in
theorem c_Ke_count (l : Launch) (hl9 : l.stackTraces = false) (D : va_G) (A : Nat → Nat) (r : va_W) (sz : Nat) (σ : KS) (x1 : Int32) (z : Int32) (h : f_Ke_count σ x1 = some z) : Met l y_Ke_count (Cond.code y_Ke_count b_Ke_count 2 (some .int) :: T0) ({ frames := 1, cells := 0, slots := 0, locals := 22 } : Room) (va_Pc [.ref (A 0), .int x1] (ka_Wd D A (GW A σ r) sz)) (ka_Ri D z (GW A σ r) (va_A (GW A σ r) sz)) 0 0 (va_A (GW A σ r) sz) := by
  unfold f_Ke_count at h
  refine ka_of (own := R_Ke) (fun A9 => ka_Ri D z (GW A σ r) A9) (by decide) rfl (Nat.le_of_ble_eq_true rfl) ?_
  intro p e s m below meth c A9 ls S9 hr hlk hex X9 hP hD hl
  obtain ⟨hx, hb, hml, hown, hts⟩ := id S9
  have hK := X9.2.1
  have hS : va_S A9 s.heap s.heap [] := va_S.rf
  replace hl : lv_has ls 2 [(0, .ref (A 0)), (1, .int x1)] := hl
  refine lv_iload_n hx hb d_Ke_count_0 rfl (lv_at hl 1 rfl) ?_
  by_cases c9_0 : x1 = 0
  · replace h := zo_t c9_0 h
    refine ka_tabIn (tgt := 32) (off := 31) hx hb d_Ke_count_1 c9_0 (by decide) (by decide) (by decide) (by decide) ?_
    refine lv_aload_n hx hb d_Ke_count_32 rfl (lv_at hl 0 rfl) ?_
    refine va_get (D := D) (ci := 4) (v := .ref (A 4)) (C := R_Ke) (T := T_Ke) (N := 5) hx hb hts wu_Ke hown hK hP 0 rfl rfl 3 (by decide) (hts _ wf_Ke_28) (fun _ h9 => h9) rfl d_Ke_count_33 ?_
    obtain ⟨v1, e9, h⟩ := zo_b h
    refine ka_i (va_runV (As := []) (rest := []) S9 (c_Tg_howMany l hl9 D A r _ σ _ e9) (cwV 0 hts (tg_V wl_Ke_247 wm_Tg_howMany we_Tg_howMany wi_Tg wo_Tg_howMany) rfl rfl rfl wq_Tg_howMany ⟨Nat.le_of_ble_eq_true rfl, Nat.le_of_ble_eq_true rfl⟩) (ka_preV X9 hP hD hS 4 rfl rfl) rfl rfl hl.1 rfl (lv_room (Nat.le_of_ble_eq_true rfl)) d_Ke_count_36 ⟨Nat.le_of_ble_eq_true rfl, Nat.le_of_ble_eq_true rfl⟩) X9 hD hS rfl (fun H locs hP hD hS => ?_)
    cases h
    exact W.iret hx hb hr (fun t ht hW => ⟨⟨_, (), rfl, rfl, ka_at ht hP⟩, hS.F ht⟩) hS.2.2 d_Ke_count_39 hlk
  replace h := zo_f c9_0 h
  by_cases c9_1 : x1 = 1
  · replace h := zo_t c9_1 h
    refine ka_tabIn (tgt := 40) (off := 39) hx hb d_Ke_count_1 c9_1 (by decide) (by decide) (by decide) (by decide) ?_
    refine lv_aload_n hx hb d_Ke_count_40 rfl (lv_at hl 0 rfl) ?_
    refine va_get (D := D) (ci := 4) (v := .ref (A 2)) (C := R_Ke) (T := T_Ke) (N := 5) hx hb hts wu_Ke hown hK hP 0 rfl rfl 2 (by decide) (hts _ wf_Ke_23) (fun _ h9 => h9) rfl d_Ke_count_41 ?_
    obtain ⟨v2, e9, h⟩ := zo_b h
    refine ka_i (va_runV (As := []) (rest := []) S9 (c_Lb_howMany l hl9 D A r _ σ _ e9) (cwV 0 hts (tg_V wl_Ke_263 wm_Lb_howMany we_Lb_howMany wi_Lb wo_Lb_howMany) rfl rfl rfl wq_Lb_howMany ⟨Nat.le_of_ble_eq_true rfl, Nat.le_of_ble_eq_true rfl⟩) (ka_preV X9 hP hD hS 2 rfl rfl) rfl rfl hl.1 rfl (lv_room (Nat.le_of_ble_eq_true rfl)) d_Ke_count_44 ⟨Nat.le_of_ble_eq_true rfl, Nat.le_of_ble_eq_true rfl⟩) X9 hD hS rfl (fun H locs hP hD hS => ?_)
    cases h
    exact W.iret hx hb hr (fun t ht hW => ⟨⟨_, (), rfl, rfl, ka_at ht hP⟩, hS.F ht⟩) hS.2.2 d_Ke_count_47 hlk
  replace h := zo_f c9_1 h
  by_cases c9_2 : x1 = 2
  · replace h := zo_t c9_2 h
    refine ka_tabIn (tgt := 48) (off := 47) hx hb d_Ke_count_1 c9_2 (by decide) (by decide) (by decide) (by decide) ?_
    refine lv_aload_n hx hb d_Ke_count_48 rfl (lv_at hl 0 rfl) ?_
    refine va_get (D := D) (ci := 4) (v := .ref (A 1)) (C := R_Ke) (T := T_Ke) (N := 5) hx hb hts wu_Ke hown hK hP 0 rfl rfl 0 (by decide) (hts _ wf_Ke_10) (fun _ h9 => h9) rfl d_Ke_count_49 ?_
    refine va_get (D := D) (ci := 1) (v := .int (gN_categories σ)) (C := R_Sn) (T := T_Sn) (N := 4) hx hb hts wu_Sn hown hK hP 1 rfl rfl 3 (by decide) (hts _ wf_Ke_81) (fun _ h9 => h9) rfl d_Ke_count_52 ?_
    cases h
    exact W.iret hx hb hr (fun t ht hW => ⟨⟨_, (), rfl, rfl, ka_at ht hP⟩, hS.F ht⟩) hS.2.2 d_Ke_count_55 hlk
  replace h := zo_f c9_2 h
  by_cases c9_3 : x1 = 3
  · replace h := zo_t c9_3 h
    refine ka_tabIn (tgt := 56) (off := 55) hx hb d_Ke_count_1 c9_3 (by decide) (by decide) (by decide) (by decide) ?_
    refine lv_aload_n hx hb d_Ke_count_56 rfl (lv_at hl 0 rfl) ?_
    refine va_get (D := D) (ci := 4) (v := .ref (A 16)) (C := R_Ke) (T := T_Ke) (N := 5) hx hb hts wu_Ke hown hK hP 0 rfl rfl 4 (by decide) (hts _ wf_Ke_33) (fun _ h9 => h9) rfl d_Ke_count_57 ?_
    obtain ⟨v3, e9, h⟩ := zo_b h
    refine ka_i (va_runV (As := []) (rest := []) S9 (c_Us_howMany l hl9 D A r _ σ _ e9) (cwV 0 hts (tg_V wl_Ke_264 wm_Us_howMany we_Us_howMany wi_Us wo_Us_howMany) rfl rfl rfl wq_Us_howMany ⟨Nat.le_of_ble_eq_true rfl, Nat.le_of_ble_eq_true rfl⟩) (ka_preV X9 hP hD hS 16 rfl rfl) rfl rfl hl.1 rfl (lv_room (Nat.le_of_ble_eq_true rfl)) d_Ke_count_60 ⟨Nat.le_of_ble_eq_true rfl, Nat.le_of_ble_eq_true rfl⟩) X9 hD hS rfl (fun H locs hP hD hS => ?_)
    cases h
    exact W.iret hx hb hr (fun t ht hW => ⟨⟨_, (), rfl, rfl, ka_at ht hP⟩, hS.F ht⟩) hS.2.2 d_Ke_count_63 hlk
  replace h := zo_f c9_3 h
  refine lv_tableOut (tgt := 64) hx hb d_Ke_count_1 (by have q0 := lv_neT c9_0 (a := 0) (by decide); have q1 := lv_neT c9_1 (a := 1) (by decide); have q2 := lv_neT c9_2 (a := 2) (by decide); have q3 := lv_neT c9_3 (a := 3) (by decide); omega) (by decide) ?_
  refine lv_iconst (v := (-1)) hx hb d_Ke_count_64 (by decide) ?_
  cases h
  exact W.iret hx hb hr (fun t ht hW => ⟨⟨_, (), rfl, rfl, ka_at ht hP⟩, hS.F ht⟩) hS.2.2 d_Ke_count_65 hlk
