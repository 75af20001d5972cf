def f_Ke_read (σ : KS) (x1 x2 x3 x4 : Int32) : Option (Except Nat Int32 × KS) := zx (f_Ke_needCell σ x1 x2 x3 x4) fun _ u2 => (f_Ke_maySee u2 x1 x2).bind fun v3 => if v3 = 0 then (some (.error 3, u2)) else ((f_Ke_maySee u2 x1 x3).bind fun v5 => if v5 = 0 then (some (.error 3, u2)) else ((f_Tg_cellOf u2 x3 x4).bind fun v7 => some (.ok v7, u2)))
set_option maxRecDepth 100000 in
set_option maxHeartbeats 4000000 in
theorem c_Ke_read_ok (l : Launch) (hl9 : l.stackTraces = false) (D : va_G) (A : Nat → Nat) (r : va_W) (sz : Nat) (σ : KS) (x1 x2 x3 x4 : Int32) (z9 : Int32) (z : KS) (h : f_Ke_read σ x1 x2 x3 x4 = some (.ok z9, z)) : Met l y_Ke_read (Cond.code y_Ke_read b_Ke_read 5 (some .int) :: T0) ({ frames := 3, cells := 0, slots := 0, locals := 68 } : Room) (va_Pc [.ref (A 0), .int x1, .int x2, .int x3, .int x4] (ka_Wd D A (GW A σ r) sz)) (ka_Ri D z9 (GW A z r) (va_A (GW A σ r) sz)) 0 0 (va_A (GW A σ r) sz) := by
  unfold f_Ke_read at h
  refine ka_of (own := R_Ke) (fun A9 => ka_Ri D z9 (GW A z r) A9) (by decide) rfl (Nat.le_of_ble_eq_true rfl) ?_
  intro p e s m below meth c A9 ls S9 hr hlk hex X9 hP hD hl
  obtain ⟨hx, hb, hml, hown, hts⟩ := id S9
  have hK := X9.2.1
  have hS : va_S A9 s.heap s.heap [] := va_S.rf
  replace hl : lv_has ls 5 [(0, .ref (A 0)), (1, .int x1), (2, .int x2), (3, .int x3), (4, .int x4)] := hl
  refine lv_aload_n hx hb d_Ke_read_0 rfl (lv_at hl 0 rfl) ?_
  refine lv_iload_n hx hb d_Ke_read_1 rfl (lv_at hl 1 rfl) ?_
  refine lv_iload_n hx hb d_Ke_read_2 rfl (lv_at hl 2 rfl) ?_
  refine lv_iload_n hx hb d_Ke_read_3 rfl (lv_at hl 3 rfl) ?_
  refine lv_iload hx hb d_Ke_read_4 (lv_at hl 4 rfl) ?_
  rcases zo_x h with ⟨k9, u2, e9, h⟩ | ⟨v1, u2, e9, h⟩
  · cases h
  refine ka_v (va_runV (As := [.int x1, .int x2, .int x3, .int x4]) (rest := []) S9 (c_Ke_needCell_ok l hl9 D A r _ σ x1 x2 x3 x4 _ _ e9) (cwV 4 hts (tg_V wl_Ke_126 wm_Ke_needCell we_Ke_needCell wi_Ke wo_Ke_needCell) rfl rfl rfl wq_Ke_needCell ⟨Nat.le_of_ble_eq_true rfl, Nat.le_of_ble_eq_true rfl⟩) (ka_preV X9 hP hD hS 0 rfl rfl) rfl rfl hl.1 rfl (lv_room (Nat.le_of_ble_eq_true rfl)) d_Ke_read_6 ⟨Nat.le_of_ble_eq_true rfl, Nat.le_of_ble_eq_true rfl⟩) X9 hD hS rfl (fun H locs hP hD hS => ?_)
  refine lv_aload_n hx hb d_Ke_read_9 rfl (lv_at hl 0 rfl) ?_
  refine lv_iload_n hx hb d_Ke_read_10 rfl (lv_at hl 1 rfl) ?_
  refine lv_iload_n hx hb d_Ke_read_11 rfl (lv_at hl 2 rfl) ?_
  obtain ⟨v3, e9, h⟩ := zo_b h
  refine ka_i (va_runV (As := [.int x1, .int x2]) (rest := []) S9 (c_Ke_maySee l hl9 D A r _ u2 x1 x2 _ e9) (cwV 2 hts (tg_V wl_Ke_130 wm_Ke_maySee we_Ke_maySee wi_Ke wo_Ke_maySee) rfl rfl rfl wq_Ke_maySee ⟨Nat.le_of_ble_eq_true rfl, Nat.le_of_ble_eq_true rfl⟩) (ka_preV X9 hP hD hS 0 rfl rfl) rfl rfl hl.1 rfl (lv_room (Nat.le_of_ble_eq_true rfl)) d_Ke_read_12 ⟨Nat.le_of_ble_eq_true rfl, Nat.le_of_ble_eq_true rfl⟩) X9 hD hS rfl (fun H locs hP hD hS => ?_)
  refine lv_if_eq (tgt := 31) hx hb d_Ke_read_15 (by decide) (fun c4 => ?_) (fun c4 => ?_)
  · replace h := zo_t c4 h
    refine lv_iconst (v := 0) hx hb d_Ke_read_31 (by decide) ?_
    cases h
  replace h := zo_f c4 h
  refine lv_aload_n hx hb d_Ke_read_18 rfl (lv_at hl 0 rfl) ?_
  refine lv_iload_n hx hb d_Ke_read_19 rfl (lv_at hl 1 rfl) ?_
  refine lv_iload_n hx hb d_Ke_read_20 rfl (lv_at hl 3 rfl) ?_
  obtain ⟨v5, e9, h⟩ := zo_b h
  refine ka_i (va_runV (As := [.int x1, .int x3]) (rest := []) S9 (c_Ke_maySee l hl9 D A r _ u2 x1 x3 _ e9) (cwV 2 hts (tg_V wl_Ke_130 wm_Ke_maySee we_Ke_maySee wi_Ke wo_Ke_maySee) rfl rfl rfl wq_Ke_maySee ⟨Nat.le_of_ble_eq_true rfl, Nat.le_of_ble_eq_true rfl⟩) (ka_preV X9 hP hD hS 0 rfl rfl) rfl rfl hl.1 rfl (lv_room (Nat.le_of_ble_eq_true rfl)) d_Ke_read_21 ⟨Nat.le_of_ble_eq_true rfl, Nat.le_of_ble_eq_true rfl⟩) X9 hD hS rfl (fun H locs hP hD hS => ?_)
  refine lv_if_eq (tgt := 31) hx hb d_Ke_read_24 (by decide) (fun c6 => ?_) (fun c6 => ?_)
  · replace h := zo_t c6 h
    refine lv_iconst (v := 0) hx hb d_Ke_read_31 (by decide) ?_
    cases h
  replace h := zo_f c6 h
  refine lv_iconst (v := 1) hx hb d_Ke_read_27 (by decide) ?_
  refine lv_goto (tgt := 32) hx hb d_Ke_read_28 (by decide) ?_
  refine ka_v (va_runS (As := [.int 1]) (rest := []) S9 (c_Ke_needAllowed_ok l hl9 D A (GW A u2 r) _ 1 (by decide)) (cwS 1 hts (tg_S wl_Ke_123 ws_Ke_needAllowed wi_Ke wo_Ke_needAllowed) rfl rfl rfl wq_Ke_needAllowed ⟨Nat.le_of_ble_eq_true rfl, Nat.le_of_ble_eq_true rfl⟩) (ka_preS X9 hP hD hS) rfl rfl hl.1 rfl (lv_room (Nat.le_of_ble_eq_true rfl)) d_Ke_read_32 ⟨Nat.le_of_ble_eq_true rfl, Nat.le_of_ble_eq_true rfl⟩) X9 hD hS rfl (fun H locs hP hD hS => ?_)
  refine lv_aload_n hx hb d_Ke_read_35 rfl (lv_at hl 0 rfl) ?_
  refine va_get (D := D) (ci := 4) (v := .ref (A 4)) (C := R_Ke) (T := T_Ke) (N := 5) hx hb hts wu_Ke hown hK hP 0 rfl rfl 3 (by decide) (hts _ wf_Ke_28) (fun _ h9 => h9) rfl d_Ke_read_36 ?_
  refine lv_iload_n hx hb d_Ke_read_39 rfl (lv_at hl 3 rfl) ?_
  refine lv_iload hx hb d_Ke_read_40 (lv_at hl 4 rfl) ?_
  obtain ⟨v7, e9, h⟩ := zo_b h
  refine ka_i (va_runV (As := [.int x3, .int x4]) (rest := []) S9 (c_Tg_cellOf l hl9 D A r _ u2 x3 x4 _ e9) (cwV 2 hts (tg_V wl_Ke_133 wm_Tg_cellOf we_Tg_cellOf wi_Tg wo_Tg_cellOf) rfl rfl rfl wq_Tg_cellOf ⟨Nat.le_of_ble_eq_true rfl, Nat.le_of_ble_eq_true rfl⟩) (ka_preV X9 hP hD hS 4 rfl rfl) rfl rfl hl.1 rfl (lv_room (Nat.le_of_ble_eq_true rfl)) d_Ke_read_42 ⟨Nat.le_of_ble_eq_true rfl, Nat.le_of_ble_eq_true rfl⟩) X9 hD hS rfl (fun H locs hP hD hS => ?_)
  cases h
  exact W.iret hx hb hr (fun t ht hW => ⟨⟨_, (), rfl, rfl, ka_at ht hP⟩, hS.F ht⟩) hS.2.2 d_Ke_read_45 hlk
set_option maxRecDepth 100000 in
set_option maxHeartbeats 4000000 in
theorem c_Ke_read_err (l : Launch) (hl9 : l.stackTraces = false) (D : va_G) (A : Nat → Nat) (r : va_W) (sz : Nat) (σ : KS) (x1 x2 x3 x4 : Int32) (k9 : Nat) (z : KS) (h : f_Ke_read σ x1 x2 x3 x4 = some (.error k9, z)) : vx_Met l y_Ke_read (Cond.code y_Ke_read b_Ke_read 5 (some .int) :: T0) ({ frames := 9, cells := 1, slots := 6, locals := 148 } : Room) (va_Pc [.ref (A 0), .int x1, .int x2, .int x3, .int x4] (ka_Wd D A (GW A σ r) sz)) ka_No (ka_Xe D k9 (GW A z r) (va_A (GW A σ r) sz)) 1 6 (va_A (GW A σ r) sz) := by
  unfold f_Ke_read at h
  refine ka_ofX (own := R_Ke) (fun A9 => ka_Xe D k9 (GW A z r) A9) (by decide) rfl (Nat.le_of_ble_eq_true rfl) ?_
  intro p e s m below meth c A9 ls S9 hr hlk hex X9 hP hD hl
  obtain ⟨hx, hb, hml, hown, hts⟩ := id S9
  have hK := X9.2.1
  have hS : va_S A9 s.heap s.heap [] := va_S.rf
  replace hl : lv_has ls 5 [(0, .ref (A 0)), (1, .int x1), (2, .int x2), (3, .int x3), (4, .int x4)] := hl
  refine lv_aload_n hx hb d_Ke_read_0 rfl (lv_at hl 0 rfl) ?_
  refine lv_iload_n hx hb d_Ke_read_1 rfl (lv_at hl 1 rfl) ?_
  refine lv_iload_n hx hb d_Ke_read_2 rfl (lv_at hl 2 rfl) ?_
  refine lv_iload_n hx hb d_Ke_read_3 rfl (lv_at hl 3 rfl) ?_
  refine lv_iload hx hb d_Ke_read_4 (lv_at hl 4 rfl) ?_
  rcases zo_x h with ⟨k9, u2, e9, h⟩ | ⟨v1, u2, e9, h⟩
  · cases h
    exact ka_err (vx_runV (As := [.int x1, .int x2, .int x3, .int x4]) (rest := []) S9 (c_Ke_needCell_err l hl9 D A r _ σ x1 x2 x3 x4 _ _ e9) (cwV 4 hts (tg_V wl_Ke_126 wm_Ke_needCell we_Ke_needCell wi_Ke wo_Ke_needCell) rfl rfl rfl wq_Ke_needCell ⟨Nat.le_of_ble_eq_true rfl, Nat.le_of_ble_eq_true rfl⟩) (ka_preV X9 hP hD hS 0 rfl rfl) rfl rfl hl.1 rfl (lv_room (Nat.le_of_ble_eq_true rfl)) d_Ke_read_6 ⟨Nat.le_of_ble_eq_true rfl, Nat.le_of_ble_eq_true rfl⟩) hlk hex X9 hD hS (Nat.le_of_ble_eq_true rfl) (Nat.le_of_ble_eq_true rfl)
  refine ka_v (va_runV (As := [.int x1, .int x2, .int x3, .int x4]) (rest := []) S9 (c_Ke_needCell_ok l hl9 D A r _ σ x1 x2 x3 x4 _ _ e9) (cwV 4 hts (tg_V wl_Ke_126 wm_Ke_needCell we_Ke_needCell wi_Ke wo_Ke_needCell) rfl rfl rfl wq_Ke_needCell ⟨Nat.le_of_ble_eq_true rfl, Nat.le_of_ble_eq_true rfl⟩) (ka_preV X9 hP hD hS 0 rfl rfl) rfl rfl hl.1 rfl (lv_room (Nat.le_of_ble_eq_true rfl)) d_Ke_read_6 ⟨Nat.le_of_ble_eq_true rfl, Nat.le_of_ble_eq_true rfl⟩) X9 hD hS rfl (fun H locs hP hD hS => ?_)
  refine lv_aload_n hx hb d_Ke_read_9 rfl (lv_at hl 0 rfl) ?_
  refine lv_iload_n hx hb d_Ke_read_10 rfl (lv_at hl 1 rfl) ?_
  refine lv_iload_n hx hb d_Ke_read_11 rfl (lv_at hl 2 rfl) ?_
  obtain ⟨v3, e9, h⟩ := zo_b h
  refine ka_i (va_runV (As := [.int x1, .int x2]) (rest := []) S9 (c_Ke_maySee l hl9 D A r _ u2 x1 x2 _ e9) (cwV 2 hts (tg_V wl_Ke_130 wm_Ke_maySee we_Ke_maySee wi_Ke wo_Ke_maySee) rfl rfl rfl wq_Ke_maySee ⟨Nat.le_of_ble_eq_true rfl, Nat.le_of_ble_eq_true rfl⟩) (ka_preV X9 hP hD hS 0 rfl rfl) rfl rfl hl.1 rfl (lv_room (Nat.le_of_ble_eq_true rfl)) d_Ke_read_12 ⟨Nat.le_of_ble_eq_true rfl, Nat.le_of_ble_eq_true rfl⟩) X9 hD hS rfl (fun H locs hP hD hS => ?_)
  refine lv_if_eq (tgt := 31) hx hb d_Ke_read_15 (by decide) (fun c4 => ?_) (fun c4 => ?_)
  · replace h := zo_t c4 h
    refine lv_iconst (v := 0) hx hb d_Ke_read_31 (by decide) ?_
    obtain ⟨rfl, rfl⟩ := zo_e h
    exact ka_err (vx_runS (As := [.int 0]) (rest := []) S9 (c_Ke_needAllowed_err l hl9 D A (GW A u2 r) _ 0 rfl) (cwS 1 hts (tg_S wl_Ke_123 ws_Ke_needAllowed wi_Ke wo_Ke_needAllowed) rfl rfl rfl wq_Ke_needAllowed ⟨Nat.le_of_ble_eq_true rfl, Nat.le_of_ble_eq_true rfl⟩) (ka_preS X9 hP hD hS) rfl rfl hl.1 rfl (lv_room (Nat.le_of_ble_eq_true rfl)) d_Ke_read_32 ⟨Nat.le_of_ble_eq_true rfl, Nat.le_of_ble_eq_true rfl⟩) hlk hex X9 hD hS (Nat.le_of_ble_eq_true rfl) (Nat.le_of_ble_eq_true rfl)
  replace h := zo_f c4 h
  refine lv_aload_n hx hb d_Ke_read_18 rfl (lv_at hl 0 rfl) ?_
  refine lv_iload_n hx hb d_Ke_read_19 rfl (lv_at hl 1 rfl) ?_
  refine lv_iload_n hx hb d_Ke_read_20 rfl (lv_at hl 3 rfl) ?_
  obtain ⟨v5, e9, h⟩ := zo_b h
  refine ka_i (va_runV (As := [.int x1, .int x3]) (rest := []) S9 (c_Ke_maySee l hl9 D A r _ u2 x1 x3 _ e9) (cwV 2 hts (tg_V wl_Ke_130 wm_Ke_maySee we_Ke_maySee wi_Ke wo_Ke_maySee) rfl rfl rfl wq_Ke_maySee ⟨Nat.le_of_ble_eq_true rfl, Nat.le_of_ble_eq_true rfl⟩) (ka_preV X9 hP hD hS 0 rfl rfl) rfl rfl hl.1 rfl (lv_room (Nat.le_of_ble_eq_true rfl)) d_Ke_read_21 ⟨Nat.le_of_ble_eq_true rfl, Nat.le_of_ble_eq_true rfl⟩) X9 hD hS rfl (fun H locs hP hD hS => ?_)
  refine lv_if_eq (tgt := 31) hx hb d_Ke_read_24 (by decide) (fun c6 => ?_) (fun c6 => ?_)
  · replace h := zo_t c6 h
    refine lv_iconst (v := 0) hx hb d_Ke_read_31 (by decide) ?_
    obtain ⟨rfl, rfl⟩ := zo_e h
    exact ka_err (vx_runS (As := [.int 0]) (rest := []) S9 (c_Ke_needAllowed_err l hl9 D A (GW A u2 r) _ 0 rfl) (cwS 1 hts (tg_S wl_Ke_123 ws_Ke_needAllowed wi_Ke wo_Ke_needAllowed) rfl rfl rfl wq_Ke_needAllowed ⟨Nat.le_of_ble_eq_true rfl, Nat.le_of_ble_eq_true rfl⟩) (ka_preS X9 hP hD hS) rfl rfl hl.1 rfl (lv_room (Nat.le_of_ble_eq_true rfl)) d_Ke_read_32 ⟨Nat.le_of_ble_eq_true rfl, Nat.le_of_ble_eq_true rfl⟩) hlk hex X9 hD hS (Nat.le_of_ble_eq_true rfl) (Nat.le_of_ble_eq_true rfl)
  replace h := zo_f c6 h
  refine lv_iconst (v := 1) hx hb d_Ke_read_27 (by decide) ?_
  refine lv_goto (tgt := 32) hx hb d_Ke_read_28 (by decide) ?_
  refine ka_v (va_runS (As := [.int 1]) (rest := []) S9 (c_Ke_needAllowed_ok l hl9 D A (GW A u2 r) _ 1 (by decide)) (cwS 1 hts (tg_S wl_Ke_123 ws_Ke_needAllowed wi_Ke wo_Ke_needAllowed) rfl rfl rfl wq_Ke_needAllowed ⟨Nat.le_of_ble_eq_true rfl, Nat.le_of_ble_eq_true rfl⟩) (ka_preS X9 hP hD hS) rfl rfl hl.1 rfl (lv_room (Nat.le_of_ble_eq_true rfl)) d_Ke_read_32 ⟨Nat.le_of_ble_eq_true rfl, Nat.le_of_ble_eq_true rfl⟩) X9 hD hS rfl (fun H locs hP hD hS => ?_)
  refine lv_aload_n hx hb d_Ke_read_35 rfl (lv_at hl 0 rfl) ?_
  refine va_get (D := D) (ci := 4) (v := .ref (A 4)) (C := R_Ke) (T := T_Ke) (N := 5) hx hb hts wu_Ke hown hK hP 0 rfl rfl 3 (by decide) (hts _ wf_Ke_28) (fun _ h9 => h9) rfl d_Ke_read_36 ?_
  refine lv_iload_n hx hb d_Ke_read_39 rfl (lv_at hl 3 rfl) ?_
  refine lv_iload hx hb d_Ke_read_40 (lv_at hl 4 rfl) ?_
  obtain ⟨v7, e9, h⟩ := zo_b h
  refine ka_i (va_runV (As := [.int x3, .int x4]) (rest := []) S9 (c_Tg_cellOf l hl9 D A r _ u2 x3 x4 _ e9) (cwV 2 hts (tg_V wl_Ke_133 wm_Tg_cellOf we_Tg_cellOf wi_Tg wo_Tg_cellOf) rfl rfl rfl wq_Tg_cellOf ⟨Nat.le_of_ble_eq_true rfl, Nat.le_of_ble_eq_true rfl⟩) (ka_preV X9 hP hD hS 4 rfl rfl) rfl rfl hl.1 rfl (lv_room (Nat.le_of_ble_eq_true rfl)) d_Ke_read_42 ⟨Nat.le_of_ble_eq_true rfl, Nat.le_of_ble_eq_true rfl⟩) X9 hD hS rfl (fun H locs hP hD hS => ?_)
  cases h
def f_Ke_write (σ : KS) (x1 x2 x3 x4 x5 : Int32) : Option (Except Nat Int32 × KS) := zx (f_Ke_needCell σ x1 x2 x3 x4) fun _ u2 => (f_Ke_maySee u2 x1 x2).bind fun v3 => if v3 = 0 then (some (.error 3, u2)) else ((f_Ke_mayChange u2 x1 x3).bind fun v5 => if v5 = 0 then (some (.error 3, u2)) else ((f_Tg_cellOf u2 x3 x4).bind fun v7 => (f_Tg_setCell u2 x3 x4 x5).bind fun v8 => some (.ok v7, v8)))
set_option maxRecDepth 100000 in
set_option maxHeartbeats 4000000 in
theorem c_Ke_write_ok (l : Launch) (hl9 : l.stackTraces = false) (D : va_G) (A : Nat → Nat) (r : va_W) (sz : Nat) (σ : KS) (x1 x2 x3 x4 x5 : Int32) (z9 : Int32) (z : KS) (h : f_Ke_write σ x1 x2 x3 x4 x5 = some (.ok z9, z)) : Met l y_Ke_write (Cond.code y_Ke_write b_Ke_write 7 (some .int) :: T0) ({ frames := 4, cells := 0, slots := 0, locals := 89 } : Room) (va_Pc [.ref (A 0), .int x1, .int x2, .int x3, .int x4, .int x5] (ka_Wd D A (GW A σ r) sz)) (ka_Ri D z9 (GW A z r) (va_A (GW A σ r) sz)) 0 0 (va_A (GW A σ r) sz) := by
  unfold f_Ke_write at h
  refine ka_of (own := R_Ke) (fun A9 => ka_Ri D z9 (GW A z r) A9) (by decide) rfl (Nat.le_of_ble_eq_true rfl) ?_
  intro p e s m below meth c A9 ls S9 hr hlk hex X9 hP hD hl
  obtain ⟨hx, hb, hml, hown, hts⟩ := id S9
  have hK := X9.2.1
  have hS : va_S A9 s.heap s.heap [] := va_S.rf
  replace hl : lv_has ls 7 [(0, .ref (A 0)), (1, .int x1), (2, .int x2), (3, .int x3), (4, .int x4), (5, .int x5)] := hl
  refine lv_aload_n hx hb d_Ke_write_0 rfl (lv_at hl 0 rfl) ?_
  refine lv_iload_n hx hb d_Ke_write_1 rfl (lv_at hl 1 rfl) ?_
  refine lv_iload_n hx hb d_Ke_write_2 rfl (lv_at hl 2 rfl) ?_
  refine lv_iload_n hx hb d_Ke_write_3 rfl (lv_at hl 3 rfl) ?_
  refine lv_iload hx hb d_Ke_write_4 (lv_at hl 4 rfl) ?_
  rcases zo_x h with ⟨k9, u2, e9, h⟩ | ⟨v1, u2, e9, h⟩
  · cases h
  refine ka_v (va_runV (As := [.int x1, .int x2, .int x3, .int x4]) (rest := []) S9 (c_Ke_needCell_ok l hl9 D A r _ σ x1 x2 x3 x4 _ _ e9) (cwV 4 hts (tg_V wl_Ke_126 wm_Ke_needCell we_Ke_needCell wi_Ke wo_Ke_needCell) rfl rfl rfl wq_Ke_needCell ⟨Nat.le_of_ble_eq_true rfl, Nat.le_of_ble_eq_true rfl⟩) (ka_preV X9 hP hD hS 0 rfl rfl) rfl rfl hl.1 rfl (lv_room (Nat.le_of_ble_eq_true rfl)) d_Ke_write_6 ⟨Nat.le_of_ble_eq_true rfl, Nat.le_of_ble_eq_true rfl⟩) X9 hD hS rfl (fun H locs hP hD hS => ?_)
  refine lv_aload_n hx hb d_Ke_write_9 rfl (lv_at hl 0 rfl) ?_
  refine lv_iload_n hx hb d_Ke_write_10 rfl (lv_at hl 1 rfl) ?_
  refine lv_iload_n hx hb d_Ke_write_11 rfl (lv_at hl 2 rfl) ?_
  obtain ⟨v3, e9, h⟩ := zo_b h
  refine ka_i (va_runV (As := [.int x1, .int x2]) (rest := []) S9 (c_Ke_maySee l hl9 D A r _ u2 x1 x2 _ e9) (cwV 2 hts (tg_V wl_Ke_130 wm_Ke_maySee we_Ke_maySee wi_Ke wo_Ke_maySee) rfl rfl rfl wq_Ke_maySee ⟨Nat.le_of_ble_eq_true rfl, Nat.le_of_ble_eq_true rfl⟩) (ka_preV X9 hP hD hS 0 rfl rfl) rfl rfl hl.1 rfl (lv_room (Nat.le_of_ble_eq_true rfl)) d_Ke_write_12 ⟨Nat.le_of_ble_eq_true rfl, Nat.le_of_ble_eq_true rfl⟩) X9 hD hS rfl (fun H locs hP hD hS => ?_)
  refine lv_if_eq (tgt := 31) hx hb d_Ke_write_15 (by decide) (fun c4 => ?_) (fun c4 => ?_)
  · replace h := zo_t c4 h
    refine lv_iconst (v := 0) hx hb d_Ke_write_31 (by decide) ?_
    cases h
  replace h := zo_f c4 h
  refine lv_aload_n hx hb d_Ke_write_18 rfl (lv_at hl 0 rfl) ?_
  refine lv_iload_n hx hb d_Ke_write_19 rfl (lv_at hl 1 rfl) ?_
  refine lv_iload_n hx hb d_Ke_write_20 rfl (lv_at hl 3 rfl) ?_
  obtain ⟨v5, e9, h⟩ := zo_b h
  refine ka_i (va_runV (As := [.int x1, .int x3]) (rest := []) S9 (c_Ke_mayChange l hl9 D A r _ u2 x1 x3 _ e9) (cwV 2 hts (tg_V wl_Ke_136 wm_Ke_mayChange we_Ke_mayChange wi_Ke wo_Ke_mayChange) rfl rfl rfl wq_Ke_mayChange ⟨Nat.le_of_ble_eq_true rfl, Nat.le_of_ble_eq_true rfl⟩) (ka_preV X9 hP hD hS 0 rfl rfl) rfl rfl hl.1 rfl (lv_room (Nat.le_of_ble_eq_true rfl)) d_Ke_write_21 ⟨Nat.le_of_ble_eq_true rfl, Nat.le_of_ble_eq_true rfl⟩) X9 hD hS rfl (fun H locs hP hD hS => ?_)
  refine lv_if_eq (tgt := 31) hx hb d_Ke_write_24 (by decide) (fun c6 => ?_) (fun c6 => ?_)
  · replace h := zo_t c6 h
    refine lv_iconst (v := 0) hx hb d_Ke_write_31 (by decide) ?_
    cases h
  replace h := zo_f c6 h
  refine lv_iconst (v := 1) hx hb d_Ke_write_27 (by decide) ?_
  refine lv_goto (tgt := 32) hx hb d_Ke_write_28 (by decide) ?_
  refine ka_v (va_runS (As := [.int 1]) (rest := []) S9 (c_Ke_needAllowed_ok l hl9 D A (GW A u2 r) _ 1 (by decide)) (cwS 1 hts (tg_S wl_Ke_123 ws_Ke_needAllowed wi_Ke wo_Ke_needAllowed) rfl rfl rfl wq_Ke_needAllowed ⟨Nat.le_of_ble_eq_true rfl, Nat.le_of_ble_eq_true rfl⟩) (ka_preS X9 hP hD hS) rfl rfl hl.1 rfl (lv_room (Nat.le_of_ble_eq_true rfl)) d_Ke_write_32 ⟨Nat.le_of_ble_eq_true rfl, Nat.le_of_ble_eq_true rfl⟩) X9 hD hS rfl (fun H locs hP hD hS => ?_)
  refine lv_aload_n hx hb d_Ke_write_35 rfl (lv_at hl 0 rfl) ?_
  refine va_get (D := D) (ci := 4) (v := .ref (A 4)) (C := R_Ke) (T := T_Ke) (N := 5) hx hb hts wu_Ke hown hK hP 0 rfl rfl 3 (by decide) (hts _ wf_Ke_28) (fun _ h9 => h9) rfl d_Ke_write_36 ?_
  refine lv_iload_n hx hb d_Ke_write_39 rfl (lv_at hl 3 rfl) ?_
  refine lv_iload hx hb d_Ke_write_40 (lv_at hl 4 rfl) ?_
  obtain ⟨v7, e9, h⟩ := zo_b h
  refine ka_i (va_runV (As := [.int x3, .int x4]) (rest := []) S9 (c_Tg_cellOf l hl9 D A r _ u2 x3 x4 _ e9) (cwV 2 hts (tg_V wl_Ke_133 wm_Tg_cellOf we_Tg_cellOf wi_Tg wo_Tg_cellOf) rfl rfl rfl wq_Tg_cellOf ⟨Nat.le_of_ble_eq_true rfl, Nat.le_of_ble_eq_true rfl⟩) (ka_preV X9 hP hD hS 4 rfl rfl) rfl rfl hl.1 rfl (lv_room (Nat.le_of_ble_eq_true rfl)) d_Ke_write_42 ⟨Nat.le_of_ble_eq_true rfl, Nat.le_of_ble_eq_true rfl⟩) X9 hD hS rfl (fun H locs hP hD hS => ?_)
  refine lv_istore (lv' := [(6, .int v7), (0, .ref (A 0)), (1, .int x1), (2, .int x2), (3, .int x3), (4, .int x4), (5, .int x5)]) hx hb d_Ke_write_45 hl (by decide) rfl (fun ls hl => ?_)
  refine lv_aload_n hx hb d_Ke_write_47 rfl (lv_at hl 1 rfl) ?_
  refine va_get (D := D) (ci := 4) (v := .ref (A 4)) (C := R_Ke) (T := T_Ke) (N := 5) hx hb hts wu_Ke hown hK hP 0 rfl rfl 3 (by decide) (hts _ wf_Ke_28) (fun _ h9 => h9) rfl d_Ke_write_48 ?_
  refine lv_iload_n hx hb d_Ke_write_51 rfl (lv_at hl 4 rfl) ?_
  refine lv_iload hx hb d_Ke_write_52 (lv_at hl 5 rfl) ?_
  refine lv_iload hx hb d_Ke_write_54 (lv_at hl 6 rfl) ?_
  obtain ⟨v8, e9, h⟩ := zo_b h
  refine ka_v (va_runV (As := [.int x3, .int x4, .int x5]) (rest := []) S9 (c_Tg_setCell l hl9 D A r _ u2 x3 x4 x5 _ e9) (cwV 3 hts (tg_V wl_Ke_139 wm_Tg_setCell we_Tg_setCell wi_Tg wo_Tg_setCell) rfl rfl rfl wq_Tg_setCell ⟨Nat.le_of_ble_eq_true rfl, Nat.le_of_ble_eq_true rfl⟩) (ka_preV X9 hP hD hS 4 rfl rfl) rfl rfl hl.1 rfl (lv_room (Nat.le_of_ble_eq_true rfl)) d_Ke_write_56 ⟨Nat.le_of_ble_eq_true rfl, Nat.le_of_ble_eq_true rfl⟩) X9 hD hS rfl (fun H locs hP hD hS => ?_)
  refine lv_iload hx hb d_Ke_write_59 (lv_at hl 0 rfl) ?_
  cases h
  exact W.iret hx hb hr (fun t ht hW => ⟨⟨_, (), rfl, rfl, ka_at ht hP⟩, hS.F ht⟩) hS.2.2 d_Ke_write_61 hlk
set_option maxRecDepth 100000 in
set_option maxHeartbeats 4000000 in
theorem c_Ke_write_err (l : Launch) (hl9 : l.stackTraces = false) (D : va_G) (A : Nat → Nat) (r : va_W) (sz : Nat) (σ : KS) (x1 x2 x3 x4 x5 : Int32) (k9 : Nat) (z : KS) (h : f_Ke_write σ x1 x2 x3 x4 x5 = some (.error k9, z)) : vx_Met l y_Ke_write (Cond.code y_Ke_write b_Ke_write 7 (some .int) :: T0) ({ frames := 9, cells := 1, slots := 6, locals := 148 } : Room) (va_Pc [.ref (A 0), .int x1, .int x2, .int x3, .int x4, .int x5] (ka_Wd D A (GW A σ r) sz)) ka_No (ka_Xe D k9 (GW A z r) (va_A (GW A σ r) sz)) 1 6 (va_A (GW A σ r) sz) := by
  unfold f_Ke_write at h
  refine ka_ofX (own := R_Ke) (fun A9 => ka_Xe D k9 (GW A z r) A9) (by decide) rfl (Nat.le_of_ble_eq_true rfl) ?_
  intro p e s m below meth c A9 ls S9 hr hlk hex X9 hP hD hl
  obtain ⟨hx, hb, hml, hown, hts⟩ := id S9
  have hK := X9.2.1
  have hS : va_S A9 s.heap s.heap [] := va_S.rf
  replace hl : lv_has ls 7 [(0, .ref (A 0)), (1, .int x1), (2, .int x2), (3, .int x3), (4, .int x4), (5, .int x5)] := hl
  refine lv_aload_n hx hb d_Ke_write_0 rfl (lv_at hl 0 rfl) ?_
  refine lv_iload_n hx hb d_Ke_write_1 rfl (lv_at hl 1 rfl) ?_
  refine lv_iload_n hx hb d_Ke_write_2 rfl (lv_at hl 2 rfl) ?_
  refine lv_iload_n hx hb d_Ke_write_3 rfl (lv_at hl 3 rfl) ?_
  refine lv_iload hx hb d_Ke_write_4 (lv_at hl 4 rfl) ?_
  rcases zo_x h with ⟨k9, u2, e9, h⟩ | ⟨v1, u2, e9, h⟩
  · cases h
    exact ka_err (vx_runV (As := [.int x1, .int x2, .int x3, .int x4]) (rest := []) S9 (c_Ke_needCell_err l hl9 D A r _ σ x1 x2 x3 x4 _ _ e9) (cwV 4 hts (tg_V wl_Ke_126 wm_Ke_needCell we_Ke_needCell wi_Ke wo_Ke_needCell) rfl rfl rfl wq_Ke_needCell ⟨Nat.le_of_ble_eq_true rfl, Nat.le_of_ble_eq_true rfl⟩) (ka_preV X9 hP hD hS 0 rfl rfl) rfl rfl hl.1 rfl (lv_room (Nat.le_of_ble_eq_true rfl)) d_Ke_write_6 ⟨Nat.le_of_ble_eq_true rfl, Nat.le_of_ble_eq_true rfl⟩) hlk hex X9 hD hS (Nat.le_of_ble_eq_true rfl) (Nat.le_of_ble_eq_true rfl)
  refine ka_v (va_runV (As := [.int x1, .int x2, .int x3, .int x4]) (rest := []) S9 (c_Ke_needCell_ok l hl9 D A r _ σ x1 x2 x3 x4 _ _ e9) (cwV 4 hts (tg_V wl_Ke_126 wm_Ke_needCell we_Ke_needCell wi_Ke wo_Ke_needCell) rfl rfl rfl wq_Ke_needCell ⟨Nat.le_of_ble_eq_true rfl, Nat.le_of_ble_eq_true rfl⟩) (ka_preV X9 hP hD hS 0 rfl rfl) rfl rfl hl.1 rfl (lv_room (Nat.le_of_ble_eq_true rfl)) d_Ke_write_6 ⟨Nat.le_of_ble_eq_true rfl, Nat.le_of_ble_eq_true rfl⟩) X9 hD hS rfl (fun H locs hP hD hS => ?_)
  refine lv_aload_n hx hb d_Ke_write_9 rfl (lv_at hl 0 rfl) ?_
  refine lv_iload_n hx hb d_Ke_write_10 rfl (lv_at hl 1 rfl) ?_
  refine lv_iload_n hx hb d_Ke_write_11 rfl (lv_at hl 2 rfl) ?_
  obtain ⟨v3, e9, h⟩ := zo_b h
  refine ka_i (va_runV (As := [.int x1, .int x2]) (rest := []) S9 (c_Ke_maySee l hl9 D A r _ u2 x1 x2 _ e9) (cwV 2 hts (tg_V wl_Ke_130 wm_Ke_maySee we_Ke_maySee wi_Ke wo_Ke_maySee) rfl rfl rfl wq_Ke_maySee ⟨Nat.le_of_ble_eq_true rfl, Nat.le_of_ble_eq_true rfl⟩) (ka_preV X9 hP hD hS 0 rfl rfl) rfl rfl hl.1 rfl (lv_room (Nat.le_of_ble_eq_true rfl)) d_Ke_write_12 ⟨Nat.le_of_ble_eq_true rfl, Nat.le_of_ble_eq_true rfl⟩) X9 hD hS rfl (fun H locs hP hD hS => ?_)
  refine lv_if_eq (tgt := 31) hx hb d_Ke_write_15 (by decide) (fun c4 => ?_) (fun c4 => ?_)
  · replace h := zo_t c4 h
    refine lv_iconst (v := 0) hx hb d_Ke_write_31 (by decide) ?_
    obtain ⟨rfl, rfl⟩ := zo_e h
    exact ka_err (vx_runS (As := [.int 0]) (rest := []) S9 (c_Ke_needAllowed_err l hl9 D A (GW A u2 r) _ 0 rfl) (cwS 1 hts (tg_S wl_Ke_123 ws_Ke_needAllowed wi_Ke wo_Ke_needAllowed) rfl rfl rfl wq_Ke_needAllowed ⟨Nat.le_of_ble_eq_true rfl, Nat.le_of_ble_eq_true rfl⟩) (ka_preS X9 hP hD hS) rfl rfl hl.1 rfl (lv_room (Nat.le_of_ble_eq_true rfl)) d_Ke_write_32 ⟨Nat.le_of_ble_eq_true rfl, Nat.le_of_ble_eq_true rfl⟩) hlk hex X9 hD hS (Nat.le_of_ble_eq_true rfl) (Nat.le_of_ble_eq_true rfl)
  replace h := zo_f c4 h
  refine lv_aload_n hx hb d_Ke_write_18 rfl (lv_at hl 0 rfl) ?_
  refine lv_iload_n hx hb d_Ke_write_19 rfl (lv_at hl 1 rfl) ?_
  refine lv_iload_n hx hb d_Ke_write_20 rfl (lv_at hl 3 rfl) ?_
  obtain ⟨v5, e9, h⟩ := zo_b h
  refine ka_i (va_runV (As := [.int x1, .int x3]) (rest := []) S9 (c_Ke_mayChange l hl9 D A r _ u2 x1 x3 _ e9) (cwV 2 hts (tg_V wl_Ke_136 wm_Ke_mayChange we_Ke_mayChange wi_Ke wo_Ke_mayChange) rfl rfl rfl wq_Ke_mayChange ⟨Nat.le_of_ble_eq_true rfl, Nat.le_of_ble_eq_true rfl⟩) (ka_preV X9 hP hD hS 0 rfl rfl) rfl rfl hl.1 rfl (lv_room (Nat.le_of_ble_eq_true rfl)) d_Ke_write_21 ⟨Nat.le_of_ble_eq_true rfl, Nat.le_of_ble_eq_true rfl⟩) X9 hD hS rfl (fun H locs hP hD hS => ?_)
  refine lv_if_eq (tgt := 31) hx hb d_Ke_write_24 (by decide) (fun c6 => ?_) (fun c6 => ?_)
  · replace h := zo_t c6 h
    refine lv_iconst (v := 0) hx hb d_Ke_write_31 (by decide) ?_
    obtain ⟨rfl, rfl⟩ := zo_e h
    exact ka_err (vx_runS (As := [.int 0]) (rest := []) S9 (c_Ke_needAllowed_err l hl9 D A (GW A u2 r) _ 0 rfl) (cwS 1 hts (tg_S wl_Ke_123 ws_Ke_needAllowed wi_Ke wo_Ke_needAllowed) rfl rfl rfl wq_Ke_needAllowed ⟨Nat.le_of_ble_eq_true rfl, Nat.le_of_ble_eq_true rfl⟩) (ka_preS X9 hP hD hS) rfl rfl hl.1 rfl (lv_room (Nat.le_of_ble_eq_true rfl)) d_Ke_write_32 ⟨Nat.le_of_ble_eq_true rfl, Nat.le_of_ble_eq_true rfl⟩) hlk hex X9 hD hS (Nat.le_of_ble_eq_true rfl) (Nat.le_of_ble_eq_true rfl)
  replace h := zo_f c6 h
  refine lv_iconst (v := 1) hx hb d_Ke_write_27 (by decide) ?_
  refine lv_goto (tgt := 32) hx hb d_Ke_write_28 (by decide) ?_
  refine ka_v (va_runS (As := [.int 1]) (rest := []) S9 (c_Ke_needAllowed_ok l hl9 D A (GW A u2 r) _ 1 (by decide)) (cwS 1 hts (tg_S wl_Ke_123 ws_Ke_needAllowed wi_Ke wo_Ke_needAllowed) rfl rfl rfl wq_Ke_needAllowed ⟨Nat.le_of_ble_eq_true rfl, Nat.le_of_ble_eq_true rfl⟩) (ka_preS X9 hP hD hS) rfl rfl hl.1 rfl (lv_room (Nat.le_of_ble_eq_true rfl)) d_Ke_write_32 ⟨Nat.le_of_ble_eq_true rfl, Nat.le_of_ble_eq_true rfl⟩) X9 hD hS rfl (fun H locs hP hD hS => ?_)
  refine lv_aload_n hx hb d_Ke_write_35 rfl (lv_at hl 0 rfl) ?_
  refine va_get (D := D) (ci := 4) (v := .ref (A 4)) (C := R_Ke) (T := T_Ke) (N := 5) hx hb hts wu_Ke hown hK hP 0 rfl rfl 3 (by decide) (hts _ wf_Ke_28) (fun _ h9 => h9) rfl d_Ke_write_36 ?_
  refine lv_iload_n hx hb d_Ke_write_39 rfl (lv_at hl 3 rfl) ?_
  refine lv_iload hx hb d_Ke_write_40 (lv_at hl 4 rfl) ?_
  obtain ⟨v7, e9, h⟩ := zo_b h
  refine ka_i (va_runV (As := [.int x3, .int x4]) (rest := []) S9 (c_Tg_cellOf l hl9 D A r _ u2 x3 x4 _ e9) (cwV 2 hts (tg_V wl_Ke_133 wm_Tg_cellOf we_Tg_cellOf wi_Tg wo_Tg_cellOf) rfl rfl rfl wq_Tg_cellOf ⟨Nat.le_of_ble_eq_true rfl, Nat.le_of_ble_eq_true rfl⟩) (ka_preV X9 hP hD hS 4 rfl rfl) rfl rfl hl.1 rfl (lv_room (Nat.le_of_ble_eq_true rfl)) d_Ke_write_42 ⟨Nat.le_of_ble_eq_true rfl, Nat.le_of_ble_eq_true rfl⟩) X9 hD hS rfl (fun H locs hP hD hS => ?_)
  refine lv_istore (lv' := [(6, .int v7), (0, .ref (A 0)), (1, .int x1), (2, .int x2), (3, .int x3), (4, .int x4), (5, .int x5)]) hx hb d_Ke_write_45 hl (by decide) rfl (fun ls hl => ?_)
  refine lv_aload_n hx hb d_Ke_write_47 rfl (lv_at hl 1 rfl) ?_
  refine va_get (D := D) (ci := 4) (v := .ref (A 4)) (C := R_Ke) (T := T_Ke) (N := 5) hx hb hts wu_Ke hown hK hP 0 rfl rfl 3 (by decide) (hts _ wf_Ke_28) (fun _ h9 => h9) rfl d_Ke_write_48 ?_
  refine lv_iload_n hx hb d_Ke_write_51 rfl (lv_at hl 4 rfl) ?_
  refine lv_iload hx hb d_Ke_write_52 (lv_at hl 5 rfl) ?_
  refine lv_iload hx hb d_Ke_write_54 (lv_at hl 6 rfl) ?_
  obtain ⟨v8, e9, h⟩ := zo_b h
  refine ka_v (va_runV (As := [.int x3, .int x4, .int x5]) (rest := []) S9 (c_Tg_setCell l hl9 D A r _ u2 x3 x4 x5 _ e9) (cwV 3 hts (tg_V wl_Ke_139 wm_Tg_setCell we_Tg_setCell wi_Tg wo_Tg_setCell) rfl rfl rfl wq_Tg_setCell ⟨Nat.le_of_ble_eq_true rfl, Nat.le_of_ble_eq_true rfl⟩) (ka_preV X9 hP hD hS 4 rfl rfl) rfl rfl hl.1 rfl (lv_room (Nat.le_of_ble_eq_true rfl)) d_Ke_write_56 ⟨Nat.le_of_ble_eq_true rfl, Nat.le_of_ble_eq_true rfl⟩) X9 hD hS rfl (fun H locs hP hD hS => ?_)
  refine lv_iload hx hb d_Ke_write_59 (lv_at hl 0 rfl) ?_
  cases h
def f_Ke_needObjectIn (σ : KS) (x1 x2 x3 : Int32) : Option (Except Nat Unit × KS) := zx (f_Ke_needThere σ x1 x2 x3) fun _ u2 => (f_Tg_isOfKind u2 x1 3).bind fun v3 => if v3 = 0 then (some (.error 1, u2)) else ((f_Tg_isOfKind u2 x2 0).bind fun v5 => if v5 = 0 then (some (.error 1, u2)) else ((f_Tg_isIn u2 x3 x2).bind fun v7 => if v7 = 0 then some (.error 2, u2) else some (.ok (), u2)))
set_option maxRecDepth 100000 in
set_option maxHeartbeats 4000000 in
theorem c_Ke_needObjectIn_ok (l : Launch) (hl9 : l.stackTraces = false) (D : va_G) (A : Nat → Nat) (r : va_W) (sz : Nat) (σ : KS) (x1 x2 x3 : Int32) (z9 : Unit) (z : KS) (h : f_Ke_needObjectIn σ x1 x2 x3 = some (.ok z9, z)) : Met l y_Ke_needObjectIn (Cond.code y_Ke_needObjectIn b_Ke_needObjectIn 4 none :: T0) ({ frames := 2, cells := 0, slots := 0, locals := 44 } : Room) (va_Pc [.ref (A 0), .int x1, .int x2, .int x3] (ka_Wd D A (GW A σ r) sz)) (ka_Rv D (GW A z r) (va_A (GW A σ r) sz)) 0 0 (va_A (GW A σ r) sz) := by
  unfold f_Ke_needObjectIn at h
  refine ka_of (own := R_Ke) (fun A9 => ka_Rv D (GW A z r) A9) (by decide) rfl (Nat.le_of_ble_eq_true rfl) ?_
  intro p e s m below meth c A9 ls S9 hr hlk hex X9 hP hD hl
  obtain ⟨hx, hb, hml, hown, hts⟩ := id S9
  have hK := X9.2.1
  have hS : va_S A9 s.heap s.heap [] := va_S.rf
  replace hl : lv_has ls 4 [(0, .ref (A 0)), (1, .int x1), (2, .int x2), (3, .int x3)] := hl
  refine lv_aload_n hx hb d_Ke_needObjectIn_0 rfl (lv_at hl 0 rfl) ?_
  refine lv_iload_n hx hb d_Ke_needObjectIn_1 rfl (lv_at hl 1 rfl) ?_
  refine lv_iload_n hx hb d_Ke_needObjectIn_2 rfl (lv_at hl 2 rfl) ?_
  refine lv_iload_n hx hb d_Ke_needObjectIn_3 rfl (lv_at hl 3 rfl) ?_
  rcases zo_x h with ⟨k9, u2, e9, h⟩ | ⟨v1, u2, e9, h⟩
  · cases h
  refine ka_v (va_runV (As := [.int x1, .int x2, .int x3]) (rest := []) S9 (c_Ke_needThere_ok l hl9 D A r _ σ x1 x2 x3 _ _ e9) (cwV 3 hts (tg_V wl_Ke_160 wm_Ke_needThere we_Ke_needThere wi_Ke wo_Ke_needThere) rfl rfl rfl wq_Ke_needThere ⟨Nat.le_of_ble_eq_true rfl, Nat.le_of_ble_eq_true rfl⟩) (ka_preV X9 hP hD hS 0 rfl rfl) rfl rfl hl.1 rfl (lv_room (Nat.le_of_ble_eq_true rfl)) d_Ke_needObjectIn_4 ⟨Nat.le_of_ble_eq_true rfl, Nat.le_of_ble_eq_true rfl⟩) X9 hD hS rfl (fun H locs hP hD hS => ?_)
  refine lv_aload_n hx hb d_Ke_needObjectIn_7 rfl (lv_at hl 0 rfl) ?_
  refine va_get (D := D) (ci := 4) (v := .ref (A 4)) (C := R_Ke) (T := T_Ke) (N := 5) hx hb hts wu_Ke hown hK hP 0 rfl rfl 3 (by decide) (hts _ wf_Ke_28) (fun _ h9 => h9) rfl d_Ke_needObjectIn_8 ?_
  refine lv_iload_n hx hb d_Ke_needObjectIn_11 rfl (lv_at hl 1 rfl) ?_
  refine lv_iconst (v := 3) hx hb d_Ke_needObjectIn_12 (by decide) ?_
  obtain ⟨v3, e9, h⟩ := zo_b h
  refine ka_i (va_runV (As := [.int x1, .int 3]) (rest := []) S9 (c_Tg_isOfKind l hl9 D A r _ u2 x1 3 _ e9) (cwV 2 hts (tg_V wl_Ke_163 wm_Tg_isOfKind we_Tg_isOfKind wi_Tg wo_Tg_isOfKind) rfl rfl rfl wq_Tg_isOfKind ⟨Nat.le_of_ble_eq_true rfl, Nat.le_of_ble_eq_true rfl⟩) (ka_preV X9 hP hD hS 4 rfl rfl) rfl rfl hl.1 rfl (lv_room (Nat.le_of_ble_eq_true rfl)) d_Ke_needObjectIn_13 ⟨Nat.le_of_ble_eq_true rfl, Nat.le_of_ble_eq_true rfl⟩) X9 hD hS rfl (fun H locs hP hD hS => ?_)
  refine lv_if_eq (tgt := 35) hx hb d_Ke_needObjectIn_16 (by decide) (fun c4 => ?_) (fun c4 => ?_)
  · replace h := zo_t c4 h
    refine lv_iconst (v := 0) hx hb d_Ke_needObjectIn_35 (by decide) ?_
    cases h
  replace h := zo_f c4 h
  refine lv_aload_n hx hb d_Ke_needObjectIn_19 rfl (lv_at hl 0 rfl) ?_
  refine va_get (D := D) (ci := 4) (v := .ref (A 4)) (C := R_Ke) (T := T_Ke) (N := 5) hx hb hts wu_Ke hown hK hP 0 rfl rfl 3 (by decide) (hts _ wf_Ke_28) (fun _ h9 => h9) rfl d_Ke_needObjectIn_20 ?_
  refine lv_iload_n hx hb d_Ke_needObjectIn_23 rfl (lv_at hl 2 rfl) ?_
  refine lv_iconst (v := 0) hx hb d_Ke_needObjectIn_24 (by decide) ?_
  obtain ⟨v5, e9, h⟩ := zo_b h
  refine ka_i (va_runV (As := [.int x2, .int 0]) (rest := []) S9 (c_Tg_isOfKind l hl9 D A r _ u2 x2 0 _ e9) (cwV 2 hts (tg_V wl_Ke_163 wm_Tg_isOfKind we_Tg_isOfKind wi_Tg wo_Tg_isOfKind) rfl rfl rfl wq_Tg_isOfKind ⟨Nat.le_of_ble_eq_true rfl, Nat.le_of_ble_eq_true rfl⟩) (ka_preV X9 hP hD hS 4 rfl rfl) rfl rfl hl.1 rfl (lv_room (Nat.le_of_ble_eq_true rfl)) d_Ke_needObjectIn_25 ⟨Nat.le_of_ble_eq_true rfl, Nat.le_of_ble_eq_true rfl⟩) X9 hD hS rfl (fun H locs hP hD hS => ?_)
  refine lv_if_eq (tgt := 35) hx hb d_Ke_needObjectIn_28 (by decide) (fun c6 => ?_) (fun c6 => ?_)
  · replace h := zo_t c6 h
    refine lv_iconst (v := 0) hx hb d_Ke_needObjectIn_35 (by decide) ?_
    cases h
  replace h := zo_f c6 h
  refine lv_iconst (v := 1) hx hb d_Ke_needObjectIn_31 (by decide) ?_
  refine lv_goto (tgt := 36) hx hb d_Ke_needObjectIn_32 (by decide) ?_
  refine ka_v (va_runS (As := [.int 1]) (rest := []) S9 (c_Ke_needNumber_ok l hl9 D A (GW A u2 r) _ 1 (by decide)) (cwS 1 hts (tg_S wl_Ke_44 ws_Ke_needNumber wi_Ke wo_Ke_needNumber) rfl rfl rfl wq_Ke_needNumber ⟨Nat.le_of_ble_eq_true rfl, Nat.le_of_ble_eq_true rfl⟩) (ka_preS X9 hP hD hS) rfl rfl hl.1 rfl (lv_room (Nat.le_of_ble_eq_true rfl)) d_Ke_needObjectIn_36 ⟨Nat.le_of_ble_eq_true rfl, Nat.le_of_ble_eq_true rfl⟩) X9 hD hS rfl (fun H locs hP hD hS => ?_)
  refine lv_aload_n hx hb d_Ke_needObjectIn_39 rfl (lv_at hl 0 rfl) ?_
  refine va_get (D := D) (ci := 4) (v := .ref (A 4)) (C := R_Ke) (T := T_Ke) (N := 5) hx hb hts wu_Ke hown hK hP 0 rfl rfl 3 (by decide) (hts _ wf_Ke_28) (fun _ h9 => h9) rfl d_Ke_needObjectIn_40 ?_
  refine lv_iload_n hx hb d_Ke_needObjectIn_43 rfl (lv_at hl 3 rfl) ?_
  refine lv_iload_n hx hb d_Ke_needObjectIn_44 rfl (lv_at hl 2 rfl) ?_
  obtain ⟨v7, e9, h⟩ := zo_b h
  refine ka_i (va_runV (As := [.int x3, .int x2]) (rest := []) S9 (c_Tg_isIn l hl9 D A r _ u2 x3 x2 _ e9) (cwV 2 hts (tg_V wl_Ke_166 wm_Tg_isIn we_Tg_isIn wi_Tg wo_Tg_isIn) rfl rfl rfl wq_Tg_isIn ⟨Nat.le_of_ble_eq_true rfl, Nat.le_of_ble_eq_true rfl⟩) (ka_preV X9 hP hD hS 4 rfl rfl) rfl rfl hl.1 rfl (lv_room (Nat.le_of_ble_eq_true rfl)) d_Ke_needObjectIn_45 ⟨Nat.le_of_ble_eq_true rfl, Nat.le_of_ble_eq_true rfl⟩) X9 hD hS rfl (fun H locs hP hD hS => ?_)
  rcases zo_n h with ⟨c9, h⟩ | ⟨c9, h⟩
  · cases h
  refine ka_v (va_runS (As := [.int v7]) (rest := []) S9 (c_Ke_needFound_ok l hl9 D A (GW A u2 r) _ v7 c9) (cwS 1 hts (tg_S wl_Ke_169 ws_Ke_needFound wi_Ke wo_Ke_needFound) rfl rfl rfl wq_Ke_needFound ⟨Nat.le_of_ble_eq_true rfl, Nat.le_of_ble_eq_true rfl⟩) (ka_preS X9 hP hD hS) rfl rfl hl.1 rfl (lv_room (Nat.le_of_ble_eq_true rfl)) d_Ke_needObjectIn_48 ⟨Nat.le_of_ble_eq_true rfl, Nat.le_of_ble_eq_true rfl⟩) X9 hD hS rfl (fun H locs hP hD hS => ?_)
  cases h
  exact W.vret hx hb hr (fun t ht hW => ⟨⟨(), rfl, trivial, ka_at ht hP⟩, hS.F ht⟩) hS.2.2 d_Ke_needObjectIn_51 hlk
set_option maxRecDepth 100000 in
set_option maxHeartbeats 4000000 in
theorem c_Ke_needObjectIn_err (l : Launch) (hl9 : l.stackTraces = false) (D : va_G) (A : Nat → Nat) (r : va_W) (sz : Nat) (σ : KS) (x1 x2 x3 : Int32) (k9 : Nat) (z : KS) (h : f_Ke_needObjectIn σ x1 x2 x3 = some (.error k9, z)) : vx_Met l y_Ke_needObjectIn (Cond.code y_Ke_needObjectIn b_Ke_needObjectIn 4 none :: T0) ({ frames := 8, cells := 1, slots := 6, locals := 124 } : Room) (va_Pc [.ref (A 0), .int x1, .int x2, .int x3] (ka_Wd D A (GW A σ r) sz)) ka_No (ka_Xe D k9 (GW A z r) (va_A (GW A σ r) sz)) 1 6 (va_A (GW A σ r) sz) := by
  unfold f_Ke_needObjectIn at h
  refine ka_ofX (own := R_Ke) (fun A9 => ka_Xe D k9 (GW A z r) A9) (by decide) rfl (Nat.le_of_ble_eq_true rfl) ?_
  intro p e s m below meth c A9 ls S9 hr hlk hex X9 hP hD hl
  obtain ⟨hx, hb, hml, hown, hts⟩ := id S9
  have hK := X9.2.1
  have hS : va_S A9 s.heap s.heap [] := va_S.rf
  replace hl : lv_has ls 4 [(0, .ref (A 0)), (1, .int x1), (2, .int x2), (3, .int x3)] := hl
  refine lv_aload_n hx hb d_Ke_needObjectIn_0 rfl (lv_at hl 0 rfl) ?_
  refine lv_iload_n hx hb d_Ke_needObjectIn_1 rfl (lv_at hl 1 rfl) ?_
  refine lv_iload_n hx hb d_Ke_needObjectIn_2 rfl (lv_at hl 2 rfl) ?_
  refine lv_iload_n hx hb d_Ke_needObjectIn_3 rfl (lv_at hl 3 rfl) ?_
  rcases zo_x h with ⟨k9, u2, e9, h⟩ | ⟨v1, u2, e9, h⟩
  · cases h
    exact ka_err (vx_runV (As := [.int x1, .int x2, .int x3]) (rest := []) S9 (c_Ke_needThere_err l hl9 D A r _ σ x1 x2 x3 _ _ e9) (cwV 3 hts (tg_V wl_Ke_160 wm_Ke_needThere we_Ke_needThere wi_Ke wo_Ke_needThere) rfl rfl rfl wq_Ke_needThere ⟨Nat.le_of_ble_eq_true rfl, Nat.le_of_ble_eq_true rfl⟩) (ka_preV X9 hP hD hS 0 rfl rfl) rfl rfl hl.1 rfl (lv_room (Nat.le_of_ble_eq_true rfl)) d_Ke_needObjectIn_4 ⟨Nat.le_of_ble_eq_true rfl, Nat.le_of_ble_eq_true rfl⟩) hlk hex X9 hD hS (Nat.le_of_ble_eq_true rfl) (Nat.le_of_ble_eq_true rfl)
  refine ka_v (va_runV (As := [.int x1, .int x2, .int x3]) (rest := []) S9 (c_Ke_needThere_ok l hl9 D A r _ σ x1 x2 x3 _ _ e9) (cwV 3 hts (tg_V wl_Ke_160 wm_Ke_needThere we_Ke_needThere wi_Ke wo_Ke_needThere) rfl rfl rfl wq_Ke_needThere ⟨Nat.le_of_ble_eq_true rfl, Nat.le_of_ble_eq_true rfl⟩) (ka_preV X9 hP hD hS 0 rfl rfl) rfl rfl hl.1 rfl (lv_room (Nat.le_of_ble_eq_true rfl)) d_Ke_needObjectIn_4 ⟨Nat.le_of_ble_eq_true rfl, Nat.le_of_ble_eq_true rfl⟩) X9 hD hS rfl (fun H locs hP hD hS => ?_)
  refine lv_aload_n hx hb d_Ke_needObjectIn_7 rfl (lv_at hl 0 rfl) ?_
  refine va_get (D := D) (ci := 4) (v := .ref (A 4)) (C := R_Ke) (T := T_Ke) (N := 5) hx hb hts wu_Ke hown hK hP 0 rfl rfl 3 (by decide) (hts _ wf_Ke_28) (fun _ h9 => h9) rfl d_Ke_needObjectIn_8 ?_
  refine lv_iload_n hx hb d_Ke_needObjectIn_11 rfl (lv_at hl 1 rfl) ?_
  refine lv_iconst (v := 3) hx hb d_Ke_needObjectIn_12 (by decide) ?_
  obtain ⟨v3, e9, h⟩ := zo_b h
  refine ka_i (va_runV (As := [.int x1, .int 3]) (rest := []) S9 (c_Tg_isOfKind l hl9 D A r _ u2 x1 3 _ e9) (cwV 2 hts (tg_V wl_Ke_163 wm_Tg_isOfKind we_Tg_isOfKind wi_Tg wo_Tg_isOfKind) rfl rfl rfl wq_Tg_isOfKind ⟨Nat.le_of_ble_eq_true rfl, Nat.le_of_ble_eq_true rfl⟩) (ka_preV X9 hP hD hS 4 rfl rfl) rfl rfl hl.1 rfl (lv_room (Nat.le_of_ble_eq_true rfl)) d_Ke_needObjectIn_13 ⟨Nat.le_of_ble_eq_true rfl, Nat.le_of_ble_eq_true rfl⟩) X9 hD hS rfl (fun H locs hP hD hS => ?_)
  refine lv_if_eq (tgt := 35) hx hb d_Ke_needObjectIn_16 (by decide) (fun c4 => ?_) (fun c4 => ?_)
  · replace h := zo_t c4 h
    refine lv_iconst (v := 0) hx hb d_Ke_needObjectIn_35 (by decide) ?_
    obtain ⟨rfl, rfl⟩ := zo_e h
    exact ka_err (vx_runS (As := [.int 0]) (rest := []) S9 (c_Ke_needNumber_err l hl9 D A (GW A u2 r) _ 0 rfl) (cwS 1 hts (tg_S wl_Ke_44 ws_Ke_needNumber wi_Ke wo_Ke_needNumber) rfl rfl rfl wq_Ke_needNumber ⟨Nat.le_of_ble_eq_true rfl, Nat.le_of_ble_eq_true rfl⟩) (ka_preS X9 hP hD hS) rfl rfl hl.1 rfl (lv_room (Nat.le_of_ble_eq_true rfl)) d_Ke_needObjectIn_36 ⟨Nat.le_of_ble_eq_true rfl, Nat.le_of_ble_eq_true rfl⟩) hlk hex X9 hD hS (Nat.le_of_ble_eq_true rfl) (Nat.le_of_ble_eq_true rfl)
  replace h := zo_f c4 h
  refine lv_aload_n hx hb d_Ke_needObjectIn_19 rfl (lv_at hl 0 rfl) ?_
  refine va_get (D := D) (ci := 4) (v := .ref (A 4)) (C := R_Ke) (T := T_Ke) (N := 5) hx hb hts wu_Ke hown hK hP 0 rfl rfl 3 (by decide) (hts _ wf_Ke_28) (fun _ h9 => h9) rfl d_Ke_needObjectIn_20 ?_
  refine lv_iload_n hx hb d_Ke_needObjectIn_23 rfl (lv_at hl 2 rfl) ?_
  refine lv_iconst (v := 0) hx hb d_Ke_needObjectIn_24 (by decide) ?_
  obtain ⟨v5, e9, h⟩ := zo_b h
  refine ka_i (va_runV (As := [.int x2, .int 0]) (rest := []) S9 (c_Tg_isOfKind l hl9 D A r _ u2 x2 0 _ e9) (cwV 2 hts (tg_V wl_Ke_163 wm_Tg_isOfKind we_Tg_isOfKind wi_Tg wo_Tg_isOfKind) rfl rfl rfl wq_Tg_isOfKind ⟨Nat.le_of_ble_eq_true rfl, Nat.le_of_ble_eq_true rfl⟩) (ka_preV X9 hP hD hS 4 rfl rfl) rfl rfl hl.1 rfl (lv_room (Nat.le_of_ble_eq_true rfl)) d_Ke_needObjectIn_25 ⟨Nat.le_of_ble_eq_true rfl, Nat.le_of_ble_eq_true rfl⟩) X9 hD hS rfl (fun H locs hP hD hS => ?_)
  refine lv_if_eq (tgt := 35) hx hb d_Ke_needObjectIn_28 (by decide) (fun c6 => ?_) (fun c6 => ?_)
  · replace h := zo_t c6 h
    refine lv_iconst (v := 0) hx hb d_Ke_needObjectIn_35 (by decide) ?_
    obtain ⟨rfl, rfl⟩ := zo_e h
    exact ka_err (vx_runS (As := [.int 0]) (rest := []) S9 (c_Ke_needNumber_err l hl9 D A (GW A u2 r) _ 0 rfl) (cwS 1 hts (tg_S wl_Ke_44 ws_Ke_needNumber wi_Ke wo_Ke_needNumber) rfl rfl rfl wq_Ke_needNumber ⟨Nat.le_of_ble_eq_true rfl, Nat.le_of_ble_eq_true rfl⟩) (ka_preS X9 hP hD hS) rfl rfl hl.1 rfl (lv_room (Nat.le_of_ble_eq_true rfl)) d_Ke_needObjectIn_36 ⟨Nat.le_of_ble_eq_true rfl, Nat.le_of_ble_eq_true rfl⟩) hlk hex X9 hD hS (Nat.le_of_ble_eq_true rfl) (Nat.le_of_ble_eq_true rfl)
  replace h := zo_f c6 h
  refine lv_iconst (v := 1) hx hb d_Ke_needObjectIn_31 (by decide) ?_
  refine lv_goto (tgt := 36) hx hb d_Ke_needObjectIn_32 (by decide) ?_
  refine ka_v (va_runS (As := [.int 1]) (rest := []) S9 (c_Ke_needNumber_ok l hl9 D A (GW A u2 r) _ 1 (by decide)) (cwS 1 hts (tg_S wl_Ke_44 ws_Ke_needNumber wi_Ke wo_Ke_needNumber) rfl rfl rfl wq_Ke_needNumber ⟨Nat.le_of_ble_eq_true rfl, Nat.le_of_ble_eq_true rfl⟩) (ka_preS X9 hP hD hS) rfl rfl hl.1 rfl (lv_room (Nat.le_of_ble_eq_true rfl)) d_Ke_needObjectIn_36 ⟨Nat.le_of_ble_eq_true rfl, Nat.le_of_ble_eq_true rfl⟩) X9 hD hS rfl (fun H locs hP hD hS => ?_)
  refine lv_aload_n hx hb d_Ke_needObjectIn_39 rfl (lv_at hl 0 rfl) ?_
  refine va_get (D := D) (ci := 4) (v := .ref (A 4)) (C := R_Ke) (T := T_Ke) (N := 5) hx hb hts wu_Ke hown hK hP 0 rfl rfl 3 (by decide) (hts _ wf_Ke_28) (fun _ h9 => h9) rfl d_Ke_needObjectIn_40 ?_
  refine lv_iload_n hx hb d_Ke_needObjectIn_43 rfl (lv_at hl 3 rfl) ?_
  refine lv_iload_n hx hb d_Ke_needObjectIn_44 rfl (lv_at hl 2 rfl) ?_
  obtain ⟨v7, e9, h⟩ := zo_b h
  refine ka_i (va_runV (As := [.int x3, .int x2]) (rest := []) S9 (c_Tg_isIn l hl9 D A r _ u2 x3 x2 _ e9) (cwV 2 hts (tg_V wl_Ke_166 wm_Tg_isIn we_Tg_isIn wi_Tg wo_Tg_isIn) rfl rfl rfl wq_Tg_isIn ⟨Nat.le_of_ble_eq_true rfl, Nat.le_of_ble_eq_true rfl⟩) (ka_preV X9 hP hD hS 4 rfl rfl) rfl rfl hl.1 rfl (lv_room (Nat.le_of_ble_eq_true rfl)) d_Ke_needObjectIn_45 ⟨Nat.le_of_ble_eq_true rfl, Nat.le_of_ble_eq_true rfl⟩) X9 hD hS rfl (fun H locs hP hD hS => ?_)
  rcases zo_n h with ⟨c9, h⟩ | ⟨c9, h⟩
  · obtain ⟨rfl, rfl⟩ := zo_e h
    exact ka_err (vx_runS (As := [.int v7]) (rest := []) S9 (c_Ke_needFound_err l hl9 D A (GW A u2 r) _ v7 c9) (cwS 1 hts (tg_S wl_Ke_169 ws_Ke_needFound wi_Ke wo_Ke_needFound) rfl rfl rfl wq_Ke_needFound ⟨Nat.le_of_ble_eq_true rfl, Nat.le_of_ble_eq_true rfl⟩) (ka_preS X9 hP hD hS) rfl rfl hl.1 rfl (lv_room (Nat.le_of_ble_eq_true rfl)) d_Ke_needObjectIn_48 ⟨Nat.le_of_ble_eq_true rfl, Nat.le_of_ble_eq_true rfl⟩) hlk hex X9 hD hS (Nat.le_of_ble_eq_true rfl) (Nat.le_of_ble_eq_true rfl)
  refine ka_v (va_runS (As := [.int v7]) (rest := []) S9 (c_Ke_needFound_ok l hl9 D A (GW A u2 r) _ v7 c9) (cwS 1 hts (tg_S wl_Ke_169 ws_Ke_needFound wi_Ke wo_Ke_needFound) rfl rfl rfl wq_Ke_needFound ⟨Nat.le_of_ble_eq_true rfl, Nat.le_of_ble_eq_true rfl⟩) (ka_preS X9 hP hD hS) rfl rfl hl.1 rfl (lv_room (Nat.le_of_ble_eq_true rfl)) d_Ke_needObjectIn_48 ⟨Nat.le_of_ble_eq_true rfl, Nat.le_of_ble_eq_true rfl⟩) X9 hD hS rfl (fun H locs hP hD hS => ?_)
  cases h
def f_Ke_move (σ : KS) (x1 x2 x3 x4 : Int32) : Option (Except Nat Int32 × KS) := (f_Ke_isBetween x4 (-200) 200).bind fun v1 => if v1 = 0 then some (.error 1, σ) else zx (f_Ke_needObjectIn σ x1 x2 x3) fun _ u3 => (f_Ke_mayChange u3 x1 x2).bind fun v4 => if v4 = 0 then (some (.error 3, u3)) else ((f_Ke_mayChange u3 x1 x3).bind fun v6 => if v6 = 0 then (some (.error 3, u3)) else ((f_Tg_quotaOf u3 x3).bind fun v8 => (f_Tg_useOf u3 x3).bind fun v9 => if (v8 + x4) < v9 then (some (.error 4, u3)) else ((f_Tg_quotaOf u3 x2).bind fun v11 => (f_Tg_useOf u3 x2).bind fun v12 => if v11 < (v12 + x4) then (some (.error 4, u3)) else ((f_Tg_setQuota u3 x3 (v8 + x4)).bind fun v14 => some (.ok (v8 + x4), v14)))))
set_option maxRecDepth 100000 in
set_option maxHeartbeats 4000000 in
theorem c_Ke_move_ok (l : Launch) (hl9 : l.stackTraces = false) (D : va_G) (A : Nat → Nat) (r : va_W) (sz : Nat) (σ : KS) (x1 x2 x3 x4 : Int32) (z9 : Int32) (z : KS) (h : f_Ke_move σ x1 x2 x3 x4 = some (.ok z9, z)) : Met l y_Ke_move (Cond.code y_Ke_move b_Ke_move 6 (some .int) :: T0) ({ frames := 4, cells := 0, slots := 0, locals := 89 } : Room) (va_Pc [.ref (A 0), .int x1, .int x2, .int x3, .int x4] (ka_Wd D A (GW A σ r) sz)) (ka_Ri D z9 (GW A z r) (va_A (GW A σ r) sz)) 0 0 (va_A (GW A σ r) sz) := by
  unfold f_Ke_move at h
  refine ka_of (own := R_Ke) (fun A9 => ka_Ri D z9 (GW A z r) A9) (by decide) rfl (Nat.le_of_ble_eq_true rfl) ?_
  intro p e s m below meth c A9 ls S9 hr hlk hex X9 hP hD hl
  obtain ⟨hx, hb, hml, hown, hts⟩ := id S9
  have hK := X9.2.1
  have hS : va_S A9 s.heap s.heap [] := va_S.rf
  replace hl : lv_has ls 6 [(0, .ref (A 0)), (1, .int x1), (2, .int x2), (3, .int x3), (4, .int x4)] := hl
  refine lv_iload hx hb d_Ke_move_0 (lv_at hl 4 rfl) ?_
  refine lv_sipush (v := (-200)) hx hb d_Ke_move_2 (by decide) ?_
  refine lv_sipush (v := 200) hx hb d_Ke_move_5 (by decide) ?_
  obtain ⟨v1, e9, h⟩ := zo_b h
  refine ka_i (va_runS (As := [.int x4, .int (-200), .int 200]) (rest := []) S9 (c_Ke_isBetween l hl9 D A (GW A σ r) _ x4 (-200) 200 _ e9) (cwS 3 hts (tg_S wl_Ke_40 ws_Ke_isBetween wi_Ke wo_Ke_isBetween) rfl rfl rfl wq_Ke_isBetween ⟨Nat.le_of_ble_eq_true rfl, Nat.le_of_ble_eq_true rfl⟩) (ka_preS X9 hP hD hS) rfl rfl hl.1 rfl (lv_room (Nat.le_of_ble_eq_true rfl)) d_Ke_move_8 ⟨Nat.le_of_ble_eq_true rfl, Nat.le_of_ble_eq_true rfl⟩) X9 hD hS rfl (fun H locs hP hD hS => ?_)
  rcases zo_n h with ⟨c9, h⟩ | ⟨c9, h⟩
  · cases h
  refine ka_v (va_runS (As := [.int v1]) (rest := []) S9 (c_Ke_needNumber_ok l hl9 D A (GW A σ r) _ v1 c9) (cwS 1 hts (tg_S wl_Ke_44 ws_Ke_needNumber wi_Ke wo_Ke_needNumber) rfl rfl rfl wq_Ke_needNumber ⟨Nat.le_of_ble_eq_true rfl, Nat.le_of_ble_eq_true rfl⟩) (ka_preS X9 hP hD hS) rfl rfl hl.1 rfl (lv_room (Nat.le_of_ble_eq_true rfl)) d_Ke_move_11 ⟨Nat.le_of_ble_eq_true rfl, Nat.le_of_ble_eq_true rfl⟩) X9 hD hS rfl (fun H locs hP hD hS => ?_)
  refine lv_aload_n hx hb d_Ke_move_14 rfl (lv_at hl 0 rfl) ?_
  refine lv_iload_n hx hb d_Ke_move_15 rfl (lv_at hl 1 rfl) ?_
  refine lv_iload_n hx hb d_Ke_move_16 rfl (lv_at hl 2 rfl) ?_
  refine lv_iload_n hx hb d_Ke_move_17 rfl (lv_at hl 3 rfl) ?_
  rcases zo_x h with ⟨k9, u3, e9, h⟩ | ⟨v2, u3, e9, h⟩
  · cases h
  refine ka_v (va_runV (As := [.int x1, .int x2, .int x3]) (rest := []) S9 (c_Ke_needObjectIn_ok l hl9 D A r _ σ x1 x2 x3 _ _ e9) (cwV 3 hts (tg_V wl_Ke_142 wm_Ke_needObjectIn we_Ke_needObjectIn wi_Ke wo_Ke_needObjectIn) rfl rfl rfl wq_Ke_needObjectIn ⟨Nat.le_of_ble_eq_true rfl, Nat.le_of_ble_eq_true rfl⟩) (ka_preV X9 hP hD hS 0 rfl rfl) rfl rfl hl.1 rfl (lv_room (Nat.le_of_ble_eq_true rfl)) d_Ke_move_18 ⟨Nat.le_of_ble_eq_true rfl, Nat.le_of_ble_eq_true rfl⟩) X9 hD hS rfl (fun H locs hP hD hS => ?_)
  refine lv_aload_n hx hb d_Ke_move_21 rfl (lv_at hl 0 rfl) ?_
  refine lv_iload_n hx hb d_Ke_move_22 rfl (lv_at hl 1 rfl) ?_
  refine lv_iload_n hx hb d_Ke_move_23 rfl (lv_at hl 2 rfl) ?_
  obtain ⟨v4, e9, h⟩ := zo_b h
  refine ka_i (va_runV (As := [.int x1, .int x2]) (rest := []) S9 (c_Ke_mayChange l hl9 D A r _ u3 x1 x2 _ e9) (cwV 2 hts (tg_V wl_Ke_136 wm_Ke_mayChange we_Ke_mayChange wi_Ke wo_Ke_mayChange) rfl rfl rfl wq_Ke_mayChange ⟨Nat.le_of_ble_eq_true rfl, Nat.le_of_ble_eq_true rfl⟩) (ka_preV X9 hP hD hS 0 rfl rfl) rfl rfl hl.1 rfl (lv_room (Nat.le_of_ble_eq_true rfl)) d_Ke_move_24 ⟨Nat.le_of_ble_eq_true rfl, Nat.le_of_ble_eq_true rfl⟩) X9 hD hS rfl (fun H locs hP hD hS => ?_)
  refine lv_if_eq (tgt := 43) hx hb d_Ke_move_27 (by decide) (fun c5 => ?_) (fun c5 => ?_)
  · replace h := zo_t c5 h
    refine lv_iconst (v := 0) hx hb d_Ke_move_43 (by decide) ?_
    cases h
  replace h := zo_f c5 h
  refine lv_aload_n hx hb d_Ke_move_30 rfl (lv_at hl 0 rfl) ?_
  refine lv_iload_n hx hb d_Ke_move_31 rfl (lv_at hl 1 rfl) ?_
  refine lv_iload_n hx hb d_Ke_move_32 rfl (lv_at hl 3 rfl) ?_
  obtain ⟨v6, e9, h⟩ := zo_b h
  refine ka_i (va_runV (As := [.int x1, .int x3]) (rest := []) S9 (c_Ke_mayChange l hl9 D A r _ u3 x1 x3 _ e9) (cwV 2 hts (tg_V wl_Ke_136 wm_Ke_mayChange we_Ke_mayChange wi_Ke wo_Ke_mayChange) rfl rfl rfl wq_Ke_mayChange ⟨Nat.le_of_ble_eq_true rfl, Nat.le_of_ble_eq_true rfl⟩) (ka_preV X9 hP hD hS 0 rfl rfl) rfl rfl hl.1 rfl (lv_room (Nat.le_of_ble_eq_true rfl)) d_Ke_move_33 ⟨Nat.le_of_ble_eq_true rfl, Nat.le_of_ble_eq_true rfl⟩) X9 hD hS rfl (fun H locs hP hD hS => ?_)
  refine lv_if_eq (tgt := 43) hx hb d_Ke_move_36 (by decide) (fun c7 => ?_) (fun c7 => ?_)
  · replace h := zo_t c7 h
    refine lv_iconst (v := 0) hx hb d_Ke_move_43 (by decide) ?_
    cases h
  replace h := zo_f c7 h
  refine lv_iconst (v := 1) hx hb d_Ke_move_39 (by decide) ?_
  refine lv_goto (tgt := 44) hx hb d_Ke_move_40 (by decide) ?_
  refine ka_v (va_runS (As := [.int 1]) (rest := []) S9 (c_Ke_needAllowed_ok l hl9 D A (GW A u3 r) _ 1 (by decide)) (cwS 1 hts (tg_S wl_Ke_123 ws_Ke_needAllowed wi_Ke wo_Ke_needAllowed) rfl rfl rfl wq_Ke_needAllowed ⟨Nat.le_of_ble_eq_true rfl, Nat.le_of_ble_eq_true rfl⟩) (ka_preS X9 hP hD hS) rfl rfl hl.1 rfl (lv_room (Nat.le_of_ble_eq_true rfl)) d_Ke_move_44 ⟨Nat.le_of_ble_eq_true rfl, Nat.le_of_ble_eq_true rfl⟩) X9 hD hS rfl (fun H locs hP hD hS => ?_)
  refine lv_aload_n hx hb d_Ke_move_47 rfl (lv_at hl 0 rfl) ?_
  refine va_get (D := D) (ci := 4) (v := .ref (A 4)) (C := R_Ke) (T := T_Ke) (N := 5) hx hb hts wu_Ke hown hK hP 0 rfl rfl 3 (by decide) (hts _ wf_Ke_28) (fun _ h9 => h9) rfl d_Ke_move_48 ?_
  refine lv_iload_n hx hb d_Ke_move_51 rfl (lv_at hl 3 rfl) ?_
  obtain ⟨v8, e9, h⟩ := zo_b h
  refine ka_i (va_runV (As := [.int x3]) (rest := []) S9 (c_Tg_quotaOf l hl9 D A r _ u3 x3 _ e9) (cwV 1 hts (tg_V wl_Ke_145 wm_Tg_quotaOf we_Tg_quotaOf wi_Tg wo_Tg_quotaOf) rfl rfl rfl wq_Tg_quotaOf ⟨Nat.le_of_ble_eq_true rfl, Nat.le_of_ble_eq_true rfl⟩) (ka_preV X9 hP hD hS 4 rfl rfl) rfl rfl hl.1 rfl (lv_room (Nat.le_of_ble_eq_true rfl)) d_Ke_move_52 ⟨Nat.le_of_ble_eq_true rfl, Nat.le_of_ble_eq_true rfl⟩) X9 hD hS rfl (fun H locs hP hD hS => ?_)
  refine lv_iload hx hb d_Ke_move_55 (lv_at hl 4 rfl) ?_
  refine lv_iadd hx hb d_Ke_move_57 ?_
  refine lv_istore (lv' := [(5, .int (v8 + x4)), (0, .ref (A 0)), (1, .int x1), (2, .int x2), (3, .int x3), (4, .int x4)]) hx hb d_Ke_move_58 hl (by decide) rfl (fun ls hl => ?_)
  refine lv_iload hx hb d_Ke_move_60 (lv_at hl 0 rfl) ?_
  refine lv_aload_n hx hb d_Ke_move_62 rfl (lv_at hl 1 rfl) ?_
  refine va_get (D := D) (ci := 4) (v := .ref (A 4)) (C := R_Ke) (T := T_Ke) (N := 5) hx hb hts wu_Ke hown hK hP 0 rfl rfl 3 (by decide) (hts _ wf_Ke_28) (fun _ h9 => h9) rfl d_Ke_move_63 ?_
  refine lv_iload_n hx hb d_Ke_move_66 rfl (lv_at hl 4 rfl) ?_
  obtain ⟨v9, e9, h⟩ := zo_b h
  refine ka_i (va_runV (As := [.int x3]) (rest := [.int (v8 + x4)]) S9 (c_Tg_useOf l hl9 D A r _ u3 x3 _ e9) (cwV 1 hts (tg_V wl_Ke_148 wm_Tg_useOf we_Tg_useOf wi_Tg wo_Tg_useOf) rfl rfl rfl wq_Tg_useOf ⟨Nat.le_of_ble_eq_true rfl, Nat.le_of_ble_eq_true rfl⟩) (ka_preV X9 hP hD hS 4 rfl rfl) rfl rfl hl.1 rfl (lv_room (Nat.le_of_ble_eq_true rfl)) d_Ke_move_67 ⟨Nat.le_of_ble_eq_true rfl, Nat.le_of_ble_eq_true rfl⟩) X9 hD hS rfl (fun H locs hP hD hS => ?_)
  refine lv_icmp_lt (tgt := 99) hx hb d_Ke_move_70 (by decide) (fun c10 => ?_) (fun c10 => ?_)
  · replace h := zo_t c10 h
    refine lv_iconst (v := 0) hx hb d_Ke_move_99 (by decide) ?_
    cases h
  replace h := zo_f c10 h
  refine lv_aload_n hx hb d_Ke_move_73 rfl (lv_at hl 1 rfl) ?_
  refine va_get (D := D) (ci := 4) (v := .ref (A 4)) (C := R_Ke) (T := T_Ke) (N := 5) hx hb hts wu_Ke hown hK hP 0 rfl rfl 3 (by decide) (hts _ wf_Ke_28) (fun _ h9 => h9) rfl d_Ke_move_74 ?_
  refine lv_iload_n hx hb d_Ke_move_77 rfl (lv_at hl 3 rfl) ?_
  obtain ⟨v11, e9, h⟩ := zo_b h
  refine ka_i (va_runV (As := [.int x2]) (rest := []) S9 (c_Tg_quotaOf l hl9 D A r _ u3 x2 _ e9) (cwV 1 hts (tg_V wl_Ke_145 wm_Tg_quotaOf we_Tg_quotaOf wi_Tg wo_Tg_quotaOf) rfl rfl rfl wq_Tg_quotaOf ⟨Nat.le_of_ble_eq_true rfl, Nat.le_of_ble_eq_true rfl⟩) (ka_preV X9 hP hD hS 4 rfl rfl) rfl rfl hl.1 rfl (lv_room (Nat.le_of_ble_eq_true rfl)) d_Ke_move_78 ⟨Nat.le_of_ble_eq_true rfl, Nat.le_of_ble_eq_true rfl⟩) X9 hD hS rfl (fun H locs hP hD hS => ?_)
  refine lv_aload_n hx hb d_Ke_move_81 rfl (lv_at hl 1 rfl) ?_
  refine va_get (D := D) (ci := 4) (v := .ref (A 4)) (C := R_Ke) (T := T_Ke) (N := 5) hx hb hts wu_Ke hown hK hP 0 rfl rfl 3 (by decide) (hts _ wf_Ke_28) (fun _ h9 => h9) rfl d_Ke_move_82 ?_
  refine lv_iload_n hx hb d_Ke_move_85 rfl (lv_at hl 3 rfl) ?_
  obtain ⟨v12, e9, h⟩ := zo_b h
  refine ka_i (va_runV (As := [.int x2]) (rest := [.int v11]) S9 (c_Tg_useOf l hl9 D A r _ u3 x2 _ e9) (cwV 1 hts (tg_V wl_Ke_148 wm_Tg_useOf we_Tg_useOf wi_Tg wo_Tg_useOf) rfl rfl rfl wq_Tg_useOf ⟨Nat.le_of_ble_eq_true rfl, Nat.le_of_ble_eq_true rfl⟩) (ka_preV X9 hP hD hS 4 rfl rfl) rfl rfl hl.1 rfl (lv_room (Nat.le_of_ble_eq_true rfl)) d_Ke_move_86 ⟨Nat.le_of_ble_eq_true rfl, Nat.le_of_ble_eq_true rfl⟩) X9 hD hS rfl (fun H locs hP hD hS => ?_)
  refine lv_iload hx hb d_Ke_move_89 (lv_at hl 5 rfl) ?_
  refine lv_iadd hx hb d_Ke_move_91 ?_
  refine lv_icmp_lt (tgt := 99) hx hb d_Ke_move_92 (by decide) (fun c13 => ?_) (fun c13 => ?_)
  · replace h := zo_t c13 h
    refine lv_iconst (v := 0) hx hb d_Ke_move_99 (by decide) ?_
    cases h
  replace h := zo_f c13 h
  refine lv_iconst (v := 1) hx hb d_Ke_move_95 (by decide) ?_
  refine lv_goto (tgt := 100) hx hb d_Ke_move_96 (by decide) ?_
  refine ka_v (va_runS (As := [.int 1]) (rest := []) S9 (c_Ke_needRoom_ok l hl9 D A (GW A u3 r) _ 1 (by decide)) (cwS 1 hts (tg_S wl_Ke_60 ws_Ke_needRoom wi_Ke wo_Ke_needRoom) rfl rfl rfl wq_Ke_needRoom ⟨Nat.le_of_ble_eq_true rfl, Nat.le_of_ble_eq_true rfl⟩) (ka_preS X9 hP hD hS) rfl rfl hl.1 rfl (lv_room (Nat.le_of_ble_eq_true rfl)) d_Ke_move_100 ⟨Nat.le_of_ble_eq_true rfl, Nat.le_of_ble_eq_true rfl⟩) X9 hD hS rfl (fun H locs hP hD hS => ?_)
  refine lv_aload_n hx hb d_Ke_move_103 rfl (lv_at hl 1 rfl) ?_
  refine va_get (D := D) (ci := 4) (v := .ref (A 4)) (C := R_Ke) (T := T_Ke) (N := 5) hx hb hts wu_Ke hown hK hP 0 rfl rfl 3 (by decide) (hts _ wf_Ke_28) (fun _ h9 => h9) rfl d_Ke_move_104 ?_
  refine lv_iload_n hx hb d_Ke_move_107 rfl (lv_at hl 4 rfl) ?_
  refine lv_iload hx hb d_Ke_move_108 (lv_at hl 0 rfl) ?_
  obtain ⟨v14, e9, h⟩ := zo_b h
  refine ka_v (va_runV (As := [.int x3, .int (v8 + x4)]) (rest := []) S9 (c_Tg_setQuota l hl9 D A r _ u3 x3 (v8 + x4) _ e9) (cwV 2 hts (tg_V wl_Ke_151 wm_Tg_setQuota we_Tg_setQuota wi_Tg wo_Tg_setQuota) rfl rfl rfl wq_Tg_setQuota ⟨Nat.le_of_ble_eq_true rfl, Nat.le_of_ble_eq_true rfl⟩) (ka_preV X9 hP hD hS 4 rfl rfl) rfl rfl hl.1 rfl (lv_room (Nat.le_of_ble_eq_true rfl)) d_Ke_move_110 ⟨Nat.le_of_ble_eq_true rfl, Nat.le_of_ble_eq_true rfl⟩) X9 hD hS rfl (fun H locs hP hD hS => ?_)
  refine lv_iload hx hb d_Ke_move_113 (lv_at hl 0 rfl) ?_
  cases h
  exact W.iret hx hb hr (fun t ht hW => ⟨⟨_, (), rfl, rfl, ka_at ht hP⟩, hS.F ht⟩) hS.2.2 d_Ke_move_115 hlk
set_option maxRecDepth 100000 in
set_option maxHeartbeats 4000000 in
theorem c_Ke_move_err (l : Launch) (hl9 : l.stackTraces = false) (D : va_G) (A : Nat → Nat) (r : va_W) (sz : Nat) (σ : KS) (x1 x2 x3 x4 : Int32) (k9 : Nat) (z : KS) (h : f_Ke_move σ x1 x2 x3 x4 = some (.error k9, z)) : vx_Met l y_Ke_move (Cond.code y_Ke_move b_Ke_move 6 (some .int) :: T0) ({ frames := 9, cells := 1, slots := 6, locals := 147 } : Room) (va_Pc [.ref (A 0), .int x1, .int x2, .int x3, .int x4] (ka_Wd D A (GW A σ r) sz)) ka_No (ka_Xe D k9 (GW A z r) (va_A (GW A σ r) sz)) 1 6 (va_A (GW A σ r) sz) := by
  unfold f_Ke_move at h
  refine ka_ofX (own := R_Ke) (fun A9 => ka_Xe D k9 (GW A z r) A9) (by decide) rfl (Nat.le_of_ble_eq_true rfl) ?_
  intro p e s m below meth c A9 ls S9 hr hlk hex X9 hP hD hl
  obtain ⟨hx, hb, hml, hown, hts⟩ := id S9
  have hK := X9.2.1
  have hS : va_S A9 s.heap s.heap [] := va_S.rf
  replace hl : lv_has ls 6 [(0, .ref (A 0)), (1, .int x1), (2, .int x2), (3, .int x3), (4, .int x4)] := hl
  refine lv_iload hx hb d_Ke_move_0 (lv_at hl 4 rfl) ?_
  refine lv_sipush (v := (-200)) hx hb d_Ke_move_2 (by decide) ?_
  refine lv_sipush (v := 200) hx hb d_Ke_move_5 (by decide) ?_
  obtain ⟨v1, e9, h⟩ := zo_b h
  refine ka_i (va_runS (As := [.int x4, .int (-200), .int 200]) (rest := []) S9 (c_Ke_isBetween l hl9 D A (GW A σ r) _ x4 (-200) 200 _ e9) (cwS 3 hts (tg_S wl_Ke_40 ws_Ke_isBetween wi_Ke wo_Ke_isBetween) rfl rfl rfl wq_Ke_isBetween ⟨Nat.le_of_ble_eq_true rfl, Nat.le_of_ble_eq_true rfl⟩) (ka_preS X9 hP hD hS) rfl rfl hl.1 rfl (lv_room (Nat.le_of_ble_eq_true rfl)) d_Ke_move_8 ⟨Nat.le_of_ble_eq_true rfl, Nat.le_of_ble_eq_true rfl⟩) X9 hD hS rfl (fun H locs hP hD hS => ?_)
  rcases zo_n h with ⟨c9, h⟩ | ⟨c9, h⟩
  · obtain ⟨rfl, rfl⟩ := zo_e h
    exact ka_err (vx_runS (As := [.int v1]) (rest := []) S9 (c_Ke_needNumber_err l hl9 D A (GW A σ r) _ v1 c9) (cwS 1 hts (tg_S wl_Ke_44 ws_Ke_needNumber wi_Ke wo_Ke_needNumber) rfl rfl rfl wq_Ke_needNumber ⟨Nat.le_of_ble_eq_true rfl, Nat.le_of_ble_eq_true rfl⟩) (ka_preS X9 hP hD hS) rfl rfl hl.1 rfl (lv_room (Nat.le_of_ble_eq_true rfl)) d_Ke_move_11 ⟨Nat.le_of_ble_eq_true rfl, Nat.le_of_ble_eq_true rfl⟩) hlk hex X9 hD hS (Nat.le_of_ble_eq_true rfl) (Nat.le_of_ble_eq_true rfl)
  refine ka_v (va_runS (As := [.int v1]) (rest := []) S9 (c_Ke_needNumber_ok l hl9 D A (GW A σ r) _ v1 c9) (cwS 1 hts (tg_S wl_Ke_44 ws_Ke_needNumber wi_Ke wo_Ke_needNumber) rfl rfl rfl wq_Ke_needNumber ⟨Nat.le_of_ble_eq_true rfl, Nat.le_of_ble_eq_true rfl⟩) (ka_preS X9 hP hD hS) rfl rfl hl.1 rfl (lv_room (Nat.le_of_ble_eq_true rfl)) d_Ke_move_11 ⟨Nat.le_of_ble_eq_true rfl, Nat.le_of_ble_eq_true rfl⟩) X9 hD hS rfl (fun H locs hP hD hS => ?_)
  refine lv_aload_n hx hb d_Ke_move_14 rfl (lv_at hl 0 rfl) ?_
  refine lv_iload_n hx hb d_Ke_move_15 rfl (lv_at hl 1 rfl) ?_
  refine lv_iload_n hx hb d_Ke_move_16 rfl (lv_at hl 2 rfl) ?_
  refine lv_iload_n hx hb d_Ke_move_17 rfl (lv_at hl 3 rfl) ?_
  rcases zo_x h with ⟨k9, u3, e9, h⟩ | ⟨v2, u3, e9, h⟩
  · cases h
    exact ka_err (vx_runV (As := [.int x1, .int x2, .int x3]) (rest := []) S9 (c_Ke_needObjectIn_err l hl9 D A r _ σ x1 x2 x3 _ _ e9) (cwV 3 hts (tg_V wl_Ke_142 wm_Ke_needObjectIn we_Ke_needObjectIn wi_Ke wo_Ke_needObjectIn) rfl rfl rfl wq_Ke_needObjectIn ⟨Nat.le_of_ble_eq_true rfl, Nat.le_of_ble_eq_true rfl⟩) (ka_preV X9 hP hD hS 0 rfl rfl) rfl rfl hl.1 rfl (lv_room (Nat.le_of_ble_eq_true rfl)) d_Ke_move_18 ⟨Nat.le_of_ble_eq_true rfl, Nat.le_of_ble_eq_true rfl⟩) hlk hex X9 hD hS (Nat.le_of_ble_eq_true rfl) (Nat.le_of_ble_eq_true rfl)
  refine ka_v (va_runV (As := [.int x1, .int x2, .int x3]) (rest := []) S9 (c_Ke_needObjectIn_ok l hl9 D A r _ σ x1 x2 x3 _ _ e9) (cwV 3 hts (tg_V wl_Ke_142 wm_Ke_needObjectIn we_Ke_needObjectIn wi_Ke wo_Ke_needObjectIn) rfl rfl rfl wq_Ke_needObjectIn ⟨Nat.le_of_ble_eq_true rfl, Nat.le_of_ble_eq_true rfl⟩) (ka_preV X9 hP hD hS 0 rfl rfl) rfl rfl hl.1 rfl (lv_room (Nat.le_of_ble_eq_true rfl)) d_Ke_move_18 ⟨Nat.le_of_ble_eq_true rfl, Nat.le_of_ble_eq_true rfl⟩) X9 hD hS rfl (fun H locs hP hD hS => ?_)
  refine lv_aload_n hx hb d_Ke_move_21 rfl (lv_at hl 0 rfl) ?_
  refine lv_iload_n hx hb d_Ke_move_22 rfl (lv_at hl 1 rfl) ?_
  refine lv_iload_n hx hb d_Ke_move_23 rfl (lv_at hl 2 rfl) ?_
  obtain ⟨v4, e9, h⟩ := zo_b h
  refine ka_i (va_runV (As := [.int x1, .int x2]) (rest := []) S9 (c_Ke_mayChange l hl9 D A r _ u3 x1 x2 _ e9) (cwV 2 hts (tg_V wl_Ke_136 wm_Ke_mayChange we_Ke_mayChange wi_Ke wo_Ke_mayChange) rfl rfl rfl wq_Ke_mayChange ⟨Nat.le_of_ble_eq_true rfl, Nat.le_of_ble_eq_true rfl⟩) (ka_preV X9 hP hD hS 0 rfl rfl) rfl rfl hl.1 rfl (lv_room (Nat.le_of_ble_eq_true rfl)) d_Ke_move_24 ⟨Nat.le_of_ble_eq_true rfl, Nat.le_of_ble_eq_true rfl⟩) X9 hD hS rfl (fun H locs hP hD hS => ?_)
  refine lv_if_eq (tgt := 43) hx hb d_Ke_move_27 (by decide) (fun c5 => ?_) (fun c5 => ?_)
  · replace h := zo_t c5 h
    refine lv_iconst (v := 0) hx hb d_Ke_move_43 (by decide) ?_
    obtain ⟨rfl, rfl⟩ := zo_e h
    exact ka_err (vx_runS (As := [.int 0]) (rest := []) S9 (c_Ke_needAllowed_err l hl9 D A (GW A u3 r) _ 0 rfl) (cwS 1 hts (tg_S wl_Ke_123 ws_Ke_needAllowed wi_Ke wo_Ke_needAllowed) rfl rfl rfl wq_Ke_needAllowed ⟨Nat.le_of_ble_eq_true rfl, Nat.le_of_ble_eq_true rfl⟩) (ka_preS X9 hP hD hS) rfl rfl hl.1 rfl (lv_room (Nat.le_of_ble_eq_true rfl)) d_Ke_move_44 ⟨Nat.le_of_ble_eq_true rfl, Nat.le_of_ble_eq_true rfl⟩) hlk hex X9 hD hS (Nat.le_of_ble_eq_true rfl) (Nat.le_of_ble_eq_true rfl)
  replace h := zo_f c5 h
  refine lv_aload_n hx hb d_Ke_move_30 rfl (lv_at hl 0 rfl) ?_
  refine lv_iload_n hx hb d_Ke_move_31 rfl (lv_at hl 1 rfl) ?_
  refine lv_iload_n hx hb d_Ke_move_32 rfl (lv_at hl 3 rfl) ?_
  obtain ⟨v6, e9, h⟩ := zo_b h
  refine ka_i (va_runV (As := [.int x1, .int x3]) (rest := []) S9 (c_Ke_mayChange l hl9 D A r _ u3 x1 x3 _ e9) (cwV 2 hts (tg_V wl_Ke_136 wm_Ke_mayChange we_Ke_mayChange wi_Ke wo_Ke_mayChange) rfl rfl rfl wq_Ke_mayChange ⟨Nat.le_of_ble_eq_true rfl, Nat.le_of_ble_eq_true rfl⟩) (ka_preV X9 hP hD hS 0 rfl rfl) rfl rfl hl.1 rfl (lv_room (Nat.le_of_ble_eq_true rfl)) d_Ke_move_33 ⟨Nat.le_of_ble_eq_true rfl, Nat.le_of_ble_eq_true rfl⟩) X9 hD hS rfl (fun H locs hP hD hS => ?_)
  refine lv_if_eq (tgt := 43) hx hb d_Ke_move_36 (by decide) (fun c7 => ?_) (fun c7 => ?_)
  · replace h := zo_t c7 h
    refine lv_iconst (v := 0) hx hb d_Ke_move_43 (by decide) ?_
    obtain ⟨rfl, rfl⟩ := zo_e h
    exact ka_err (vx_runS (As := [.int 0]) (rest := []) S9 (c_Ke_needAllowed_err l hl9 D A (GW A u3 r) _ 0 rfl) (cwS 1 hts (tg_S wl_Ke_123 ws_Ke_needAllowed wi_Ke wo_Ke_needAllowed) rfl rfl rfl wq_Ke_needAllowed ⟨Nat.le_of_ble_eq_true rfl, Nat.le_of_ble_eq_true rfl⟩) (ka_preS X9 hP hD hS) rfl rfl hl.1 rfl (lv_room (Nat.le_of_ble_eq_true rfl)) d_Ke_move_44 ⟨Nat.le_of_ble_eq_true rfl, Nat.le_of_ble_eq_true rfl⟩) hlk hex X9 hD hS (Nat.le_of_ble_eq_true rfl) (Nat.le_of_ble_eq_true rfl)
  replace h := zo_f c7 h
  refine lv_iconst (v := 1) hx hb d_Ke_move_39 (by decide) ?_
  refine lv_goto (tgt := 44) hx hb d_Ke_move_40 (by decide) ?_
  refine ka_v (va_runS (As := [.int 1]) (rest := []) S9 (c_Ke_needAllowed_ok l hl9 D A (GW A u3 r) _ 1 (by decide)) (cwS 1 hts (tg_S wl_Ke_123 ws_Ke_needAllowed wi_Ke wo_Ke_needAllowed) rfl rfl rfl wq_Ke_needAllowed ⟨Nat.le_of_ble_eq_true rfl, Nat.le_of_ble_eq_true rfl⟩) (ka_preS X9 hP hD hS) rfl rfl hl.1 rfl (lv_room (Nat.le_of_ble_eq_true rfl)) d_Ke_move_44 ⟨Nat.le_of_ble_eq_true rfl, Nat.le_of_ble_eq_true rfl⟩) X9 hD hS rfl (fun H locs hP hD hS => ?_)
  refine lv_aload_n hx hb d_Ke_move_47 rfl (lv_at hl 0 rfl) ?_
  refine va_get (D := D) (ci := 4) (v := .ref (A 4)) (C := R_Ke) (T := T_Ke) (N := 5) hx hb hts wu_Ke hown hK hP 0 rfl rfl 3 (by decide) (hts _ wf_Ke_28) (fun _ h9 => h9) rfl d_Ke_move_48 ?_
  refine lv_iload_n hx hb d_Ke_move_51 rfl (lv_at hl 3 rfl) ?_
  obtain ⟨v8, e9, h⟩ := zo_b h
  refine ka_i (va_runV (As := [.int x3]) (rest := []) S9 (c_Tg_quotaOf l hl9 D A r _ u3 x3 _ e9) (cwV 1 hts (tg_V wl_Ke_145 wm_Tg_quotaOf we_Tg_quotaOf wi_Tg wo_Tg_quotaOf) rfl rfl rfl wq_Tg_quotaOf ⟨Nat.le_of_ble_eq_true rfl, Nat.le_of_ble_eq_true rfl⟩) (ka_preV X9 hP hD hS 4 rfl rfl) rfl rfl hl.1 rfl (lv_room (Nat.le_of_ble_eq_true rfl)) d_Ke_move_52 ⟨Nat.le_of_ble_eq_true rfl, Nat.le_of_ble_eq_true rfl⟩) X9 hD hS rfl (fun H locs hP hD hS => ?_)
  refine lv_iload hx hb d_Ke_move_55 (lv_at hl 4 rfl) ?_
  refine lv_iadd hx hb d_Ke_move_57 ?_
  refine lv_istore (lv' := [(5, .int (v8 + x4)), (0, .ref (A 0)), (1, .int x1), (2, .int x2), (3, .int x3), (4, .int x4)]) hx hb d_Ke_move_58 hl (by decide) rfl (fun ls hl => ?_)
  refine lv_iload hx hb d_Ke_move_60 (lv_at hl 0 rfl) ?_
  refine lv_aload_n hx hb d_Ke_move_62 rfl (lv_at hl 1 rfl) ?_
  refine va_get (D := D) (ci := 4) (v := .ref (A 4)) (C := R_Ke) (T := T_Ke) (N := 5) hx hb hts wu_Ke hown hK hP 0 rfl rfl 3 (by decide) (hts _ wf_Ke_28) (fun _ h9 => h9) rfl d_Ke_move_63 ?_
  refine lv_iload_n hx hb d_Ke_move_66 rfl (lv_at hl 4 rfl) ?_
  obtain ⟨v9, e9, h⟩ := zo_b h
  refine ka_i (va_runV (As := [.int x3]) (rest := [.int (v8 + x4)]) S9 (c_Tg_useOf l hl9 D A r _ u3 x3 _ e9) (cwV 1 hts (tg_V wl_Ke_148 wm_Tg_useOf we_Tg_useOf wi_Tg wo_Tg_useOf) rfl rfl rfl wq_Tg_useOf ⟨Nat.le_of_ble_eq_true rfl, Nat.le_of_ble_eq_true rfl⟩) (ka_preV X9 hP hD hS 4 rfl rfl) rfl rfl hl.1 rfl (lv_room (Nat.le_of_ble_eq_true rfl)) d_Ke_move_67 ⟨Nat.le_of_ble_eq_true rfl, Nat.le_of_ble_eq_true rfl⟩) X9 hD hS rfl (fun H locs hP hD hS => ?_)
  refine lv_icmp_lt (tgt := 99) hx hb d_Ke_move_70 (by decide) (fun c10 => ?_) (fun c10 => ?_)
  · replace h := zo_t c10 h
    refine lv_iconst (v := 0) hx hb d_Ke_move_99 (by decide) ?_
    obtain ⟨rfl, rfl⟩ := zo_e h
    exact ka_err (vx_runS (As := [.int 0]) (rest := []) S9 (c_Ke_needRoom_err l hl9 D A (GW A u3 r) _ 0 rfl) (cwS 1 hts (tg_S wl_Ke_60 ws_Ke_needRoom wi_Ke wo_Ke_needRoom) rfl rfl rfl wq_Ke_needRoom ⟨Nat.le_of_ble_eq_true rfl, Nat.le_of_ble_eq_true rfl⟩) (ka_preS X9 hP hD hS) rfl rfl hl.1 rfl (lv_room (Nat.le_of_ble_eq_true rfl)) d_Ke_move_100 ⟨Nat.le_of_ble_eq_true rfl, Nat.le_of_ble_eq_true rfl⟩) hlk hex X9 hD hS (Nat.le_of_ble_eq_true rfl) (Nat.le_of_ble_eq_true rfl)
  replace h := zo_f c10 h
  refine lv_aload_n hx hb d_Ke_move_73 rfl (lv_at hl 1 rfl) ?_
  refine va_get (D := D) (ci := 4) (v := .ref (A 4)) (C := R_Ke) (T := T_Ke) (N := 5) hx hb hts wu_Ke hown hK hP 0 rfl rfl 3 (by decide) (hts _ wf_Ke_28) (fun _ h9 => h9) rfl d_Ke_move_74 ?_
  refine lv_iload_n hx hb d_Ke_move_77 rfl (lv_at hl 3 rfl) ?_
  obtain ⟨v11, e9, h⟩ := zo_b h
  refine ka_i (va_runV (As := [.int x2]) (rest := []) S9 (c_Tg_quotaOf l hl9 D A r _ u3 x2 _ e9) (cwV 1 hts (tg_V wl_Ke_145 wm_Tg_quotaOf we_Tg_quotaOf wi_Tg wo_Tg_quotaOf) rfl rfl rfl wq_Tg_quotaOf ⟨Nat.le_of_ble_eq_true rfl, Nat.le_of_ble_eq_true rfl⟩) (ka_preV X9 hP hD hS 4 rfl rfl) rfl rfl hl.1 rfl (lv_room (Nat.le_of_ble_eq_true rfl)) d_Ke_move_78 ⟨Nat.le_of_ble_eq_true rfl, Nat.le_of_ble_eq_true rfl⟩) X9 hD hS rfl (fun H locs hP hD hS => ?_)
  refine lv_aload_n hx hb d_Ke_move_81 rfl (lv_at hl 1 rfl) ?_
  refine va_get (D := D) (ci := 4) (v := .ref (A 4)) (C := R_Ke) (T := T_Ke) (N := 5) hx hb hts wu_Ke hown hK hP 0 rfl rfl 3 (by decide) (hts _ wf_Ke_28) (fun _ h9 => h9) rfl d_Ke_move_82 ?_
  refine lv_iload_n hx hb d_Ke_move_85 rfl (lv_at hl 3 rfl) ?_
  obtain ⟨v12, e9, h⟩ := zo_b h
  refine ka_i (va_runV (As := [.int x2]) (rest := [.int v11]) S9 (c_Tg_useOf l hl9 D A r _ u3 x2 _ e9) (cwV 1 hts (tg_V wl_Ke_148 wm_Tg_useOf we_Tg_useOf wi_Tg wo_Tg_useOf) rfl rfl rfl wq_Tg_useOf ⟨Nat.le_of_ble_eq_true rfl, Nat.le_of_ble_eq_true rfl⟩) (ka_preV X9 hP hD hS 4 rfl rfl) rfl rfl hl.1 rfl (lv_room (Nat.le_of_ble_eq_true rfl)) d_Ke_move_86 ⟨Nat.le_of_ble_eq_true rfl, Nat.le_of_ble_eq_true rfl⟩) X9 hD hS rfl (fun H locs hP hD hS => ?_)
  refine lv_iload hx hb d_Ke_move_89 (lv_at hl 5 rfl) ?_
  refine lv_iadd hx hb d_Ke_move_91 ?_
  refine lv_icmp_lt (tgt := 99) hx hb d_Ke_move_92 (by decide) (fun c13 => ?_) (fun c13 => ?_)
  · replace h := zo_t c13 h
    refine lv_iconst (v := 0) hx hb d_Ke_move_99 (by decide) ?_
    obtain ⟨rfl, rfl⟩ := zo_e h
    exact ka_err (vx_runS (As := [.int 0]) (rest := []) S9 (c_Ke_needRoom_err l hl9 D A (GW A u3 r) _ 0 rfl) (cwS 1 hts (tg_S wl_Ke_60 ws_Ke_needRoom wi_Ke wo_Ke_needRoom) rfl rfl rfl wq_Ke_needRoom ⟨Nat.le_of_ble_eq_true rfl, Nat.le_of_ble_eq_true rfl⟩) (ka_preS X9 hP hD hS) rfl rfl hl.1 rfl (lv_room (Nat.le_of_ble_eq_true rfl)) d_Ke_move_100 ⟨Nat.le_of_ble_eq_true rfl, Nat.le_of_ble_eq_true rfl⟩) hlk hex X9 hD hS (Nat.le_of_ble_eq_true rfl) (Nat.le_of_ble_eq_true rfl)
  replace h := zo_f c13 h
  refine lv_iconst (v := 1) hx hb d_Ke_move_95 (by decide) ?_
  refine lv_goto (tgt := 100) hx hb d_Ke_move_96 (by decide) ?_
  refine ka_v (va_runS (As := [.int 1]) (rest := []) S9 (c_Ke_needRoom_ok l hl9 D A (GW A u3 r) _ 1 (by decide)) (cwS 1 hts (tg_S wl_Ke_60 ws_Ke_needRoom wi_Ke wo_Ke_needRoom) rfl rfl rfl wq_Ke_needRoom ⟨Nat.le_of_ble_eq_true rfl, Nat.le_of_ble_eq_true rfl⟩) (ka_preS X9 hP hD hS) rfl rfl hl.1 rfl (lv_room (Nat.le_of_ble_eq_true rfl)) d_Ke_move_100 ⟨Nat.le_of_ble_eq_true rfl, Nat.le_of_ble_eq_true rfl⟩) X9 hD hS rfl (fun H locs hP hD hS => ?_)
  refine lv_aload_n hx hb d_Ke_move_103 rfl (lv_at hl 1 rfl) ?_
  refine va_get (D := D) (ci := 4) (v := .ref (A 4)) (C := R_Ke) (T := T_Ke) (N := 5) hx hb hts wu_Ke hown hK hP 0 rfl rfl 3 (by decide) (hts _ wf_Ke_28) (fun _ h9 => h9) rfl d_Ke_move_104 ?_
  refine lv_iload_n hx hb d_Ke_move_107 rfl (lv_at hl 4 rfl) ?_
  refine lv_iload hx hb d_Ke_move_108 (lv_at hl 0 rfl) ?_
  obtain ⟨v14, e9, h⟩ := zo_b h
  refine ka_v (va_runV (As := [.int x3, .int (v8 + x4)]) (rest := []) S9 (c_Tg_setQuota l hl9 D A r _ u3 x3 (v8 + x4) _ e9) (cwV 2 hts (tg_V wl_Ke_151 wm_Tg_setQuota we_Tg_setQuota wi_Tg wo_Tg_setQuota) rfl rfl rfl wq_Tg_setQuota ⟨Nat.le_of_ble_eq_true rfl, Nat.le_of_ble_eq_true rfl⟩) (ka_preV X9 hP hD hS 4 rfl rfl) rfl rfl hl.1 rfl (lv_room (Nat.le_of_ble_eq_true rfl)) d_Ke_move_110 ⟨Nat.le_of_ble_eq_true rfl, Nat.le_of_ble_eq_true rfl⟩) X9 hD hS rfl (fun H locs hP hD hS => ?_)
  refine lv_iload hx hb d_Ke_move_113 (lv_at hl 0 rfl) ?_
  cases h
def f_Ke_drop (σ : KS) (x1 x2 x3 : Int32) : Option (Except Nat Int32 × KS) := zx (f_Ke_needObjectIn σ x1 x2 x3) fun _ u2 => (f_Ke_mayChange u2 x1 x2).bind fun v3 => if v3 = 0 then some (.error 3, u2) else (f_Tg_removeTree u2 x3).bind fun v4 => some (.ok v4.1, v4.2)
set_option maxRecDepth 100000 in
set_option maxHeartbeats 4000000 in
theorem c_Ke_drop_ok (l : Launch) (hl9 : l.stackTraces = false) (D : va_G) (A : Nat → Nat) (r : va_W) (sz : Nat) (σ : KS) (x1 x2 x3 : Int32) (z9 : Int32) (z : KS) (h : f_Ke_drop σ x1 x2 x3 = some (.ok z9, z)) : Met l y_Ke_drop (Cond.code y_Ke_drop b_Ke_drop 4 (some .int) :: T0) ({ frames := 4, cells := 0, slots := 0, locals := 89 } : Room) (va_Pc [.ref (A 0), .int x1, .int x2, .int x3] (ka_Wd D A (GW A σ r) sz)) (ka_Ri D z9 (GW A z r) (va_A (GW A σ r) sz)) 0 0 (va_A (GW A σ r) sz) := by
  unfold f_Ke_drop at h
  refine ka_of (own := R_Ke) (fun A9 => ka_Ri D z9 (GW A z r) A9) (by decide) rfl (Nat.le_of_ble_eq_true rfl) ?_
  intro p e s m below meth c A9 ls S9 hr hlk hex X9 hP hD hl
  obtain ⟨hx, hb, hml, hown, hts⟩ := id S9
  have hK := X9.2.1
  have hS : va_S A9 s.heap s.heap [] := va_S.rf
  replace hl : lv_has ls 4 [(0, .ref (A 0)), (1, .int x1), (2, .int x2), (3, .int x3)] := hl
  refine lv_aload_n hx hb d_Ke_drop_0 rfl (lv_at hl 0 rfl) ?_
  refine lv_iload_n hx hb d_Ke_drop_1 rfl (lv_at hl 1 rfl) ?_
  refine lv_iload_n hx hb d_Ke_drop_2 rfl (lv_at hl 2 rfl) ?_
  refine lv_iload_n hx hb d_Ke_drop_3 rfl (lv_at hl 3 rfl) ?_
  rcases zo_x h with ⟨k9, u2, e9, h⟩ | ⟨v1, u2, e9, h⟩
  · cases h
  refine ka_v (va_runV (As := [.int x1, .int x2, .int x3]) (rest := []) S9 (c_Ke_needObjectIn_ok l hl9 D A r _ σ x1 x2 x3 _ _ e9) (cwV 3 hts (tg_V wl_Ke_142 wm_Ke_needObjectIn we_Ke_needObjectIn wi_Ke wo_Ke_needObjectIn) rfl rfl rfl wq_Ke_needObjectIn ⟨Nat.le_of_ble_eq_true rfl, Nat.le_of_ble_eq_true rfl⟩) (ka_preV X9 hP hD hS 0 rfl rfl) rfl rfl hl.1 rfl (lv_room (Nat.le_of_ble_eq_true rfl)) d_Ke_drop_4 ⟨Nat.le_of_ble_eq_true rfl, Nat.le_of_ble_eq_true rfl⟩) X9 hD hS rfl (fun H locs hP hD hS => ?_)
  refine lv_aload_n hx hb d_Ke_drop_7 rfl (lv_at hl 0 rfl) ?_
  refine lv_iload_n hx hb d_Ke_drop_8 rfl (lv_at hl 1 rfl) ?_
  refine lv_iload_n hx hb d_Ke_drop_9 rfl (lv_at hl 2 rfl) ?_
  obtain ⟨v3, e9, h⟩ := zo_b h
  refine ka_i (va_runV (As := [.int x1, .int x2]) (rest := []) S9 (c_Ke_mayChange l hl9 D A r _ u2 x1 x2 _ e9) (cwV 2 hts (tg_V wl_Ke_136 wm_Ke_mayChange we_Ke_mayChange wi_Ke wo_Ke_mayChange) rfl rfl rfl wq_Ke_mayChange ⟨Nat.le_of_ble_eq_true rfl, Nat.le_of_ble_eq_true rfl⟩) (ka_preV X9 hP hD hS 0 rfl rfl) rfl rfl hl.1 rfl (lv_room (Nat.le_of_ble_eq_true rfl)) d_Ke_drop_10 ⟨Nat.le_of_ble_eq_true rfl, Nat.le_of_ble_eq_true rfl⟩) X9 hD hS rfl (fun H locs hP hD hS => ?_)
  rcases zo_n h with ⟨c9, h⟩ | ⟨c9, h⟩
  · cases h
  refine ka_v (va_runS (As := [.int v3]) (rest := []) S9 (c_Ke_needAllowed_ok l hl9 D A (GW A u2 r) _ v3 c9) (cwS 1 hts (tg_S wl_Ke_123 ws_Ke_needAllowed wi_Ke wo_Ke_needAllowed) rfl rfl rfl wq_Ke_needAllowed ⟨Nat.le_of_ble_eq_true rfl, Nat.le_of_ble_eq_true rfl⟩) (ka_preS X9 hP hD hS) rfl rfl hl.1 rfl (lv_room (Nat.le_of_ble_eq_true rfl)) d_Ke_drop_13 ⟨Nat.le_of_ble_eq_true rfl, Nat.le_of_ble_eq_true rfl⟩) X9 hD hS rfl (fun H locs hP hD hS => ?_)
  refine lv_aload_n hx hb d_Ke_drop_16 rfl (lv_at hl 0 rfl) ?_
  refine va_get (D := D) (ci := 4) (v := .ref (A 4)) (C := R_Ke) (T := T_Ke) (N := 5) hx hb hts wu_Ke hown hK hP 0 rfl rfl 3 (by decide) (hts _ wf_Ke_28) (fun _ h9 => h9) rfl d_Ke_drop_17 ?_
  refine lv_iload_n hx hb d_Ke_drop_20 rfl (lv_at hl 3 rfl) ?_
  obtain ⟨v4, e9, h⟩ := zo_b h
  refine ka_i (va_runV (As := [.int x3]) (rest := []) S9 (c_Tg_removeTree l hl9 D A r _ u2 x3 _ e9) (cwV 1 hts (tg_V wl_Ke_154 wm_Tg_removeTree we_Tg_removeTree wi_Tg wo_Tg_removeTree) rfl rfl rfl wq_Tg_removeTree ⟨Nat.le_of_ble_eq_true rfl, Nat.le_of_ble_eq_true rfl⟩) (ka_preV X9 hP hD hS 4 rfl rfl) rfl rfl hl.1 rfl (lv_room (Nat.le_of_ble_eq_true rfl)) d_Ke_drop_21 ⟨Nat.le_of_ble_eq_true rfl, Nat.le_of_ble_eq_true rfl⟩) X9 hD hS rfl (fun H locs hP hD hS => ?_)
  cases h
  exact W.iret hx hb hr (fun t ht hW => ⟨⟨_, (), rfl, rfl, ka_at ht hP⟩, hS.F ht⟩) hS.2.2 d_Ke_drop_24 hlk
set_option maxRecDepth 100000 in
set_option maxHeartbeats 4000000 in
theorem c_Ke_drop_err (l : Launch) (hl9 : l.stackTraces = false) (D : va_G) (A : Nat → Nat) (r : va_W) (sz : Nat) (σ : KS) (x1 x2 x3 : Int32) (k9 : Nat) (z : KS) (h : f_Ke_drop σ x1 x2 x3 = some (.error k9, z)) : vx_Met l y_Ke_drop (Cond.code y_Ke_drop b_Ke_drop 4 (some .int) :: T0) ({ frames := 9, cells := 1, slots := 6, locals := 147 } : Room) (va_Pc [.ref (A 0), .int x1, .int x2, .int x3] (ka_Wd D A (GW A σ r) sz)) ka_No (ka_Xe D k9 (GW A z r) (va_A (GW A σ r) sz)) 1 6 (va_A (GW A σ r) sz) := by
  unfold f_Ke_drop at h
  refine ka_ofX (own := R_Ke) (fun A9 => ka_Xe D k9 (GW A z r) A9) (by decide) rfl (Nat.le_of_ble_eq_true rfl) ?_
  intro p e s m below meth c A9 ls S9 hr hlk hex X9 hP hD hl
  obtain ⟨hx, hb, hml, hown, hts⟩ := id S9
  have hK := X9.2.1
  have hS : va_S A9 s.heap s.heap [] := va_S.rf
  replace hl : lv_has ls 4 [(0, .ref (A 0)), (1, .int x1), (2, .int x2), (3, .int x3)] := hl
  refine lv_aload_n hx hb d_Ke_drop_0 rfl (lv_at hl 0 rfl) ?_
  refine lv_iload_n hx hb d_Ke_drop_1 rfl (lv_at hl 1 rfl) ?_
  refine lv_iload_n hx hb d_Ke_drop_2 rfl (lv_at hl 2 rfl) ?_
  refine lv_iload_n hx hb d_Ke_drop_3 rfl (lv_at hl 3 rfl) ?_
  rcases zo_x h with ⟨k9, u2, e9, h⟩ | ⟨v1, u2, e9, h⟩
  · cases h
    exact ka_err (vx_runV (As := [.int x1, .int x2, .int x3]) (rest := []) S9 (c_Ke_needObjectIn_err l hl9 D A r _ σ x1 x2 x3 _ _ e9) (cwV 3 hts (tg_V wl_Ke_142 wm_Ke_needObjectIn we_Ke_needObjectIn wi_Ke wo_Ke_needObjectIn) rfl rfl rfl wq_Ke_needObjectIn ⟨Nat.le_of_ble_eq_true rfl, Nat.le_of_ble_eq_true rfl⟩) (ka_preV X9 hP hD hS 0 rfl rfl) rfl rfl hl.1 rfl (lv_room (Nat.le_of_ble_eq_true rfl)) d_Ke_drop_4 ⟨Nat.le_of_ble_eq_true rfl, Nat.le_of_ble_eq_true rfl⟩) hlk hex X9 hD hS (Nat.le_of_ble_eq_true rfl) (Nat.le_of_ble_eq_true rfl)
  refine ka_v (va_runV (As := [.int x1, .int x2, .int x3]) (rest := []) S9 (c_Ke_needObjectIn_ok l hl9 D A r _ σ x1 x2 x3 _ _ e9) (cwV 3 hts (tg_V wl_Ke_142 wm_Ke_needObjectIn we_Ke_needObjectIn wi_Ke wo_Ke_needObjectIn) rfl rfl rfl wq_Ke_needObjectIn ⟨Nat.le_of_ble_eq_true rfl, Nat.le_of_ble_eq_true rfl⟩) (ka_preV X9 hP hD hS 0 rfl rfl) rfl rfl hl.1 rfl (lv_room (Nat.le_of_ble_eq_true rfl)) d_Ke_drop_4 ⟨Nat.le_of_ble_eq_true rfl, Nat.le_of_ble_eq_true rfl⟩) X9 hD hS rfl (fun H locs hP hD hS => ?_)
  refine lv_aload_n hx hb d_Ke_drop_7 rfl (lv_at hl 0 rfl) ?_
  refine lv_iload_n hx hb d_Ke_drop_8 rfl (lv_at hl 1 rfl) ?_
  refine lv_iload_n hx hb d_Ke_drop_9 rfl (lv_at hl 2 rfl) ?_
  obtain ⟨v3, e9, h⟩ := zo_b h
  refine ka_i (va_runV (As := [.int x1, .int x2]) (rest := []) S9 (c_Ke_mayChange l hl9 D A r _ u2 x1 x2 _ e9) (cwV 2 hts (tg_V wl_Ke_136 wm_Ke_mayChange we_Ke_mayChange wi_Ke wo_Ke_mayChange) rfl rfl rfl wq_Ke_mayChange ⟨Nat.le_of_ble_eq_true rfl, Nat.le_of_ble_eq_true rfl⟩) (ka_preV X9 hP hD hS 0 rfl rfl) rfl rfl hl.1 rfl (lv_room (Nat.le_of_ble_eq_true rfl)) d_Ke_drop_10 ⟨Nat.le_of_ble_eq_true rfl, Nat.le_of_ble_eq_true rfl⟩) X9 hD hS rfl (fun H locs hP hD hS => ?_)
  rcases zo_n h with ⟨c9, h⟩ | ⟨c9, h⟩
  · obtain ⟨rfl, rfl⟩ := zo_e h
    exact ka_err (vx_runS (As := [.int v3]) (rest := []) S9 (c_Ke_needAllowed_err l hl9 D A (GW A u2 r) _ v3 c9) (cwS 1 hts (tg_S wl_Ke_123 ws_Ke_needAllowed wi_Ke wo_Ke_needAllowed) rfl rfl rfl wq_Ke_needAllowed ⟨Nat.le_of_ble_eq_true rfl, Nat.le_of_ble_eq_true rfl⟩) (ka_preS X9 hP hD hS) rfl rfl hl.1 rfl (lv_room (Nat.le_of_ble_eq_true rfl)) d_Ke_drop_13 ⟨Nat.le_of_ble_eq_true rfl, Nat.le_of_ble_eq_true rfl⟩) hlk hex X9 hD hS (Nat.le_of_ble_eq_true rfl) (Nat.le_of_ble_eq_true rfl)
  refine ka_v (va_runS (As := [.int v3]) (rest := []) S9 (c_Ke_needAllowed_ok l hl9 D A (GW A u2 r) _ v3 c9) (cwS 1 hts (tg_S wl_Ke_123 ws_Ke_needAllowed wi_Ke wo_Ke_needAllowed) rfl rfl rfl wq_Ke_needAllowed ⟨Nat.le_of_ble_eq_true rfl, Nat.le_of_ble_eq_true rfl⟩) (ka_preS X9 hP hD hS) rfl rfl hl.1 rfl (lv_room (Nat.le_of_ble_eq_true rfl)) d_Ke_drop_13 ⟨Nat.le_of_ble_eq_true rfl, Nat.le_of_ble_eq_true rfl⟩) X9 hD hS rfl (fun H locs hP hD hS => ?_)
  refine lv_aload_n hx hb d_Ke_drop_16 rfl (lv_at hl 0 rfl) ?_
  refine va_get (D := D) (ci := 4) (v := .ref (A 4)) (C := R_Ke) (T := T_Ke) (N := 5) hx hb hts wu_Ke hown hK hP 0 rfl rfl 3 (by decide) (hts _ wf_Ke_28) (fun _ h9 => h9) rfl d_Ke_drop_17 ?_
  refine lv_iload_n hx hb d_Ke_drop_20 rfl (lv_at hl 3 rfl) ?_
  obtain ⟨v4, e9, h⟩ := zo_b h
  refine ka_i (va_runV (As := [.int x3]) (rest := []) S9 (c_Tg_removeTree l hl9 D A r _ u2 x3 _ e9) (cwV 1 hts (tg_V wl_Ke_154 wm_Tg_removeTree we_Tg_removeTree wi_Tg wo_Tg_removeTree) rfl rfl rfl wq_Tg_removeTree ⟨Nat.le_of_ble_eq_true rfl, Nat.le_of_ble_eq_true rfl⟩) (ka_preV X9 hP hD hS 4 rfl rfl) rfl rfl hl.1 rfl (lv_room (Nat.le_of_ble_eq_true rfl)) d_Ke_drop_21 ⟨Nat.le_of_ble_eq_true rfl, Nat.le_of_ble_eq_true rfl⟩) X9 hD hS rfl (fun H locs hP hD hS => ?_)
  cases h
def f_Ke_become (σ : KS) (x1 x2 : Int32) : Option (Except Nat Int32 × KS) := (f_Lb_has σ x2).bind fun v1 => if v1 = 0 then some (.error 1, σ) else zx (f_Ke_needThread σ x1) fun _ u3 => (f_Ke_mayBear u3 x1 x2).bind fun v4 => if v4 = 0 then some (.error 3, u3) else (f_Tg_setLabel u3 x1 x2).bind fun v5 => some (.ok 0, v5)
set_option maxRecDepth 100000 in
set_option maxHeartbeats 4000000 in
theorem c_Ke_become_ok (l : Launch) (hl9 : l.stackTraces = false) (D : va_G) (A : Nat → Nat) (r : va_W) (sz : Nat) (σ : KS) (x1 x2 : Int32) (z9 : Int32) (z : KS) (h : f_Ke_become σ x1 x2 = some (.ok z9, z)) : Met l y_Ke_become (Cond.code y_Ke_become b_Ke_become 3 (some .int) :: T0) ({ frames := 3, cells := 0, slots := 0, locals := 68 } : Room) (va_Pc [.ref (A 0), .int x1, .int x2] (ka_Wd D A (GW A σ r) sz)) (ka_Ri D z9 (GW A z r) (va_A (GW A σ r) sz)) 0 0 (va_A (GW A σ r) sz) := by
  unfold f_Ke_become at h
  refine ka_of (own := R_Ke) (fun A9 => ka_Ri D z9 (GW A z r) A9) (by decide) rfl (Nat.le_of_ble_eq_true rfl) ?_
  intro p e s m below meth c A9 ls S9 hr hlk hex X9 hP hD hl
  obtain ⟨hx, hb, hml, hown, hts⟩ := id S9
  have hK := X9.2.1
  have hS : va_S A9 s.heap s.heap [] := va_S.rf
  replace hl : lv_has ls 3 [(0, .ref (A 0)), (1, .int x1), (2, .int x2)] := hl
  refine lv_aload_n hx hb d_Ke_become_0 rfl (lv_at hl 0 rfl) ?_
  refine va_get (D := D) (ci := 4) (v := .ref (A 2)) (C := R_Ke) (T := T_Ke) (N := 5) hx hb hts wu_Ke hown hK hP 0 rfl rfl 2 (by decide) (hts _ wf_Ke_23) (fun _ h9 => h9) rfl d_Ke_become_1 ?_
  refine lv_iload_n hx hb d_Ke_become_4 rfl (lv_at hl 2 rfl) ?_
  obtain ⟨v1, e9, h⟩ := zo_b h
  refine ka_i (va_runV (As := [.int x2]) (rest := []) S9 (c_Lb_has l hl9 D A r _ σ x2 _ e9) (cwV 1 hts (tg_V wl_Ke_34 wm_Lb_has we_Lb_has wi_Lb wo_Lb_has) rfl rfl rfl wq_Lb_has ⟨Nat.le_of_ble_eq_true rfl, Nat.le_of_ble_eq_true rfl⟩) (ka_preV X9 hP hD hS 2 rfl rfl) rfl rfl hl.1 rfl (lv_room (Nat.le_of_ble_eq_true rfl)) d_Ke_become_5 ⟨Nat.le_of_ble_eq_true rfl, Nat.le_of_ble_eq_true rfl⟩) X9 hD hS rfl (fun H locs hP hD hS => ?_)
  rcases zo_n h with ⟨c9, h⟩ | ⟨c9, h⟩
  · cases h
  refine ka_v (va_runS (As := [.int v1]) (rest := []) S9 (c_Ke_needNumber_ok l hl9 D A (GW A σ r) _ v1 c9) (cwS 1 hts (tg_S wl_Ke_44 ws_Ke_needNumber wi_Ke wo_Ke_needNumber) rfl rfl rfl wq_Ke_needNumber ⟨Nat.le_of_ble_eq_true rfl, Nat.le_of_ble_eq_true rfl⟩) (ka_preS X9 hP hD hS) rfl rfl hl.1 rfl (lv_room (Nat.le_of_ble_eq_true rfl)) d_Ke_become_8 ⟨Nat.le_of_ble_eq_true rfl, Nat.le_of_ble_eq_true rfl⟩) X9 hD hS rfl (fun H locs hP hD hS => ?_)
  refine lv_aload_n hx hb d_Ke_become_11 rfl (lv_at hl 0 rfl) ?_
  refine lv_iload_n hx hb d_Ke_become_12 rfl (lv_at hl 1 rfl) ?_
  rcases zo_x h with ⟨k9, u3, e9, h⟩ | ⟨v2, u3, e9, h⟩
  · cases h
  refine ka_v (va_runV (As := [.int x1]) (rest := []) S9 (c_Ke_needThread_ok l hl9 D A r _ σ x1 _ _ e9) (cwV 1 hts (tg_V wl_Ke_77 wm_Ke_needThread we_Ke_needThread wi_Ke wo_Ke_needThread) rfl rfl rfl wq_Ke_needThread ⟨Nat.le_of_ble_eq_true rfl, Nat.le_of_ble_eq_true rfl⟩) (ka_preV X9 hP hD hS 0 rfl rfl) rfl rfl hl.1 rfl (lv_room (Nat.le_of_ble_eq_true rfl)) d_Ke_become_13 ⟨Nat.le_of_ble_eq_true rfl, Nat.le_of_ble_eq_true rfl⟩) X9 hD hS rfl (fun H locs hP hD hS => ?_)
  refine lv_aload_n hx hb d_Ke_become_16 rfl (lv_at hl 0 rfl) ?_
  refine lv_iload_n hx hb d_Ke_become_17 rfl (lv_at hl 1 rfl) ?_
  refine lv_iload_n hx hb d_Ke_become_18 rfl (lv_at hl 2 rfl) ?_
  obtain ⟨v4, e9, h⟩ := zo_b h
  refine ka_i (va_runV (As := [.int x1, .int x2]) (rest := []) S9 (c_Ke_mayBear l hl9 D A r _ u3 x1 x2 _ e9) (cwV 2 hts (tg_V wl_Ke_157 wm_Ke_mayBear we_Ke_mayBear wi_Ke wo_Ke_mayBear) rfl rfl rfl wq_Ke_mayBear ⟨Nat.le_of_ble_eq_true rfl, Nat.le_of_ble_eq_true rfl⟩) (ka_preV X9 hP hD hS 0 rfl rfl) rfl rfl hl.1 rfl (lv_room (Nat.le_of_ble_eq_true rfl)) d_Ke_become_19 ⟨Nat.le_of_ble_eq_true rfl, Nat.le_of_ble_eq_true rfl⟩) X9 hD hS rfl (fun H locs hP hD hS => ?_)
  rcases zo_n h with ⟨c9, h⟩ | ⟨c9, h⟩
  · cases h
  refine ka_v (va_runS (As := [.int v4]) (rest := []) S9 (c_Ke_needAllowed_ok l hl9 D A (GW A u3 r) _ v4 c9) (cwS 1 hts (tg_S wl_Ke_123 ws_Ke_needAllowed wi_Ke wo_Ke_needAllowed) rfl rfl rfl wq_Ke_needAllowed ⟨Nat.le_of_ble_eq_true rfl, Nat.le_of_ble_eq_true rfl⟩) (ka_preS X9 hP hD hS) rfl rfl hl.1 rfl (lv_room (Nat.le_of_ble_eq_true rfl)) d_Ke_become_22 ⟨Nat.le_of_ble_eq_true rfl, Nat.le_of_ble_eq_true rfl⟩) X9 hD hS rfl (fun H locs hP hD hS => ?_)
  refine lv_aload_n hx hb d_Ke_become_25 rfl (lv_at hl 0 rfl) ?_
  refine va_get (D := D) (ci := 4) (v := .ref (A 4)) (C := R_Ke) (T := T_Ke) (N := 5) hx hb hts wu_Ke hown hK hP 0 rfl rfl 3 (by decide) (hts _ wf_Ke_28) (fun _ h9 => h9) rfl d_Ke_become_26 ?_
  refine lv_iload_n hx hb d_Ke_become_29 rfl (lv_at hl 1 rfl) ?_
  refine lv_iload_n hx hb d_Ke_become_30 rfl (lv_at hl 2 rfl) ?_
  obtain ⟨v5, e9, h⟩ := zo_b h
  refine ka_v (va_runV (As := [.int x1, .int x2]) (rest := []) S9 (c_Tg_setLabel l hl9 D A r _ u3 x1 x2 _ e9) (cwV 2 hts (tg_V wl_Ke_93 wm_Tg_setLabel we_Tg_setLabel wi_Tg wo_Tg_setLabel) rfl rfl rfl wq_Tg_setLabel ⟨Nat.le_of_ble_eq_true rfl, Nat.le_of_ble_eq_true rfl⟩) (ka_preV X9 hP hD hS 4 rfl rfl) rfl rfl hl.1 rfl (lv_room (Nat.le_of_ble_eq_true rfl)) d_Ke_become_31 ⟨Nat.le_of_ble_eq_true rfl, Nat.le_of_ble_eq_true rfl⟩) X9 hD hS rfl (fun H locs hP hD hS => ?_)
  refine lv_iconst (v := 0) hx hb d_Ke_become_34 (by decide) ?_
  cases h
  exact W.iret hx hb hr (fun t ht hW => ⟨⟨_, (), rfl, rfl, ka_at ht hP⟩, hS.F ht⟩) hS.2.2 d_Ke_become_35 hlk
set_option maxRecDepth 100000 in
set_option maxHeartbeats 4000000 in
theorem c_Ke_become_err (l : Launch) (hl9 : l.stackTraces = false) (D : va_G) (A : Nat → Nat) (r : va_W) (sz : Nat) (σ : KS) (x1 x2 : Int32) (k9 : Nat) (z : KS) (h : f_Ke_become σ x1 x2 = some (.error k9, z)) : vx_Met l y_Ke_become (Cond.code y_Ke_become b_Ke_become 3 (some .int) :: T0) ({ frames := 8, cells := 1, slots := 6, locals := 122 } : Room) (va_Pc [.ref (A 0), .int x1, .int x2] (ka_Wd D A (GW A σ r) sz)) ka_No (ka_Xe D k9 (GW A z r) (va_A (GW A σ r) sz)) 1 6 (va_A (GW A σ r) sz) := by
  unfold f_Ke_become at h
  refine ka_ofX (own := R_Ke) (fun A9 => ka_Xe D k9 (GW A z r) A9) (by decide) rfl (Nat.le_of_ble_eq_true rfl) ?_
  intro p e s m below meth c A9 ls S9 hr hlk hex X9 hP hD hl
  obtain ⟨hx, hb, hml, hown, hts⟩ := id S9
  have hK := X9.2.1
  have hS : va_S A9 s.heap s.heap [] := va_S.rf
  replace hl : lv_has ls 3 [(0, .ref (A 0)), (1, .int x1), (2, .int x2)] := hl
  refine lv_aload_n hx hb d_Ke_become_0 rfl (lv_at hl 0 rfl) ?_
  refine va_get (D := D) (ci := 4) (v := .ref (A 2)) (C := R_Ke) (T := T_Ke) (N := 5) hx hb hts wu_Ke hown hK hP 0 rfl rfl 2 (by decide) (hts _ wf_Ke_23) (fun _ h9 => h9) rfl d_Ke_become_1 ?_
  refine lv_iload_n hx hb d_Ke_become_4 rfl (lv_at hl 2 rfl) ?_
  obtain ⟨v1, e9, h⟩ := zo_b h
  refine ka_i (va_runV (As := [.int x2]) (rest := []) S9 (c_Lb_has l hl9 D A r _ σ x2 _ e9) (cwV 1 hts (tg_V wl_Ke_34 wm_Lb_has we_Lb_has wi_Lb wo_Lb_has) rfl rfl rfl wq_Lb_has ⟨Nat.le_of_ble_eq_true rfl, Nat.le_of_ble_eq_true rfl⟩) (ka_preV X9 hP hD hS 2 rfl rfl) rfl rfl hl.1 rfl (lv_room (Nat.le_of_ble_eq_true rfl)) d_Ke_become_5 ⟨Nat.le_of_ble_eq_true rfl, Nat.le_of_ble_eq_true rfl⟩) X9 hD hS rfl (fun H locs hP hD hS => ?_)
  rcases zo_n h with ⟨c9, h⟩ | ⟨c9, h⟩
  · obtain ⟨rfl, rfl⟩ := zo_e h
    exact ka_err (vx_runS (As := [.int v1]) (rest := []) S9 (c_Ke_needNumber_err l hl9 D A (GW A σ r) _ v1 c9) (cwS 1 hts (tg_S wl_Ke_44 ws_Ke_needNumber wi_Ke wo_Ke_needNumber) rfl rfl rfl wq_Ke_needNumber ⟨Nat.le_of_ble_eq_true rfl, Nat.le_of_ble_eq_true rfl⟩) (ka_preS X9 hP hD hS) rfl rfl hl.1 rfl (lv_room (Nat.le_of_ble_eq_true rfl)) d_Ke_become_8 ⟨Nat.le_of_ble_eq_true rfl, Nat.le_of_ble_eq_true rfl⟩) hlk hex X9 hD hS (Nat.le_of_ble_eq_true rfl) (Nat.le_of_ble_eq_true rfl)
  refine ka_v (va_runS (As := [.int v1]) (rest := []) S9 (c_Ke_needNumber_ok l hl9 D A (GW A σ r) _ v1 c9) (cwS 1 hts (tg_S wl_Ke_44 ws_Ke_needNumber wi_Ke wo_Ke_needNumber) rfl rfl rfl wq_Ke_needNumber ⟨Nat.le_of_ble_eq_true rfl, Nat.le_of_ble_eq_true rfl⟩) (ka_preS X9 hP hD hS) rfl rfl hl.1 rfl (lv_room (Nat.le_of_ble_eq_true rfl)) d_Ke_become_8 ⟨Nat.le_of_ble_eq_true rfl, Nat.le_of_ble_eq_true rfl⟩) X9 hD hS rfl (fun H locs hP hD hS => ?_)
  refine lv_aload_n hx hb d_Ke_become_11 rfl (lv_at hl 0 rfl) ?_
  refine lv_iload_n hx hb d_Ke_become_12 rfl (lv_at hl 1 rfl) ?_
  rcases zo_x h with ⟨k9, u3, e9, h⟩ | ⟨v2, u3, e9, h⟩
  · cases h
    exact ka_err (vx_runV (As := [.int x1]) (rest := []) S9 (c_Ke_needThread_err l hl9 D A r _ σ x1 _ _ e9) (cwV 1 hts (tg_V wl_Ke_77 wm_Ke_needThread we_Ke_needThread wi_Ke wo_Ke_needThread) rfl rfl rfl wq_Ke_needThread ⟨Nat.le_of_ble_eq_true rfl, Nat.le_of_ble_eq_true rfl⟩) (ka_preV X9 hP hD hS 0 rfl rfl) rfl rfl hl.1 rfl (lv_room (Nat.le_of_ble_eq_true rfl)) d_Ke_become_13 ⟨Nat.le_of_ble_eq_true rfl, Nat.le_of_ble_eq_true rfl⟩) hlk hex X9 hD hS (Nat.le_of_ble_eq_true rfl) (Nat.le_of_ble_eq_true rfl)
  refine ka_v (va_runV (As := [.int x1]) (rest := []) S9 (c_Ke_needThread_ok l hl9 D A r _ σ x1 _ _ e9) (cwV 1 hts (tg_V wl_Ke_77 wm_Ke_needThread we_Ke_needThread wi_Ke wo_Ke_needThread) rfl rfl rfl wq_Ke_needThread ⟨Nat.le_of_ble_eq_true rfl, Nat.le_of_ble_eq_true rfl⟩) (ka_preV X9 hP hD hS 0 rfl rfl) rfl rfl hl.1 rfl (lv_room (Nat.le_of_ble_eq_true rfl)) d_Ke_become_13 ⟨Nat.le_of_ble_eq_true rfl, Nat.le_of_ble_eq_true rfl⟩) X9 hD hS rfl (fun H locs hP hD hS => ?_)
  refine lv_aload_n hx hb d_Ke_become_16 rfl (lv_at hl 0 rfl) ?_
  refine lv_iload_n hx hb d_Ke_become_17 rfl (lv_at hl 1 rfl) ?_
  refine lv_iload_n hx hb d_Ke_become_18 rfl (lv_at hl 2 rfl) ?_
  obtain ⟨v4, e9, h⟩ := zo_b h
  refine ka_i (va_runV (As := [.int x1, .int x2]) (rest := []) S9 (c_Ke_mayBear l hl9 D A r _ u3 x1 x2 _ e9) (cwV 2 hts (tg_V wl_Ke_157 wm_Ke_mayBear we_Ke_mayBear wi_Ke wo_Ke_mayBear) rfl rfl rfl wq_Ke_mayBear ⟨Nat.le_of_ble_eq_true rfl, Nat.le_of_ble_eq_true rfl⟩) (ka_preV X9 hP hD hS 0 rfl rfl) rfl rfl hl.1 rfl (lv_room (Nat.le_of_ble_eq_true rfl)) d_Ke_become_19 ⟨Nat.le_of_ble_eq_true rfl, Nat.le_of_ble_eq_true rfl⟩) X9 hD hS rfl (fun H locs hP hD hS => ?_)
  rcases zo_n h with ⟨c9, h⟩ | ⟨c9, h⟩
  · obtain ⟨rfl, rfl⟩ := zo_e h
    exact ka_err (vx_runS (As := [.int v4]) (rest := []) S9 (c_Ke_needAllowed_err l hl9 D A (GW A u3 r) _ v4 c9) (cwS 1 hts (tg_S wl_Ke_123 ws_Ke_needAllowed wi_Ke wo_Ke_needAllowed) rfl rfl rfl wq_Ke_needAllowed ⟨Nat.le_of_ble_eq_true rfl, Nat.le_of_ble_eq_true rfl⟩) (ka_preS X9 hP hD hS) rfl rfl hl.1 rfl (lv_room (Nat.le_of_ble_eq_true rfl)) d_Ke_become_22 ⟨Nat.le_of_ble_eq_true rfl, Nat.le_of_ble_eq_true rfl⟩) hlk hex X9 hD hS (Nat.le_of_ble_eq_true rfl) (Nat.le_of_ble_eq_true rfl)
  refine ka_v (va_runS (As := [.int v4]) (rest := []) S9 (c_Ke_needAllowed_ok l hl9 D A (GW A u3 r) _ v4 c9) (cwS 1 hts (tg_S wl_Ke_123 ws_Ke_needAllowed wi_Ke wo_Ke_needAllowed) rfl rfl rfl wq_Ke_needAllowed ⟨Nat.le_of_ble_eq_true rfl, Nat.le_of_ble_eq_true rfl⟩) (ka_preS X9 hP hD hS) rfl rfl hl.1 rfl (lv_room (Nat.le_of_ble_eq_true rfl)) d_Ke_become_22 ⟨Nat.le_of_ble_eq_true rfl, Nat.le_of_ble_eq_true rfl⟩) X9 hD hS rfl (fun H locs hP hD hS => ?_)
  refine lv_aload_n hx hb d_Ke_become_25 rfl (lv_at hl 0 rfl) ?_
  refine va_get (D := D) (ci := 4) (v := .ref (A 4)) (C := R_Ke) (T := T_Ke) (N := 5) hx hb hts wu_Ke hown hK hP 0 rfl rfl 3 (by decide) (hts _ wf_Ke_28) (fun _ h9 => h9) rfl d_Ke_become_26 ?_
  refine lv_iload_n hx hb d_Ke_become_29 rfl (lv_at hl 1 rfl) ?_
  refine lv_iload_n hx hb d_Ke_become_30 rfl (lv_at hl 2 rfl) ?_
  obtain ⟨v5, e9, h⟩ := zo_b h
  refine ka_v (va_runV (As := [.int x1, .int x2]) (rest := []) S9 (c_Tg_setLabel l hl9 D A r _ u3 x1 x2 _ e9) (cwV 2 hts (tg_V wl_Ke_93 wm_Tg_setLabel we_Tg_setLabel wi_Tg wo_Tg_setLabel) rfl rfl rfl wq_Tg_setLabel ⟨Nat.le_of_ble_eq_true rfl, Nat.le_of_ble_eq_true rfl⟩) (ka_preV X9 hP hD hS 4 rfl rfl) rfl rfl hl.1 rfl (lv_room (Nat.le_of_ble_eq_true rfl)) d_Ke_become_31 ⟨Nat.le_of_ble_eq_true rfl, Nat.le_of_ble_eq_true rfl⟩) X9 hD hS rfl (fun H locs hP hD hS => ?_)
  refine lv_iconst (v := 0) hx hb d_Ke_become_34 (by decide) ?_
  cases h
def f_Ke_lower (σ : KS) (x1 x2 : Int32) : Option (Except Nat Int32 × KS) := (f_Lb_isStarless σ x2).bind fun v1 => if v1 = 0 then some (.error 1, σ) else zx (f_Ke_needThread σ x1) fun _ u3 => (f_Tg_clearanceOf u3 x1).bind fun v4 => (f_Lb_fitsUnder u3 x2 v4).bind fun v5 => if v5 = 0 then some (.error 3, u3) else (f_Tg_labelOf u3 x1).bind fun v6 => (f_Lb_fitsUnder u3 v6 x2).bind fun v7 => if v7 = 0 then some (.error 3, u3) else (f_Tg_setClearance u3 x1 x2).bind fun v8 => some (.ok 0, v8)
set_option maxRecDepth 100000 in
set_option maxHeartbeats 4000000 in
theorem c_Ke_lower_ok (l : Launch) (hl9 : l.stackTraces = false) (D : va_G) (A : Nat → Nat) (r : va_W) (sz : Nat) (σ : KS) (x1 x2 : Int32) (z9 : Int32) (z : KS) (h : f_Ke_lower σ x1 x2 = some (.ok z9, z)) : Met l y_Ke_lower (Cond.code y_Ke_lower b_Ke_lower 3 (some .int) :: T0) ({ frames := 2, cells := 0, slots := 0, locals := 45 } : Room) (va_Pc [.ref (A 0), .int x1, .int x2] (ka_Wd D A (GW A σ r) sz)) (ka_Ri D z9 (GW A z r) (va_A (GW A σ r) sz)) 0 0 (va_A (GW A σ r) sz) := by
  unfold f_Ke_lower at h
  refine ka_of (own := R_Ke) (fun A9 => ka_Ri D z9 (GW A z r) A9) (by decide) rfl (Nat.le_of_ble_eq_true rfl) ?_
  intro p e s m below meth c A9 ls S9 hr hlk hex X9 hP hD hl
  obtain ⟨hx, hb, hml, hown, hts⟩ := id S9
  have hK := X9.2.1
  have hS : va_S A9 s.heap s.heap [] := va_S.rf
  replace hl : lv_has ls 3 [(0, .ref (A 0)), (1, .int x1), (2, .int x2)] := hl
  refine lv_aload_n hx hb d_Ke_lower_0 rfl (lv_at hl 0 rfl) ?_
  refine va_get (D := D) (ci := 4) (v := .ref (A 2)) (C := R_Ke) (T := T_Ke) (N := 5) hx hb hts wu_Ke hown hK hP 0 rfl rfl 2 (by decide) (hts _ wf_Ke_23) (fun _ h9 => h9) rfl d_Ke_lower_1 ?_
  refine lv_iload_n hx hb d_Ke_lower_4 rfl (lv_at hl 2 rfl) ?_
  obtain ⟨v1, e9, h⟩ := zo_b h
  refine ka_i (va_runV (As := [.int x2]) (rest := []) S9 (c_Lb_isStarless l hl9 D A r _ σ x2 _ e9) (cwV 1 hts (tg_V wl_Ke_100 wm_Lb_isStarless we_Lb_isStarless wi_Lb wo_Lb_isStarless) rfl rfl rfl wq_Lb_isStarless ⟨Nat.le_of_ble_eq_true rfl, Nat.le_of_ble_eq_true rfl⟩) (ka_preV X9 hP hD hS 2 rfl rfl) rfl rfl hl.1 rfl (lv_room (Nat.le_of_ble_eq_true rfl)) d_Ke_lower_5 ⟨Nat.le_of_ble_eq_true rfl, Nat.le_of_ble_eq_true rfl⟩) X9 hD hS rfl (fun H locs hP hD hS => ?_)
  rcases zo_n h with ⟨c9, h⟩ | ⟨c9, h⟩
  · cases h
  refine ka_v (va_runS (As := [.int v1]) (rest := []) S9 (c_Ke_needNumber_ok l hl9 D A (GW A σ r) _ v1 c9) (cwS 1 hts (tg_S wl_Ke_44 ws_Ke_needNumber wi_Ke wo_Ke_needNumber) rfl rfl rfl wq_Ke_needNumber ⟨Nat.le_of_ble_eq_true rfl, Nat.le_of_ble_eq_true rfl⟩) (ka_preS X9 hP hD hS) rfl rfl hl.1 rfl (lv_room (Nat.le_of_ble_eq_true rfl)) d_Ke_lower_8 ⟨Nat.le_of_ble_eq_true rfl, Nat.le_of_ble_eq_true rfl⟩) X9 hD hS rfl (fun H locs hP hD hS => ?_)
  refine lv_aload_n hx hb d_Ke_lower_11 rfl (lv_at hl 0 rfl) ?_
  refine lv_iload_n hx hb d_Ke_lower_12 rfl (lv_at hl 1 rfl) ?_
  rcases zo_x h with ⟨k9, u3, e9, h⟩ | ⟨v2, u3, e9, h⟩
  · cases h
  refine ka_v (va_runV (As := [.int x1]) (rest := []) S9 (c_Ke_needThread_ok l hl9 D A r _ σ x1 _ _ e9) (cwV 1 hts (tg_V wl_Ke_77 wm_Ke_needThread we_Ke_needThread wi_Ke wo_Ke_needThread) rfl rfl rfl wq_Ke_needThread ⟨Nat.le_of_ble_eq_true rfl, Nat.le_of_ble_eq_true rfl⟩) (ka_preV X9 hP hD hS 0 rfl rfl) rfl rfl hl.1 rfl (lv_room (Nat.le_of_ble_eq_true rfl)) d_Ke_lower_13 ⟨Nat.le_of_ble_eq_true rfl, Nat.le_of_ble_eq_true rfl⟩) X9 hD hS rfl (fun H locs hP hD hS => ?_)
  refine lv_aload_n hx hb d_Ke_lower_16 rfl (lv_at hl 0 rfl) ?_
  refine va_get (D := D) (ci := 4) (v := .ref (A 2)) (C := R_Ke) (T := T_Ke) (N := 5) hx hb hts wu_Ke hown hK hP 0 rfl rfl 2 (by decide) (hts _ wf_Ke_23) (fun _ h9 => h9) rfl d_Ke_lower_17 ?_
  refine lv_iload_n hx hb d_Ke_lower_20 rfl (lv_at hl 2 rfl) ?_
  refine lv_aload_n hx hb d_Ke_lower_21 rfl (lv_at hl 0 rfl) ?_
  refine va_get (D := D) (ci := 4) (v := .ref (A 4)) (C := R_Ke) (T := T_Ke) (N := 5) hx hb hts wu_Ke hown hK hP 0 rfl rfl 3 (by decide) (hts _ wf_Ke_28) (fun _ h9 => h9) rfl d_Ke_lower_22 ?_
  refine lv_iload_n hx hb d_Ke_lower_25 rfl (lv_at hl 1 rfl) ?_
  obtain ⟨v4, e9, h⟩ := zo_b h
  refine ka_i (va_runV (As := [.int x1]) (rest := [.int x2, .ref (A 2)]) S9 (c_Tg_clearanceOf l hl9 D A r _ u3 x1 _ e9) (cwV 1 hts (tg_V wl_Ke_90 wm_Tg_clearanceOf we_Tg_clearanceOf wi_Tg wo_Tg_clearanceOf) rfl rfl rfl wq_Tg_clearanceOf ⟨Nat.le_of_ble_eq_true rfl, Nat.le_of_ble_eq_true rfl⟩) (ka_preV X9 hP hD hS 4 rfl rfl) rfl rfl hl.1 rfl (lv_room (Nat.le_of_ble_eq_true rfl)) d_Ke_lower_26 ⟨Nat.le_of_ble_eq_true rfl, Nat.le_of_ble_eq_true rfl⟩) X9 hD hS rfl (fun H locs hP hD hS => ?_)
  obtain ⟨v5, e9, h⟩ := zo_b h
  refine ka_i (va_runV (As := [.int x2, .int v4]) (rest := []) S9 (c_Lb_fitsUnder l hl9 D A r _ u3 x2 v4 _ e9) (cwV 2 hts (tg_V wl_Ke_74 wm_Lb_fitsUnder we_Lb_fitsUnder wi_Lb wo_Lb_fitsUnder) rfl rfl rfl wq_Lb_fitsUnder ⟨Nat.le_of_ble_eq_true rfl, Nat.le_of_ble_eq_true rfl⟩) (ka_preV X9 hP hD hS 2 rfl rfl) rfl rfl hl.1 rfl (lv_room (Nat.le_of_ble_eq_true rfl)) d_Ke_lower_29 ⟨Nat.le_of_ble_eq_true rfl, Nat.le_of_ble_eq_true rfl⟩) X9 hD hS rfl (fun H locs hP hD hS => ?_)
  rcases zo_n h with ⟨c9, h⟩ | ⟨c9, h⟩
  · cases h
  refine ka_v (va_runS (As := [.int v5]) (rest := []) S9 (c_Ke_needAllowed_ok l hl9 D A (GW A u3 r) _ v5 c9) (cwS 1 hts (tg_S wl_Ke_123 ws_Ke_needAllowed wi_Ke wo_Ke_needAllowed) rfl rfl rfl wq_Ke_needAllowed ⟨Nat.le_of_ble_eq_true rfl, Nat.le_of_ble_eq_true rfl⟩) (ka_preS X9 hP hD hS) rfl rfl hl.1 rfl (lv_room (Nat.le_of_ble_eq_true rfl)) d_Ke_lower_32 ⟨Nat.le_of_ble_eq_true rfl, Nat.le_of_ble_eq_true rfl⟩) X9 hD hS rfl (fun H locs hP hD hS => ?_)
  refine lv_aload_n hx hb d_Ke_lower_35 rfl (lv_at hl 0 rfl) ?_
  refine va_get (D := D) (ci := 4) (v := .ref (A 2)) (C := R_Ke) (T := T_Ke) (N := 5) hx hb hts wu_Ke hown hK hP 0 rfl rfl 2 (by decide) (hts _ wf_Ke_23) (fun _ h9 => h9) rfl d_Ke_lower_36 ?_
  refine lv_aload_n hx hb d_Ke_lower_39 rfl (lv_at hl 0 rfl) ?_
  refine va_get (D := D) (ci := 4) (v := .ref (A 4)) (C := R_Ke) (T := T_Ke) (N := 5) hx hb hts wu_Ke hown hK hP 0 rfl rfl 3 (by decide) (hts _ wf_Ke_28) (fun _ h9 => h9) rfl d_Ke_lower_40 ?_
  refine lv_iload_n hx hb d_Ke_lower_43 rfl (lv_at hl 1 rfl) ?_
  obtain ⟨v6, e9, h⟩ := zo_b h
  refine ka_i (va_runV (As := [.int x1]) (rest := [.ref (A 2)]) S9 (c_Tg_labelOf l hl9 D A r _ u3 x1 _ e9) (cwV 1 hts (tg_V wl_Ke_85 wm_Tg_labelOf we_Tg_labelOf wi_Tg wo_Tg_labelOf) rfl rfl rfl wq_Tg_labelOf ⟨Nat.le_of_ble_eq_true rfl, Nat.le_of_ble_eq_true rfl⟩) (ka_preV X9 hP hD hS 4 rfl rfl) rfl rfl hl.1 rfl (lv_room (Nat.le_of_ble_eq_true rfl)) d_Ke_lower_44 ⟨Nat.le_of_ble_eq_true rfl, Nat.le_of_ble_eq_true rfl⟩) X9 hD hS rfl (fun H locs hP hD hS => ?_)
  refine lv_iload_n hx hb d_Ke_lower_47 rfl (lv_at hl 2 rfl) ?_
  obtain ⟨v7, e9, h⟩ := zo_b h
  refine ka_i (va_runV (As := [.int v6, .int x2]) (rest := []) S9 (c_Lb_fitsUnder l hl9 D A r _ u3 v6 x2 _ e9) (cwV 2 hts (tg_V wl_Ke_74 wm_Lb_fitsUnder we_Lb_fitsUnder wi_Lb wo_Lb_fitsUnder) rfl rfl rfl wq_Lb_fitsUnder ⟨Nat.le_of_ble_eq_true rfl, Nat.le_of_ble_eq_true rfl⟩) (ka_preV X9 hP hD hS 2 rfl rfl) rfl rfl hl.1 rfl (lv_room (Nat.le_of_ble_eq_true rfl)) d_Ke_lower_48 ⟨Nat.le_of_ble_eq_true rfl, Nat.le_of_ble_eq_true rfl⟩) X9 hD hS rfl (fun H locs hP hD hS => ?_)
  rcases zo_n h with ⟨c9, h⟩ | ⟨c9, h⟩
  · cases h
  refine ka_v (va_runS (As := [.int v7]) (rest := []) S9 (c_Ke_needAllowed_ok l hl9 D A (GW A u3 r) _ v7 c9) (cwS 1 hts (tg_S wl_Ke_123 ws_Ke_needAllowed wi_Ke wo_Ke_needAllowed) rfl rfl rfl wq_Ke_needAllowed ⟨Nat.le_of_ble_eq_true rfl, Nat.le_of_ble_eq_true rfl⟩) (ka_preS X9 hP hD hS) rfl rfl hl.1 rfl (lv_room (Nat.le_of_ble_eq_true rfl)) d_Ke_lower_51 ⟨Nat.le_of_ble_eq_true rfl, Nat.le_of_ble_eq_true rfl⟩) X9 hD hS rfl (fun H locs hP hD hS => ?_)
  refine lv_aload_n hx hb d_Ke_lower_54 rfl (lv_at hl 0 rfl) ?_
  refine va_get (D := D) (ci := 4) (v := .ref (A 4)) (C := R_Ke) (T := T_Ke) (N := 5) hx hb hts wu_Ke hown hK hP 0 rfl rfl 3 (by decide) (hts _ wf_Ke_28) (fun _ h9 => h9) rfl d_Ke_lower_55 ?_
  refine lv_iload_n hx hb d_Ke_lower_58 rfl (lv_at hl 1 rfl) ?_
  refine lv_iload_n hx hb d_Ke_lower_59 rfl (lv_at hl 2 rfl) ?_
  obtain ⟨v8, e9, h⟩ := zo_b h
  refine ka_v (va_runV (As := [.int x1, .int x2]) (rest := []) S9 (c_Tg_setClearance l hl9 D A r _ u3 x1 x2 _ e9) (cwV 2 hts (tg_V wl_Ke_97 wm_Tg_setClearance we_Tg_setClearance wi_Tg wo_Tg_setClearance) rfl rfl rfl wq_Tg_setClearance ⟨Nat.le_of_ble_eq_true rfl, Nat.le_of_ble_eq_true rfl⟩) (ka_preV X9 hP hD hS 4 rfl rfl) rfl rfl hl.1 rfl (lv_room (Nat.le_of_ble_eq_true rfl)) d_Ke_lower_60 ⟨Nat.le_of_ble_eq_true rfl, Nat.le_of_ble_eq_true rfl⟩) X9 hD hS rfl (fun H locs hP hD hS => ?_)
  refine lv_iconst (v := 0) hx hb d_Ke_lower_63 (by decide) ?_
  cases h
  exact W.iret hx hb hr (fun t ht hW => ⟨⟨_, (), rfl, rfl, ka_at ht hP⟩, hS.F ht⟩) hS.2.2 d_Ke_lower_64 hlk
set_option maxRecDepth 100000 in
set_option maxHeartbeats 4000000 in
theorem c_Ke_lower_err (l : Launch) (hl9 : l.stackTraces = false) (D : va_G) (A : Nat → Nat) (r : va_W) (sz : Nat) (σ : KS) (x1 x2 : Int32) (k9 : Nat) (z : KS) (h : f_Ke_lower σ x1 x2 = some (.error k9, z)) : vx_Met l y_Ke_lower (Cond.code y_Ke_lower b_Ke_lower 3 (some .int) :: T0) ({ frames := 8, cells := 1, slots := 6, locals := 122 } : Room) (va_Pc [.ref (A 0), .int x1, .int x2] (ka_Wd D A (GW A σ r) sz)) ka_No (ka_Xe D k9 (GW A z r) (va_A (GW A σ r) sz)) 1 6 (va_A (GW A σ r) sz) := by
  unfold f_Ke_lower at h
  refine ka_ofX (own := R_Ke) (fun A9 => ka_Xe D k9 (GW A z r) A9) (by decide) rfl (Nat.le_of_ble_eq_true rfl) ?_
  intro p e s m below meth c A9 ls S9 hr hlk hex X9 hP hD hl
  obtain ⟨hx, hb, hml, hown, hts⟩ := id S9
  have hK := X9.2.1
  have hS : va_S A9 s.heap s.heap [] := va_S.rf
  replace hl : lv_has ls 3 [(0, .ref (A 0)), (1, .int x1), (2, .int x2)] := hl
  refine lv_aload_n hx hb d_Ke_lower_0 rfl (lv_at hl 0 rfl) ?_
  refine va_get (D := D) (ci := 4) (v := .ref (A 2)) (C := R_Ke) (T := T_Ke) (N := 5) hx hb hts wu_Ke hown hK hP 0 rfl rfl 2 (by decide) (hts _ wf_Ke_23) (fun _ h9 => h9) rfl d_Ke_lower_1 ?_
  refine lv_iload_n hx hb d_Ke_lower_4 rfl (lv_at hl 2 rfl) ?_
  obtain ⟨v1, e9, h⟩ := zo_b h
  refine ka_i (va_runV (As := [.int x2]) (rest := []) S9 (c_Lb_isStarless l hl9 D A r _ σ x2 _ e9) (cwV 1 hts (tg_V wl_Ke_100 wm_Lb_isStarless we_Lb_isStarless wi_Lb wo_Lb_isStarless) rfl rfl rfl wq_Lb_isStarless ⟨Nat.le_of_ble_eq_true rfl, Nat.le_of_ble_eq_true rfl⟩) (ka_preV X9 hP hD hS 2 rfl rfl) rfl rfl hl.1 rfl (lv_room (Nat.le_of_ble_eq_true rfl)) d_Ke_lower_5 ⟨Nat.le_of_ble_eq_true rfl, Nat.le_of_ble_eq_true rfl⟩) X9 hD hS rfl (fun H locs hP hD hS => ?_)
  rcases zo_n h with ⟨c9, h⟩ | ⟨c9, h⟩
  · obtain ⟨rfl, rfl⟩ := zo_e h
    exact ka_err (vx_runS (As := [.int v1]) (rest := []) S9 (c_Ke_needNumber_err l hl9 D A (GW A σ r) _ v1 c9) (cwS 1 hts (tg_S wl_Ke_44 ws_Ke_needNumber wi_Ke wo_Ke_needNumber) rfl rfl rfl wq_Ke_needNumber ⟨Nat.le_of_ble_eq_true rfl, Nat.le_of_ble_eq_true rfl⟩) (ka_preS X9 hP hD hS) rfl rfl hl.1 rfl (lv_room (Nat.le_of_ble_eq_true rfl)) d_Ke_lower_8 ⟨Nat.le_of_ble_eq_true rfl, Nat.le_of_ble_eq_true rfl⟩) hlk hex X9 hD hS (Nat.le_of_ble_eq_true rfl) (Nat.le_of_ble_eq_true rfl)
  refine ka_v (va_runS (As := [.int v1]) (rest := []) S9 (c_Ke_needNumber_ok l hl9 D A (GW A σ r) _ v1 c9) (cwS 1 hts (tg_S wl_Ke_44 ws_Ke_needNumber wi_Ke wo_Ke_needNumber) rfl rfl rfl wq_Ke_needNumber ⟨Nat.le_of_ble_eq_true rfl, Nat.le_of_ble_eq_true rfl⟩) (ka_preS X9 hP hD hS) rfl rfl hl.1 rfl (lv_room (Nat.le_of_ble_eq_true rfl)) d_Ke_lower_8 ⟨Nat.le_of_ble_eq_true rfl, Nat.le_of_ble_eq_true rfl⟩) X9 hD hS rfl (fun H locs hP hD hS => ?_)
  refine lv_aload_n hx hb d_Ke_lower_11 rfl (lv_at hl 0 rfl) ?_
  refine lv_iload_n hx hb d_Ke_lower_12 rfl (lv_at hl 1 rfl) ?_
  rcases zo_x h with ⟨k9, u3, e9, h⟩ | ⟨v2, u3, e9, h⟩
  · cases h
    exact ka_err (vx_runV (As := [.int x1]) (rest := []) S9 (c_Ke_needThread_err l hl9 D A r _ σ x1 _ _ e9) (cwV 1 hts (tg_V wl_Ke_77 wm_Ke_needThread we_Ke_needThread wi_Ke wo_Ke_needThread) rfl rfl rfl wq_Ke_needThread ⟨Nat.le_of_ble_eq_true rfl, Nat.le_of_ble_eq_true rfl⟩) (ka_preV X9 hP hD hS 0 rfl rfl) rfl rfl hl.1 rfl (lv_room (Nat.le_of_ble_eq_true rfl)) d_Ke_lower_13 ⟨Nat.le_of_ble_eq_true rfl, Nat.le_of_ble_eq_true rfl⟩) hlk hex X9 hD hS (Nat.le_of_ble_eq_true rfl) (Nat.le_of_ble_eq_true rfl)
  refine ka_v (va_runV (As := [.int x1]) (rest := []) S9 (c_Ke_needThread_ok l hl9 D A r _ σ x1 _ _ e9) (cwV 1 hts (tg_V wl_Ke_77 wm_Ke_needThread we_Ke_needThread wi_Ke wo_Ke_needThread) rfl rfl rfl wq_Ke_needThread ⟨Nat.le_of_ble_eq_true rfl, Nat.le_of_ble_eq_true rfl⟩) (ka_preV X9 hP hD hS 0 rfl rfl) rfl rfl hl.1 rfl (lv_room (Nat.le_of_ble_eq_true rfl)) d_Ke_lower_13 ⟨Nat.le_of_ble_eq_true rfl, Nat.le_of_ble_eq_true rfl⟩) X9 hD hS rfl (fun H locs hP hD hS => ?_)
  refine lv_aload_n hx hb d_Ke_lower_16 rfl (lv_at hl 0 rfl) ?_
  refine va_get (D := D) (ci := 4) (v := .ref (A 2)) (C := R_Ke) (T := T_Ke) (N := 5) hx hb hts wu_Ke hown hK hP 0 rfl rfl 2 (by decide) (hts _ wf_Ke_23) (fun _ h9 => h9) rfl d_Ke_lower_17 ?_
  refine lv_iload_n hx hb d_Ke_lower_20 rfl (lv_at hl 2 rfl) ?_
  refine lv_aload_n hx hb d_Ke_lower_21 rfl (lv_at hl 0 rfl) ?_
  refine va_get (D := D) (ci := 4) (v := .ref (A 4)) (C := R_Ke) (T := T_Ke) (N := 5) hx hb hts wu_Ke hown hK hP 0 rfl rfl 3 (by decide) (hts _ wf_Ke_28) (fun _ h9 => h9) rfl d_Ke_lower_22 ?_
  refine lv_iload_n hx hb d_Ke_lower_25 rfl (lv_at hl 1 rfl) ?_
  obtain ⟨v4, e9, h⟩ := zo_b h
  refine ka_i (va_runV (As := [.int x1]) (rest := [.int x2, .ref (A 2)]) S9 (c_Tg_clearanceOf l hl9 D A r _ u3 x1 _ e9) (cwV 1 hts (tg_V wl_Ke_90 wm_Tg_clearanceOf we_Tg_clearanceOf wi_Tg wo_Tg_clearanceOf) rfl rfl rfl wq_Tg_clearanceOf ⟨Nat.le_of_ble_eq_true rfl, Nat.le_of_ble_eq_true rfl⟩) (ka_preV X9 hP hD hS 4 rfl rfl) rfl rfl hl.1 rfl (lv_room (Nat.le_of_ble_eq_true rfl)) d_Ke_lower_26 ⟨Nat.le_of_ble_eq_true rfl, Nat.le_of_ble_eq_true rfl⟩) X9 hD hS rfl (fun H locs hP hD hS => ?_)
  obtain ⟨v5, e9, h⟩ := zo_b h
  refine ka_i (va_runV (As := [.int x2, .int v4]) (rest := []) S9 (c_Lb_fitsUnder l hl9 D A r _ u3 x2 v4 _ e9) (cwV 2 hts (tg_V wl_Ke_74 wm_Lb_fitsUnder we_Lb_fitsUnder wi_Lb wo_Lb_fitsUnder) rfl rfl rfl wq_Lb_fitsUnder ⟨Nat.le_of_ble_eq_true rfl, Nat.le_of_ble_eq_true rfl⟩) (ka_preV X9 hP hD hS 2 rfl rfl) rfl rfl hl.1 rfl (lv_room (Nat.le_of_ble_eq_true rfl)) d_Ke_lower_29 ⟨Nat.le_of_ble_eq_true rfl, Nat.le_of_ble_eq_true rfl⟩) X9 hD hS rfl (fun H locs hP hD hS => ?_)
  rcases zo_n h with ⟨c9, h⟩ | ⟨c9, h⟩
  · obtain ⟨rfl, rfl⟩ := zo_e h
    exact ka_err (vx_runS (As := [.int v5]) (rest := []) S9 (c_Ke_needAllowed_err l hl9 D A (GW A u3 r) _ v5 c9) (cwS 1 hts (tg_S wl_Ke_123 ws_Ke_needAllowed wi_Ke wo_Ke_needAllowed) rfl rfl rfl wq_Ke_needAllowed ⟨Nat.le_of_ble_eq_true rfl, Nat.le_of_ble_eq_true rfl⟩) (ka_preS X9 hP hD hS) rfl rfl hl.1 rfl (lv_room (Nat.le_of_ble_eq_true rfl)) d_Ke_lower_32 ⟨Nat.le_of_ble_eq_true rfl, Nat.le_of_ble_eq_true rfl⟩) hlk hex X9 hD hS (Nat.le_of_ble_eq_true rfl) (Nat.le_of_ble_eq_true rfl)
  refine ka_v (va_runS (As := [.int v5]) (rest := []) S9 (c_Ke_needAllowed_ok l hl9 D A (GW A u3 r) _ v5 c9) (cwS 1 hts (tg_S wl_Ke_123 ws_Ke_needAllowed wi_Ke wo_Ke_needAllowed) rfl rfl rfl wq_Ke_needAllowed ⟨Nat.le_of_ble_eq_true rfl, Nat.le_of_ble_eq_true rfl⟩) (ka_preS X9 hP hD hS) rfl rfl hl.1 rfl (lv_room (Nat.le_of_ble_eq_true rfl)) d_Ke_lower_32 ⟨Nat.le_of_ble_eq_true rfl, Nat.le_of_ble_eq_true rfl⟩) X9 hD hS rfl (fun H locs hP hD hS => ?_)
  refine lv_aload_n hx hb d_Ke_lower_35 rfl (lv_at hl 0 rfl) ?_
  refine va_get (D := D) (ci := 4) (v := .ref (A 2)) (C := R_Ke) (T := T_Ke) (N := 5) hx hb hts wu_Ke hown hK hP 0 rfl rfl 2 (by decide) (hts _ wf_Ke_23) (fun _ h9 => h9) rfl d_Ke_lower_36 ?_
  refine lv_aload_n hx hb d_Ke_lower_39 rfl (lv_at hl 0 rfl) ?_
  refine va_get (D := D) (ci := 4) (v := .ref (A 4)) (C := R_Ke) (T := T_Ke) (N := 5) hx hb hts wu_Ke hown hK hP 0 rfl rfl 3 (by decide) (hts _ wf_Ke_28) (fun _ h9 => h9) rfl d_Ke_lower_40 ?_
  refine lv_iload_n hx hb d_Ke_lower_43 rfl (lv_at hl 1 rfl) ?_
  obtain ⟨v6, e9, h⟩ := zo_b h
  refine ka_i (va_runV (As := [.int x1]) (rest := [.ref (A 2)]) S9 (c_Tg_labelOf l hl9 D A r _ u3 x1 _ e9) (cwV 1 hts (tg_V wl_Ke_85 wm_Tg_labelOf we_Tg_labelOf wi_Tg wo_Tg_labelOf) rfl rfl rfl wq_Tg_labelOf ⟨Nat.le_of_ble_eq_true rfl, Nat.le_of_ble_eq_true rfl⟩) (ka_preV X9 hP hD hS 4 rfl rfl) rfl rfl hl.1 rfl (lv_room (Nat.le_of_ble_eq_true rfl)) d_Ke_lower_44 ⟨Nat.le_of_ble_eq_true rfl, Nat.le_of_ble_eq_true rfl⟩) X9 hD hS rfl (fun H locs hP hD hS => ?_)
  refine lv_iload_n hx hb d_Ke_lower_47 rfl (lv_at hl 2 rfl) ?_
  obtain ⟨v7, e9, h⟩ := zo_b h
  refine ka_i (va_runV (As := [.int v6, .int x2]) (rest := []) S9 (c_Lb_fitsUnder l hl9 D A r _ u3 v6 x2 _ e9) (cwV 2 hts (tg_V wl_Ke_74 wm_Lb_fitsUnder we_Lb_fitsUnder wi_Lb wo_Lb_fitsUnder) rfl rfl rfl wq_Lb_fitsUnder ⟨Nat.le_of_ble_eq_true rfl, Nat.le_of_ble_eq_true rfl⟩) (ka_preV X9 hP hD hS 2 rfl rfl) rfl rfl hl.1 rfl (lv_room (Nat.le_of_ble_eq_true rfl)) d_Ke_lower_48 ⟨Nat.le_of_ble_eq_true rfl, Nat.le_of_ble_eq_true rfl⟩) X9 hD hS rfl (fun H locs hP hD hS => ?_)
  rcases zo_n h with ⟨c9, h⟩ | ⟨c9, h⟩
  · obtain ⟨rfl, rfl⟩ := zo_e h
    exact ka_err (vx_runS (As := [.int v7]) (rest := []) S9 (c_Ke_needAllowed_err l hl9 D A (GW A u3 r) _ v7 c9) (cwS 1 hts (tg_S wl_Ke_123 ws_Ke_needAllowed wi_Ke wo_Ke_needAllowed) rfl rfl rfl wq_Ke_needAllowed ⟨Nat.le_of_ble_eq_true rfl, Nat.le_of_ble_eq_true rfl⟩) (ka_preS X9 hP hD hS) rfl rfl hl.1 rfl (lv_room (Nat.le_of_ble_eq_true rfl)) d_Ke_lower_51 ⟨Nat.le_of_ble_eq_true rfl, Nat.le_of_ble_eq_true rfl⟩) hlk hex X9 hD hS (Nat.le_of_ble_eq_true rfl) (Nat.le_of_ble_eq_true rfl)
  refine ka_v (va_runS (As := [.int v7]) (rest := []) S9 (c_Ke_needAllowed_ok l hl9 D A (GW A u3 r) _ v7 c9) (cwS 1 hts (tg_S wl_Ke_123 ws_Ke_needAllowed wi_Ke wo_Ke_needAllowed) rfl rfl rfl wq_Ke_needAllowed ⟨Nat.le_of_ble_eq_true rfl, Nat.le_of_ble_eq_true rfl⟩) (ka_preS X9 hP hD hS) rfl rfl hl.1 rfl (lv_room (Nat.le_of_ble_eq_true rfl)) d_Ke_lower_51 ⟨Nat.le_of_ble_eq_true rfl, Nat.le_of_ble_eq_true rfl⟩) X9 hD hS rfl (fun H locs hP hD hS => ?_)
  refine lv_aload_n hx hb d_Ke_lower_54 rfl (lv_at hl 0 rfl) ?_
  refine va_get (D := D) (ci := 4) (v := .ref (A 4)) (C := R_Ke) (T := T_Ke) (N := 5) hx hb hts wu_Ke hown hK hP 0 rfl rfl 3 (by decide) (hts _ wf_Ke_28) (fun _ h9 => h9) rfl d_Ke_lower_55 ?_
  refine lv_iload_n hx hb d_Ke_lower_58 rfl (lv_at hl 1 rfl) ?_
  refine lv_iload_n hx hb d_Ke_lower_59 rfl (lv_at hl 2 rfl) ?_
  obtain ⟨v8, e9, h⟩ := zo_b h
  refine ka_v (va_runV (As := [.int x1, .int x2]) (rest := []) S9 (c_Tg_setClearance l hl9 D A r _ u3 x1 x2 _ e9) (cwV 2 hts (tg_V wl_Ke_97 wm_Tg_setClearance we_Tg_setClearance wi_Tg wo_Tg_setClearance) rfl rfl rfl wq_Tg_setClearance ⟨Nat.le_of_ble_eq_true rfl, Nat.le_of_ble_eq_true rfl⟩) (ka_preV X9 hP hD hS 4 rfl rfl) rfl rfl hl.1 rfl (lv_room (Nat.le_of_ble_eq_true rfl)) d_Ke_lower_60 ⟨Nat.le_of_ble_eq_true rfl, Nat.le_of_ble_eq_true rfl⟩) X9 hD hS rfl (fun H locs hP hD hS => ?_)
  refine lv_iconst (v := 0) hx hb d_Ke_lower_63 (by decide) ?_
  cases h
