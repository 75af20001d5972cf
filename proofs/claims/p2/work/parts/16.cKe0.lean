set_option maxRecDepth 100000 in
set_option maxHeartbeats 4000000 in
theorem c_Ke_needNumber_ok (l : Launch) (hl9 : l.stackTraces = false) (D : va_G) (A : Nat → Nat) (w : va_W) (sz : Nat) (x0 : Int32) (h : ¬ x0 = 0) : Met l y_Ke_needNumber (Cond.code y_Ke_needNumber b_Ke_needNumber 1 none :: T0) ({ frames := 0, cells := 0, slots := 0, locals := 0 } : Room) (va_Pc [.int x0] (ka_Wd D A (w) sz)) (ka_Rv D (w) (va_A (w) sz)) 0 0 (va_A (w) sz) := by
  refine ka_of (own := R_Ke) (fun A9 => ka_Rv D (w) A9) (by decide) rfl (Nat.le_of_ble_eq_true rfl) ?_
  intro p e s m below meth c A9 ls S9 hr hlk hex X9 hP hD hl
  obtain ⟨hx, hb, hml, hown, hts⟩ := id S9
  have hK := X9.2.1
  have hS : va_S A9 s.heap s.heap [] := va_S.rf
  replace hl : lv_has ls 1 [(0, .int x0)] := hl
  refine lv_iload_n hx hb d_Ke_needNumber_0 rfl (lv_at hl 0 rfl) ?_
  refine lv_if_ne (tgt := 12) hx hb d_Ke_needNumber_1 (by decide) (fun c9 => ?_) (fun c9 => ?_)
  · exact W.vret hx hb hr (fun t ht hW => ⟨⟨(), rfl, trivial, ka_at ht hP⟩, hS.F ht⟩) hS.2.2 d_Ke_needNumber_12 hlk
  exact absurd c9 h
set_option maxRecDepth 100000 in
set_option maxHeartbeats 4000000 in
theorem c_Ke_needNumber_err (l : Launch) (hl9 : l.stackTraces = false) (D : va_G) (A : Nat → Nat) (w : va_W) (sz : Nat) (x0 : Int32) (h : x0 = 0) : vx_Met l y_Ke_needNumber (Cond.code y_Ke_needNumber b_Ke_needNumber 1 none :: T0) ({ frames := 6, cells := 1, slots := 6, locals := 81 } : Room) (va_Pc [.int x0] (ka_Wd D A (w) sz)) ka_No (ka_Xe D 1 (w) (va_A (w) sz)) 1 6 (va_A (w) sz) := by
  refine ka_ofX (own := R_Ke) (fun A9 => ka_Xe D 1 (w) A9) (by decide) rfl (Nat.le_of_ble_eq_true rfl) ?_
  intro p e s m below meth c A9 ls S9 hr hlk hex X9 hP hD hl
  obtain ⟨hx, hb, hml, hown, hts⟩ := id S9
  have hK := X9.2.1
  have hS : va_S A9 s.heap s.heap [] := va_S.rf
  replace hl : lv_has ls 1 [(0, .int x0)] := hl
  refine lv_iload_n hx hb d_Ke_needNumber_0 rfl (lv_at hl 0 rfl) ?_
  refine lv_if_ne (tgt := 12) hx hb d_Ke_needNumber_1 (by decide) (fun c9 => ?_) (fun c9 => ?_)
  · exact absurd h c9
  exact vx_throw0 hx hb hl9 (own := R_Ke) (cls := "java/lang/IllegalArgumentException") (names := ["java/lang/RuntimeException", "java/lang/Exception"]) (ik := 268) (ic := 270) hown (by decide) (by decide) (hts _ wc_Ke_268) (hts _ wi_IllegalArgumentException) (ka_hat_IllegalArgumentException hts X9.2.2.2.2) ka_hg_IllegalArgumentException X9.2.2.1 X9.2.2.2.1 hS (hml ▸ hl.1) d_Ke_needNumber_4 d_Ke_needNumber_7 d_Ke_needNumber_8 d_Ke_needNumber_11 (fun x hx9 => (hex x hx9).elim) (Nat.le_of_ble_eq_true rfl) (Nat.le_of_ble_eq_true rfl) (Nat.le_of_ble_eq_true rfl) (Nat.le_of_ble_eq_true rfl) hlk (fun t ha hz hk => ⟨(), trivial, ⟨rfl, hP.kept (fun k q hq => hk q.1 (hP k q hq).lt)⟩, hz, fun q h1 _ => hk q h1⟩) (fun z hz => by cases hz) (Nat.le_of_ble_eq_true rfl) (Nat.le_of_ble_eq_true rfl)
def f_Ke_isBetween (x0 x1 x2 : Int32) : Option (Int32) := if x0 < x1 then (some 0) else (if x2 < x0 then (some 0) else (some 1))
set_option maxRecDepth 100000 in
set_option maxHeartbeats 4000000 in
theorem c_Ke_isBetween (l : Launch) (hl9 : l.stackTraces = false) (D : va_G) (A : Nat → Nat) (w : va_W) (sz : Nat) (x0 x1 x2 : Int32) (z : Int32) (h : f_Ke_isBetween x0 x1 x2 = some z) : Met l y_Ke_isBetween (Cond.code y_Ke_isBetween b_Ke_isBetween 3 (some .boolean) :: T0) ({ frames := 0, cells := 0, slots := 0, locals := 0 } : Room) (va_Pc [.int x0, .int x1, .int x2] (ka_Wd D A (w) sz)) (ka_Ri D z (w) (va_A (w) sz)) 0 0 (va_A (w) sz) := by
  unfold f_Ke_isBetween at h
  refine ka_of (own := R_Ke) (fun A9 => ka_Ri D z (w) A9) (by decide) rfl (Nat.le_of_ble_eq_true rfl) ?_
  intro p e s m below meth c A9 ls S9 hr hlk hex X9 hP hD hl
  obtain ⟨hx, hb, hml, hown, hts⟩ := id S9
  have hK := X9.2.1
  have hS : va_S A9 s.heap s.heap [] := va_S.rf
  replace hl : lv_has ls 3 [(0, .int x0), (1, .int x1), (2, .int x2)] := hl
  refine lv_iload_n hx hb d_Ke_isBetween_0 rfl (lv_at hl 0 rfl) ?_
  refine lv_iload_n hx hb d_Ke_isBetween_1 rfl (lv_at hl 1 rfl) ?_
  refine lv_icmp_lt (tgt := 14) hx hb d_Ke_isBetween_2 (by decide) (fun c9 => ?_) (fun c9 => ?_)
  · replace h := zo_t c9 h
    refine lv_iconst (v := 0) hx hb d_Ke_isBetween_14 (by decide) ?_
    cases h
    exact W.zret hx hb hr (by decide) (fun t ht hW => ⟨⟨_, (), rfl, rfl, ka_at ht hP⟩, hS.F ht⟩) hS.2.2 d_Ke_isBetween_15 hlk
  replace h := zo_f c9 h
  refine lv_iload_n hx hb d_Ke_isBetween_5 rfl (lv_at hl 0 rfl) ?_
  refine lv_iload_n hx hb d_Ke_isBetween_6 rfl (lv_at hl 2 rfl) ?_
  refine lv_icmp_gt (tgt := 14) hx hb d_Ke_isBetween_7 (by decide) (fun c9 => ?_) (fun c9 => ?_)
  · replace h := zo_t c9 h
    refine lv_iconst (v := 0) hx hb d_Ke_isBetween_14 (by decide) ?_
    cases h
    exact W.zret hx hb hr (by decide) (fun t ht hW => ⟨⟨_, (), rfl, rfl, ka_at ht hP⟩, hS.F ht⟩) hS.2.2 d_Ke_isBetween_15 hlk
  replace h := zo_f c9 h
  refine lv_iconst (v := 1) hx hb d_Ke_isBetween_10 (by decide) ?_
  refine lv_goto (tgt := 15) hx hb d_Ke_isBetween_11 (by decide) ?_
  cases h
  exact W.zret hx hb hr (by decide) (fun t ht hW => ⟨⟨_, (), rfl, rfl, ka_at ht hP⟩, hS.F ht⟩) hS.2.2 d_Ke_isBetween_15 hlk
set_option maxRecDepth 100000 in
set_option maxHeartbeats 4000000 in
theorem c_Ke_needRoom_ok (l : Launch) (hl9 : l.stackTraces = false) (D : va_G) (A : Nat → Nat) (w : va_W) (sz : Nat) (x0 : Int32) (h : ¬ x0 = 0) : Met l y_Ke_needRoom (Cond.code y_Ke_needRoom b_Ke_needRoom 1 none :: T0) ({ frames := 0, cells := 0, slots := 0, locals := 0 } : Room) (va_Pc [.int x0] (ka_Wd D A (w) sz)) (ka_Rv D (w) (va_A (w) sz)) 0 0 (va_A (w) sz) := by
  refine ka_of (own := R_Ke) (fun A9 => ka_Rv D (w) A9) (by decide) rfl (Nat.le_of_ble_eq_true rfl) ?_
  intro p e s m below meth c A9 ls S9 hr hlk hex X9 hP hD hl
  obtain ⟨hx, hb, hml, hown, hts⟩ := id S9
  have hK := X9.2.1
  have hS : va_S A9 s.heap s.heap [] := va_S.rf
  replace hl : lv_has ls 1 [(0, .int x0)] := hl
  refine lv_iload_n hx hb d_Ke_needRoom_0 rfl (lv_at hl 0 rfl) ?_
  refine lv_if_ne (tgt := 12) hx hb d_Ke_needRoom_1 (by decide) (fun c9 => ?_) (fun c9 => ?_)
  · exact W.vret hx hb hr (fun t ht hW => ⟨⟨(), rfl, trivial, ka_at ht hP⟩, hS.F ht⟩) hS.2.2 d_Ke_needRoom_12 hlk
  exact absurd c9 h
set_option maxRecDepth 100000 in
set_option maxHeartbeats 4000000 in
theorem c_Ke_needRoom_err (l : Launch) (hl9 : l.stackTraces = false) (D : va_G) (A : Nat → Nat) (w : va_W) (sz : Nat) (x0 : Int32) (h : x0 = 0) : vx_Met l y_Ke_needRoom (Cond.code y_Ke_needRoom b_Ke_needRoom 1 none :: T0) ({ frames := 6, cells := 1, slots := 6, locals := 81 } : Room) (va_Pc [.int x0] (ka_Wd D A (w) sz)) ka_No (ka_Xe D 4 (w) (va_A (w) sz)) 1 6 (va_A (w) sz) := by
  refine ka_ofX (own := R_Ke) (fun A9 => ka_Xe D 4 (w) A9) (by decide) rfl (Nat.le_of_ble_eq_true rfl) ?_
  intro p e s m below meth c A9 ls S9 hr hlk hex X9 hP hD hl
  obtain ⟨hx, hb, hml, hown, hts⟩ := id S9
  have hK := X9.2.1
  have hS : va_S A9 s.heap s.heap [] := va_S.rf
  replace hl : lv_has ls 1 [(0, .int x0)] := hl
  refine lv_iload_n hx hb d_Ke_needRoom_0 rfl (lv_at hl 0 rfl) ?_
  refine lv_if_ne (tgt := 12) hx hb d_Ke_needRoom_1 (by decide) (fun c9 => ?_) (fun c9 => ?_)
  · exact absurd h c9
  exact vx_throw0 hx hb hl9 (own := R_Ke) (cls := "java/lang/IllegalStateException") (names := ["java/lang/RuntimeException", "java/lang/Exception"]) (ik := 277) (ic := 279) hown (by decide) (by decide) (hts _ wc_Ke_277) (hts _ wi_IllegalStateException) (ka_hat_IllegalStateException hts X9.2.2.2.2) ka_hg_IllegalStateException X9.2.2.1 X9.2.2.2.1 hS (hml ▸ hl.1) d_Ke_needRoom_4 d_Ke_needRoom_7 d_Ke_needRoom_8 d_Ke_needRoom_11 (fun x hx9 => (hex x hx9).elim) (Nat.le_of_ble_eq_true rfl) (Nat.le_of_ble_eq_true rfl) (Nat.le_of_ble_eq_true rfl) (Nat.le_of_ble_eq_true rfl) hlk (fun t ha hz hk => ⟨(), trivial, ⟨rfl, hP.kept (fun k q hq => hk q.1 (hP k q hq).lt)⟩, hz, fun q h1 _ => hk q h1⟩) (fun z hz => by cases hz) (Nat.le_of_ble_eq_true rfl) (Nat.le_of_ble_eq_true rfl)
def f_Ke_label (σ : KS) (x1 x2 x3 : Int32) : Option (Except Nat Int32 × KS) := (f_Lb_has σ x1).bind fun v1 => if v1 = 0 then (some (.error 1, σ)) else ((f_Ke_isBetween x2 0 7).bind fun v2 => if v2 = 0 then (some (.error 1, σ)) else ((f_Ke_isBetween x3 0 4).bind fun v3 => if v3 = 0 then (some (.error 1, σ)) else ((f_Lb_changed σ x1 x2 x3).bind fun v4 => (f_Lb_missing σ v4).bind fun v5 => (f_Lb_free σ).bind fun v6 => if v6 < v5 then (some (.error 4, σ)) else ((f_Lb_numberOf σ v4).bind fun v7 => some (.ok v7.1, v7.2)))))
set_option maxRecDepth 100000 in
set_option maxHeartbeats 4000000 in
theorem c_Ke_label_ok (l : Launch) (hl9 : l.stackTraces = false) (D : va_G) (A : Nat → Nat) (r : va_W) (sz : Nat) (σ : KS) (x1 x2 x3 : Int32) (z9 : Int32) (z : KS) (h : f_Ke_label σ x1 x2 x3 = some (.ok z9, z)) : Met l y_Ke_label (Cond.code y_Ke_label b_Ke_label 5 (some .int) :: T0) ({ frames := 2, cells := 0, slots := 0, locals := 44 } : Room) (va_Pc [.ref (A 0), .int x1, .int x2, .int x3] (ka_Wd D A (GW A σ r) sz)) (ka_Ri D z9 (GW A z r) (va_A (GW A σ r) sz)) 0 0 (va_A (GW A σ r) sz) := by
  unfold f_Ke_label at h
  refine ka_of (own := R_Ke) (fun A9 => ka_Ri D z9 (GW A z r) A9) (by decide) rfl (Nat.le_of_ble_eq_true rfl) ?_
  intro p e s m below meth c A9 ls S9 hr hlk hex X9 hP hD hl
  obtain ⟨hx, hb, hml, hown, hts⟩ := id S9
  have hK := X9.2.1
  have hS : va_S A9 s.heap s.heap [] := va_S.rf
  replace hl : lv_has ls 5 [(0, .ref (A 0)), (1, .int x1), (2, .int x2), (3, .int x3)] := hl
  refine lv_aload_n hx hb d_Ke_label_0 rfl (lv_at hl 0 rfl) ?_
  refine va_get (D := D) (ci := 4) (v := .ref (A 2)) (C := R_Ke) (T := T_Ke) (N := 5) hx hb hts wu_Ke hown hK hP 0 rfl rfl 2 (by decide) (hts _ wf_Ke_23) (fun _ h9 => h9) rfl d_Ke_label_1 ?_
  refine lv_iload_n hx hb d_Ke_label_4 rfl (lv_at hl 1 rfl) ?_
  obtain ⟨v1, e9, h⟩ := zo_b h
  refine ka_i (va_runV (As := [.int x1]) (rest := []) S9 (c_Lb_has l hl9 D A r _ σ x1 _ e9) (cwV 1 hts (tg_V wl_Ke_34 wm_Lb_has we_Lb_has wi_Lb wo_Lb_has) rfl rfl rfl wq_Lb_has ⟨Nat.le_of_ble_eq_true rfl, Nat.le_of_ble_eq_true rfl⟩) (ka_preV X9 hP hD hS 2 rfl rfl) rfl rfl hl.1 rfl (lv_room (Nat.le_of_ble_eq_true rfl)) d_Ke_label_5 ⟨Nat.le_of_ble_eq_true rfl, Nat.le_of_ble_eq_true rfl⟩) X9 hD hS rfl (fun H locs hP hD hS => ?_)
  refine lv_if_eq (tgt := 34) hx hb d_Ke_label_8 (by decide) (fun c9 => ?_) (fun c9 => ?_)
  · replace h := zo_t c9 h
    refine lv_iconst (v := 0) hx hb d_Ke_label_34 (by decide) ?_
    cases h
  replace h := zo_f c9 h
  refine lv_iload_n hx hb d_Ke_label_11 rfl (lv_at hl 2 rfl) ?_
  refine lv_iconst (v := 0) hx hb d_Ke_label_12 (by decide) ?_
  refine lv_bipush (v := 7) hx hb d_Ke_label_13 (by decide) ?_
  obtain ⟨v2, e9, h⟩ := zo_b h
  refine ka_i (va_runS (As := [.int x2, .int 0, .int 7]) (rest := []) S9 (c_Ke_isBetween l hl9 D A (GW A σ r) _ x2 0 7 _ e9) (cwS 3 hts (tg_S wl_Ke_40 ws_Ke_isBetween wi_Ke wo_Ke_isBetween) rfl rfl rfl wq_Ke_isBetween ⟨Nat.le_of_ble_eq_true rfl, Nat.le_of_ble_eq_true rfl⟩) (ka_preS X9 hP hD hS) rfl rfl hl.1 rfl (lv_room (Nat.le_of_ble_eq_true rfl)) d_Ke_label_15 ⟨Nat.le_of_ble_eq_true rfl, Nat.le_of_ble_eq_true rfl⟩) X9 hD hS rfl (fun H locs hP hD hS => ?_)
  refine lv_if_eq (tgt := 34) hx hb d_Ke_label_18 (by decide) (fun c9 => ?_) (fun c9 => ?_)
  · replace h := zo_t c9 h
    refine lv_iconst (v := 0) hx hb d_Ke_label_34 (by decide) ?_
    cases h
  replace h := zo_f c9 h
  refine lv_iload_n hx hb d_Ke_label_21 rfl (lv_at hl 3 rfl) ?_
  refine lv_iconst (v := 0) hx hb d_Ke_label_22 (by decide) ?_
  refine lv_iconst (v := 4) hx hb d_Ke_label_23 (by decide) ?_
  obtain ⟨v3, e9, h⟩ := zo_b h
  refine ka_i (va_runS (As := [.int x3, .int 0, .int 4]) (rest := []) S9 (c_Ke_isBetween l hl9 D A (GW A σ r) _ x3 0 4 _ e9) (cwS 3 hts (tg_S wl_Ke_40 ws_Ke_isBetween wi_Ke wo_Ke_isBetween) rfl rfl rfl wq_Ke_isBetween ⟨Nat.le_of_ble_eq_true rfl, Nat.le_of_ble_eq_true rfl⟩) (ka_preS X9 hP hD hS) rfl rfl hl.1 rfl (lv_room (Nat.le_of_ble_eq_true rfl)) d_Ke_label_24 ⟨Nat.le_of_ble_eq_true rfl, Nat.le_of_ble_eq_true rfl⟩) X9 hD hS rfl (fun H locs hP hD hS => ?_)
  refine lv_if_eq (tgt := 34) hx hb d_Ke_label_27 (by decide) (fun c9 => ?_) (fun c9 => ?_)
  · replace h := zo_t c9 h
    refine lv_iconst (v := 0) hx hb d_Ke_label_34 (by decide) ?_
    cases h
  replace h := zo_f c9 h
  refine lv_iconst (v := 1) hx hb d_Ke_label_30 (by decide) ?_
  refine lv_goto (tgt := 35) hx hb d_Ke_label_31 (by decide) ?_
  refine ka_v (va_runS (As := [.int 1]) (rest := []) S9 (c_Ke_needNumber_ok l hl9 D A (GW A σ r) _ 1 (by decide)) (cwS 1 hts (tg_S wl_Ke_44 ws_Ke_needNumber wi_Ke wo_Ke_needNumber) rfl rfl rfl wq_Ke_needNumber ⟨Nat.le_of_ble_eq_true rfl, Nat.le_of_ble_eq_true rfl⟩) (ka_preS X9 hP hD hS) rfl rfl hl.1 rfl (lv_room (Nat.le_of_ble_eq_true rfl)) d_Ke_label_35 ⟨Nat.le_of_ble_eq_true rfl, Nat.le_of_ble_eq_true rfl⟩) X9 hD hS rfl (fun H locs hP hD hS => ?_)
  refine lv_aload_n hx hb d_Ke_label_38 rfl (lv_at hl 0 rfl) ?_
  refine va_get (D := D) (ci := 4) (v := .ref (A 2)) (C := R_Ke) (T := T_Ke) (N := 5) hx hb hts wu_Ke hown hK hP 0 rfl rfl 2 (by decide) (hts _ wf_Ke_23) (fun _ h9 => h9) rfl d_Ke_label_39 ?_
  refine lv_iload_n hx hb d_Ke_label_42 rfl (lv_at hl 1 rfl) ?_
  refine lv_iload_n hx hb d_Ke_label_43 rfl (lv_at hl 2 rfl) ?_
  refine lv_iload_n hx hb d_Ke_label_44 rfl (lv_at hl 3 rfl) ?_
  obtain ⟨v4, e9, h⟩ := zo_b h
  refine ka_i (va_runV (As := [.int x1, .int x2, .int x3]) (rest := []) S9 (c_Lb_changed l hl9 D A r _ σ x1 x2 x3 _ e9) (cwV 3 hts (tg_V wl_Ke_48 wm_Lb_changed we_Lb_changed wi_Lb wo_Lb_changed) rfl rfl rfl wq_Lb_changed ⟨Nat.le_of_ble_eq_true rfl, Nat.le_of_ble_eq_true rfl⟩) (ka_preV X9 hP hD hS 2 rfl rfl) rfl rfl hl.1 rfl (lv_room (Nat.le_of_ble_eq_true rfl)) d_Ke_label_45 ⟨Nat.le_of_ble_eq_true rfl, Nat.le_of_ble_eq_true rfl⟩) X9 hD hS rfl (fun H locs hP hD hS => ?_)
  refine lv_istore (lv' := [(4, .int v4), (0, .ref (A 0)), (1, .int x1), (2, .int x2), (3, .int x3)]) hx hb d_Ke_label_48 hl (by decide) rfl (fun ls hl => ?_)
  refine lv_aload_n hx hb d_Ke_label_50 rfl (lv_at hl 1 rfl) ?_
  refine va_get (D := D) (ci := 4) (v := .ref (A 2)) (C := R_Ke) (T := T_Ke) (N := 5) hx hb hts wu_Ke hown hK hP 0 rfl rfl 2 (by decide) (hts _ wf_Ke_23) (fun _ h9 => h9) rfl d_Ke_label_51 ?_
  refine lv_iload hx hb d_Ke_label_54 (lv_at hl 0 rfl) ?_
  obtain ⟨v5, e9, h⟩ := zo_b h
  refine ka_i (va_runV (As := [.int v4]) (rest := []) S9 (c_Lb_missing l hl9 D A r _ σ v4 _ e9) (cwV 1 hts (tg_V wl_Ke_52 wm_Lb_missing we_Lb_missing wi_Lb wo_Lb_missing) rfl rfl rfl wq_Lb_missing ⟨Nat.le_of_ble_eq_true rfl, Nat.le_of_ble_eq_true rfl⟩) (ka_preV X9 hP hD hS 2 rfl rfl) rfl rfl hl.1 rfl (lv_room (Nat.le_of_ble_eq_true rfl)) d_Ke_label_56 ⟨Nat.le_of_ble_eq_true rfl, Nat.le_of_ble_eq_true rfl⟩) X9 hD hS rfl (fun H locs hP hD hS => ?_)
  refine lv_aload_n hx hb d_Ke_label_59 rfl (lv_at hl 1 rfl) ?_
  refine va_get (D := D) (ci := 4) (v := .ref (A 2)) (C := R_Ke) (T := T_Ke) (N := 5) hx hb hts wu_Ke hown hK hP 0 rfl rfl 2 (by decide) (hts _ wf_Ke_23) (fun _ h9 => h9) rfl d_Ke_label_60 ?_
  obtain ⟨v6, e9, h⟩ := zo_b h
  refine ka_i (va_runV (As := []) (rest := [.int v5]) S9 (c_Lb_free l hl9 D A r _ σ _ e9) (cwV 0 hts (tg_V wl_Ke_56 wm_Lb_free we_Lb_free wi_Lb wo_Lb_free) rfl rfl rfl wq_Lb_free ⟨Nat.le_of_ble_eq_true rfl, Nat.le_of_ble_eq_true rfl⟩) (ka_preV X9 hP hD hS 2 rfl rfl) rfl rfl hl.1 rfl (lv_room (Nat.le_of_ble_eq_true rfl)) d_Ke_label_63 ⟨Nat.le_of_ble_eq_true rfl, Nat.le_of_ble_eq_true rfl⟩) X9 hD hS rfl (fun H locs hP hD hS => ?_)
  refine lv_icmp_gt (tgt := 73) hx hb d_Ke_label_66 (by decide) (fun c9 => ?_) (fun c9 => ?_)
  · replace h := zo_t c9 h
    refine lv_iconst (v := 0) hx hb d_Ke_label_73 (by decide) ?_
    cases h
  replace h := zo_f c9 h
  refine lv_iconst (v := 1) hx hb d_Ke_label_69 (by decide) ?_
  refine lv_goto (tgt := 74) hx hb d_Ke_label_70 (by decide) ?_
  refine ka_v (va_runS (As := [.int 1]) (rest := []) S9 (c_Ke_needRoom_ok l hl9 D A (GW A σ r) _ 1 (by decide)) (cwS 1 hts (tg_S wl_Ke_60 ws_Ke_needRoom wi_Ke wo_Ke_needRoom) rfl rfl rfl wq_Ke_needRoom ⟨Nat.le_of_ble_eq_true rfl, Nat.le_of_ble_eq_true rfl⟩) (ka_preS X9 hP hD hS) rfl rfl hl.1 rfl (lv_room (Nat.le_of_ble_eq_true rfl)) d_Ke_label_74 ⟨Nat.le_of_ble_eq_true rfl, Nat.le_of_ble_eq_true rfl⟩) X9 hD hS rfl (fun H locs hP hD hS => ?_)
  refine lv_aload_n hx hb d_Ke_label_77 rfl (lv_at hl 1 rfl) ?_
  refine va_get (D := D) (ci := 4) (v := .ref (A 2)) (C := R_Ke) (T := T_Ke) (N := 5) hx hb hts wu_Ke hown hK hP 0 rfl rfl 2 (by decide) (hts _ wf_Ke_23) (fun _ h9 => h9) rfl d_Ke_label_78 ?_
  refine lv_iload hx hb d_Ke_label_81 (lv_at hl 0 rfl) ?_
  obtain ⟨v7, e9, h⟩ := zo_b h
  refine ka_i (va_runV (As := [.int v4]) (rest := []) S9 (c_Lb_numberOf l hl9 D A r _ σ v4 _ e9) (cwV 1 hts (tg_V wl_Ke_63 wm_Lb_numberOf we_Lb_numberOf wi_Lb wo_Lb_numberOf) rfl rfl rfl wq_Lb_numberOf ⟨Nat.le_of_ble_eq_true rfl, Nat.le_of_ble_eq_true rfl⟩) (ka_preV X9 hP hD hS 2 rfl rfl) rfl rfl hl.1 rfl (lv_room (Nat.le_of_ble_eq_true rfl)) d_Ke_label_83 ⟨Nat.le_of_ble_eq_true rfl, Nat.le_of_ble_eq_true rfl⟩) X9 hD hS rfl (fun H locs hP hD hS => ?_)
  cases h
  exact W.iret hx hb hr (fun t ht hW => ⟨⟨_, (), rfl, rfl, ka_at ht hP⟩, hS.F ht⟩) hS.2.2 d_Ke_label_86 hlk
set_option maxRecDepth 100000 in
set_option maxHeartbeats 4000000 in
theorem c_Ke_label_err (l : Launch) (hl9 : l.stackTraces = false) (D : va_G) (A : Nat → Nat) (r : va_W) (sz : Nat) (σ : KS) (x1 x2 x3 : Int32) (k9 : Nat) (z : KS) (h : f_Ke_label σ x1 x2 x3 = some (.error k9, z)) : vx_Met l y_Ke_label (Cond.code y_Ke_label b_Ke_label 5 (some .int) :: T0) ({ frames := 7, cells := 1, slots := 6, locals := 101 } : Room) (va_Pc [.ref (A 0), .int x1, .int x2, .int x3] (ka_Wd D A (GW A σ r) sz)) ka_No (ka_Xe D k9 (GW A z r) (va_A (GW A σ r) sz)) 1 6 (va_A (GW A σ r) sz) := by
  unfold f_Ke_label at h
  refine ka_ofX (own := R_Ke) (fun A9 => ka_Xe D k9 (GW A z r) A9) (by decide) rfl (Nat.le_of_ble_eq_true rfl) ?_
  intro p e s m below meth c A9 ls S9 hr hlk hex X9 hP hD hl
  obtain ⟨hx, hb, hml, hown, hts⟩ := id S9
  have hK := X9.2.1
  have hS : va_S A9 s.heap s.heap [] := va_S.rf
  replace hl : lv_has ls 5 [(0, .ref (A 0)), (1, .int x1), (2, .int x2), (3, .int x3)] := hl
  refine lv_aload_n hx hb d_Ke_label_0 rfl (lv_at hl 0 rfl) ?_
  refine va_get (D := D) (ci := 4) (v := .ref (A 2)) (C := R_Ke) (T := T_Ke) (N := 5) hx hb hts wu_Ke hown hK hP 0 rfl rfl 2 (by decide) (hts _ wf_Ke_23) (fun _ h9 => h9) rfl d_Ke_label_1 ?_
  refine lv_iload_n hx hb d_Ke_label_4 rfl (lv_at hl 1 rfl) ?_
  obtain ⟨v1, e9, h⟩ := zo_b h
  refine ka_i (va_runV (As := [.int x1]) (rest := []) S9 (c_Lb_has l hl9 D A r _ σ x1 _ e9) (cwV 1 hts (tg_V wl_Ke_34 wm_Lb_has we_Lb_has wi_Lb wo_Lb_has) rfl rfl rfl wq_Lb_has ⟨Nat.le_of_ble_eq_true rfl, Nat.le_of_ble_eq_true rfl⟩) (ka_preV X9 hP hD hS 2 rfl rfl) rfl rfl hl.1 rfl (lv_room (Nat.le_of_ble_eq_true rfl)) d_Ke_label_5 ⟨Nat.le_of_ble_eq_true rfl, Nat.le_of_ble_eq_true rfl⟩) X9 hD hS rfl (fun H locs hP hD hS => ?_)
  refine lv_if_eq (tgt := 34) hx hb d_Ke_label_8 (by decide) (fun c9 => ?_) (fun c9 => ?_)
  · replace h := zo_t c9 h
    refine lv_iconst (v := 0) hx hb d_Ke_label_34 (by decide) ?_
    cases h
    exact ka_err (vx_runS (As := [.int 0]) (rest := []) S9 (c_Ke_needNumber_err l hl9 D A (GW A σ r) _ 0 rfl) (cwS 1 hts (tg_S wl_Ke_44 ws_Ke_needNumber wi_Ke wo_Ke_needNumber) rfl rfl rfl wq_Ke_needNumber ⟨Nat.le_of_ble_eq_true rfl, Nat.le_of_ble_eq_true rfl⟩) (ka_preS X9 hP hD hS) rfl rfl hl.1 rfl (lv_room (Nat.le_of_ble_eq_true rfl)) d_Ke_label_35 ⟨Nat.le_of_ble_eq_true rfl, Nat.le_of_ble_eq_true rfl⟩) hlk hex X9 hD hS (Nat.le_of_ble_eq_true rfl) (Nat.le_of_ble_eq_true rfl)
  replace h := zo_f c9 h
  refine lv_iload_n hx hb d_Ke_label_11 rfl (lv_at hl 2 rfl) ?_
  refine lv_iconst (v := 0) hx hb d_Ke_label_12 (by decide) ?_
  refine lv_bipush (v := 7) hx hb d_Ke_label_13 (by decide) ?_
  obtain ⟨v2, e9, h⟩ := zo_b h
  refine ka_i (va_runS (As := [.int x2, .int 0, .int 7]) (rest := []) S9 (c_Ke_isBetween l hl9 D A (GW A σ r) _ x2 0 7 _ e9) (cwS 3 hts (tg_S wl_Ke_40 ws_Ke_isBetween wi_Ke wo_Ke_isBetween) rfl rfl rfl wq_Ke_isBetween ⟨Nat.le_of_ble_eq_true rfl, Nat.le_of_ble_eq_true rfl⟩) (ka_preS X9 hP hD hS) rfl rfl hl.1 rfl (lv_room (Nat.le_of_ble_eq_true rfl)) d_Ke_label_15 ⟨Nat.le_of_ble_eq_true rfl, Nat.le_of_ble_eq_true rfl⟩) X9 hD hS rfl (fun H locs hP hD hS => ?_)
  refine lv_if_eq (tgt := 34) hx hb d_Ke_label_18 (by decide) (fun c9 => ?_) (fun c9 => ?_)
  · replace h := zo_t c9 h
    refine lv_iconst (v := 0) hx hb d_Ke_label_34 (by decide) ?_
    cases h
    exact ka_err (vx_runS (As := [.int 0]) (rest := []) S9 (c_Ke_needNumber_err l hl9 D A (GW A σ r) _ 0 rfl) (cwS 1 hts (tg_S wl_Ke_44 ws_Ke_needNumber wi_Ke wo_Ke_needNumber) rfl rfl rfl wq_Ke_needNumber ⟨Nat.le_of_ble_eq_true rfl, Nat.le_of_ble_eq_true rfl⟩) (ka_preS X9 hP hD hS) rfl rfl hl.1 rfl (lv_room (Nat.le_of_ble_eq_true rfl)) d_Ke_label_35 ⟨Nat.le_of_ble_eq_true rfl, Nat.le_of_ble_eq_true rfl⟩) hlk hex X9 hD hS (Nat.le_of_ble_eq_true rfl) (Nat.le_of_ble_eq_true rfl)
  replace h := zo_f c9 h
  refine lv_iload_n hx hb d_Ke_label_21 rfl (lv_at hl 3 rfl) ?_
  refine lv_iconst (v := 0) hx hb d_Ke_label_22 (by decide) ?_
  refine lv_iconst (v := 4) hx hb d_Ke_label_23 (by decide) ?_
  obtain ⟨v3, e9, h⟩ := zo_b h
  refine ka_i (va_runS (As := [.int x3, .int 0, .int 4]) (rest := []) S9 (c_Ke_isBetween l hl9 D A (GW A σ r) _ x3 0 4 _ e9) (cwS 3 hts (tg_S wl_Ke_40 ws_Ke_isBetween wi_Ke wo_Ke_isBetween) rfl rfl rfl wq_Ke_isBetween ⟨Nat.le_of_ble_eq_true rfl, Nat.le_of_ble_eq_true rfl⟩) (ka_preS X9 hP hD hS) rfl rfl hl.1 rfl (lv_room (Nat.le_of_ble_eq_true rfl)) d_Ke_label_24 ⟨Nat.le_of_ble_eq_true rfl, Nat.le_of_ble_eq_true rfl⟩) X9 hD hS rfl (fun H locs hP hD hS => ?_)
  refine lv_if_eq (tgt := 34) hx hb d_Ke_label_27 (by decide) (fun c9 => ?_) (fun c9 => ?_)
  · replace h := zo_t c9 h
    refine lv_iconst (v := 0) hx hb d_Ke_label_34 (by decide) ?_
    cases h
    exact ka_err (vx_runS (As := [.int 0]) (rest := []) S9 (c_Ke_needNumber_err l hl9 D A (GW A σ r) _ 0 rfl) (cwS 1 hts (tg_S wl_Ke_44 ws_Ke_needNumber wi_Ke wo_Ke_needNumber) rfl rfl rfl wq_Ke_needNumber ⟨Nat.le_of_ble_eq_true rfl, Nat.le_of_ble_eq_true rfl⟩) (ka_preS X9 hP hD hS) rfl rfl hl.1 rfl (lv_room (Nat.le_of_ble_eq_true rfl)) d_Ke_label_35 ⟨Nat.le_of_ble_eq_true rfl, Nat.le_of_ble_eq_true rfl⟩) hlk hex X9 hD hS (Nat.le_of_ble_eq_true rfl) (Nat.le_of_ble_eq_true rfl)
  replace h := zo_f c9 h
  refine lv_iconst (v := 1) hx hb d_Ke_label_30 (by decide) ?_
  refine lv_goto (tgt := 35) hx hb d_Ke_label_31 (by decide) ?_
  refine ka_v (va_runS (As := [.int 1]) (rest := []) S9 (c_Ke_needNumber_ok l hl9 D A (GW A σ r) _ 1 (by decide)) (cwS 1 hts (tg_S wl_Ke_44 ws_Ke_needNumber wi_Ke wo_Ke_needNumber) rfl rfl rfl wq_Ke_needNumber ⟨Nat.le_of_ble_eq_true rfl, Nat.le_of_ble_eq_true rfl⟩) (ka_preS X9 hP hD hS) rfl rfl hl.1 rfl (lv_room (Nat.le_of_ble_eq_true rfl)) d_Ke_label_35 ⟨Nat.le_of_ble_eq_true rfl, Nat.le_of_ble_eq_true rfl⟩) X9 hD hS rfl (fun H locs hP hD hS => ?_)
  refine lv_aload_n hx hb d_Ke_label_38 rfl (lv_at hl 0 rfl) ?_
  refine va_get (D := D) (ci := 4) (v := .ref (A 2)) (C := R_Ke) (T := T_Ke) (N := 5) hx hb hts wu_Ke hown hK hP 0 rfl rfl 2 (by decide) (hts _ wf_Ke_23) (fun _ h9 => h9) rfl d_Ke_label_39 ?_
  refine lv_iload_n hx hb d_Ke_label_42 rfl (lv_at hl 1 rfl) ?_
  refine lv_iload_n hx hb d_Ke_label_43 rfl (lv_at hl 2 rfl) ?_
  refine lv_iload_n hx hb d_Ke_label_44 rfl (lv_at hl 3 rfl) ?_
  obtain ⟨v4, e9, h⟩ := zo_b h
  refine ka_i (va_runV (As := [.int x1, .int x2, .int x3]) (rest := []) S9 (c_Lb_changed l hl9 D A r _ σ x1 x2 x3 _ e9) (cwV 3 hts (tg_V wl_Ke_48 wm_Lb_changed we_Lb_changed wi_Lb wo_Lb_changed) rfl rfl rfl wq_Lb_changed ⟨Nat.le_of_ble_eq_true rfl, Nat.le_of_ble_eq_true rfl⟩) (ka_preV X9 hP hD hS 2 rfl rfl) rfl rfl hl.1 rfl (lv_room (Nat.le_of_ble_eq_true rfl)) d_Ke_label_45 ⟨Nat.le_of_ble_eq_true rfl, Nat.le_of_ble_eq_true rfl⟩) X9 hD hS rfl (fun H locs hP hD hS => ?_)
  refine lv_istore (lv' := [(4, .int v4), (0, .ref (A 0)), (1, .int x1), (2, .int x2), (3, .int x3)]) hx hb d_Ke_label_48 hl (by decide) rfl (fun ls hl => ?_)
  refine lv_aload_n hx hb d_Ke_label_50 rfl (lv_at hl 1 rfl) ?_
  refine va_get (D := D) (ci := 4) (v := .ref (A 2)) (C := R_Ke) (T := T_Ke) (N := 5) hx hb hts wu_Ke hown hK hP 0 rfl rfl 2 (by decide) (hts _ wf_Ke_23) (fun _ h9 => h9) rfl d_Ke_label_51 ?_
  refine lv_iload hx hb d_Ke_label_54 (lv_at hl 0 rfl) ?_
  obtain ⟨v5, e9, h⟩ := zo_b h
  refine ka_i (va_runV (As := [.int v4]) (rest := []) S9 (c_Lb_missing l hl9 D A r _ σ v4 _ e9) (cwV 1 hts (tg_V wl_Ke_52 wm_Lb_missing we_Lb_missing wi_Lb wo_Lb_missing) rfl rfl rfl wq_Lb_missing ⟨Nat.le_of_ble_eq_true rfl, Nat.le_of_ble_eq_true rfl⟩) (ka_preV X9 hP hD hS 2 rfl rfl) rfl rfl hl.1 rfl (lv_room (Nat.le_of_ble_eq_true rfl)) d_Ke_label_56 ⟨Nat.le_of_ble_eq_true rfl, Nat.le_of_ble_eq_true rfl⟩) X9 hD hS rfl (fun H locs hP hD hS => ?_)
  refine lv_aload_n hx hb d_Ke_label_59 rfl (lv_at hl 1 rfl) ?_
  refine va_get (D := D) (ci := 4) (v := .ref (A 2)) (C := R_Ke) (T := T_Ke) (N := 5) hx hb hts wu_Ke hown hK hP 0 rfl rfl 2 (by decide) (hts _ wf_Ke_23) (fun _ h9 => h9) rfl d_Ke_label_60 ?_
  obtain ⟨v6, e9, h⟩ := zo_b h
  refine ka_i (va_runV (As := []) (rest := [.int v5]) S9 (c_Lb_free l hl9 D A r _ σ _ e9) (cwV 0 hts (tg_V wl_Ke_56 wm_Lb_free we_Lb_free wi_Lb wo_Lb_free) rfl rfl rfl wq_Lb_free ⟨Nat.le_of_ble_eq_true rfl, Nat.le_of_ble_eq_true rfl⟩) (ka_preV X9 hP hD hS 2 rfl rfl) rfl rfl hl.1 rfl (lv_room (Nat.le_of_ble_eq_true rfl)) d_Ke_label_63 ⟨Nat.le_of_ble_eq_true rfl, Nat.le_of_ble_eq_true rfl⟩) X9 hD hS rfl (fun H locs hP hD hS => ?_)
  refine lv_icmp_gt (tgt := 73) hx hb d_Ke_label_66 (by decide) (fun c9 => ?_) (fun c9 => ?_)
  · replace h := zo_t c9 h
    refine lv_iconst (v := 0) hx hb d_Ke_label_73 (by decide) ?_
    cases h
    exact ka_err (vx_runS (As := [.int 0]) (rest := []) S9 (c_Ke_needRoom_err l hl9 D A (GW A σ r) _ 0 rfl) (cwS 1 hts (tg_S wl_Ke_60 ws_Ke_needRoom wi_Ke wo_Ke_needRoom) rfl rfl rfl wq_Ke_needRoom ⟨Nat.le_of_ble_eq_true rfl, Nat.le_of_ble_eq_true rfl⟩) (ka_preS X9 hP hD hS) rfl rfl hl.1 rfl (lv_room (Nat.le_of_ble_eq_true rfl)) d_Ke_label_74 ⟨Nat.le_of_ble_eq_true rfl, Nat.le_of_ble_eq_true rfl⟩) hlk hex X9 hD hS (Nat.le_of_ble_eq_true rfl) (Nat.le_of_ble_eq_true rfl)
  replace h := zo_f c9 h
  refine lv_iconst (v := 1) hx hb d_Ke_label_69 (by decide) ?_
  refine lv_goto (tgt := 74) hx hb d_Ke_label_70 (by decide) ?_
  refine ka_v (va_runS (As := [.int 1]) (rest := []) S9 (c_Ke_needRoom_ok l hl9 D A (GW A σ r) _ 1 (by decide)) (cwS 1 hts (tg_S wl_Ke_60 ws_Ke_needRoom wi_Ke wo_Ke_needRoom) rfl rfl rfl wq_Ke_needRoom ⟨Nat.le_of_ble_eq_true rfl, Nat.le_of_ble_eq_true rfl⟩) (ka_preS X9 hP hD hS) rfl rfl hl.1 rfl (lv_room (Nat.le_of_ble_eq_true rfl)) d_Ke_label_74 ⟨Nat.le_of_ble_eq_true rfl, Nat.le_of_ble_eq_true rfl⟩) X9 hD hS rfl (fun H locs hP hD hS => ?_)
  refine lv_aload_n hx hb d_Ke_label_77 rfl (lv_at hl 1 rfl) ?_
  refine va_get (D := D) (ci := 4) (v := .ref (A 2)) (C := R_Ke) (T := T_Ke) (N := 5) hx hb hts wu_Ke hown hK hP 0 rfl rfl 2 (by decide) (hts _ wf_Ke_23) (fun _ h9 => h9) rfl d_Ke_label_78 ?_
  refine lv_iload hx hb d_Ke_label_81 (lv_at hl 0 rfl) ?_
  obtain ⟨v7, e9, h⟩ := zo_b h
  refine ka_i (va_runV (As := [.int v4]) (rest := []) S9 (c_Lb_numberOf l hl9 D A r _ σ v4 _ e9) (cwV 1 hts (tg_V wl_Ke_63 wm_Lb_numberOf we_Lb_numberOf wi_Lb wo_Lb_numberOf) rfl rfl rfl wq_Lb_numberOf ⟨Nat.le_of_ble_eq_true rfl, Nat.le_of_ble_eq_true rfl⟩) (ka_preV X9 hP hD hS 2 rfl rfl) rfl rfl hl.1 rfl (lv_room (Nat.le_of_ble_eq_true rfl)) d_Ke_label_83 ⟨Nat.le_of_ble_eq_true rfl, Nat.le_of_ble_eq_true rfl⟩) X9 hD hS rfl (fun H locs hP hD hS => ?_)
  cases h
