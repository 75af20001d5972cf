set_option maxRecDepth 100000 in
set_option maxHeartbeats 4000000 in
theorem c_Ke_needNumber_ok (l : Launch) (hl9 : l.stackTraces = false) (D : va_G) (A : Nat → Nat) (w : va_W) (sz : Nat) (x0 : Int32) (h : ¬ x0 = 0) : Met l y_Ke_needNumber (Cond.code y_Ke_needNumber b_Ke_needNumber 1 none :: T0) ({ frames := 0, cells := 0, slots := 0, locals := 0 } : Room) (va_Pc [.int x0] (ka_Wd D A (w) sz)) (ka_Rv D (w) (va_A (w) sz)) 0 0 (va_A (w) sz) := by
  refine ka_of (own := R_Ke) (fun A9 => ka_Rv D (w) A9) (by decide) rfl (Nat.le_of_ble_eq_true rfl) ?_
  intro p e s m below meth c A9 ls S9 hr hlk hex X9 hP hD hl
  obtain ⟨hx, hb, hml, hown, hts⟩ := id S9
  have hK := X9.2.1
  have hS : va_S A9 s.heap s.heap [] := va_S.rf
  replace hl : lv_has ls 1 [(0, .int x0)] := hl
  refine lv_iload_n hx hb d_Ke_needNumber_0 rfl (lv_at hl 0 rfl) ?_
  refine lv_if_ne (tgt := 12) hx hb d_Ke_needNumber_1 (by decide) (fun c9 => ?_) (fun c9 => ?_)
  · exact W.vret hx hb hr (fun t ht hW => ⟨⟨(), rfl, trivial, ka_at ht hP⟩, hS.F ht⟩) hS.2.2 d_Ke_needNumber_12 hlk
  exact absurd c9 h
set_option maxRecDepth 100000 in
set_option maxHeartbeats 4000000 in
theorem c_Ke_needNumber_err (l : Launch) (hl9 : l.stackTraces = false) (D : va_G) (A : Nat → Nat) (w : va_W) (sz : Nat) (x0 : Int32) (h : x0 = 0) : vx_Met l y_Ke_needNumber (Cond.code y_Ke_needNumber b_Ke_needNumber 1 none :: T0) ({ frames := 6, cells := 1, slots := 6, locals := 81 } : Room) (va_Pc [.int x0] (ka_Wd D A (w) sz)) ka_No (ka_Xe D 1 (w) (va_A (w) sz)) 1 6 (va_A (w) sz) := by
  refine ka_ofX (own := R_Ke) (fun A9 => ka_Xe D 1 (w) A9) (by decide) rfl (Nat.le_of_ble_eq_true rfl) ?_
  intro p e s m below meth c A9 ls S9 hr hlk hex X9 hP hD hl
  obtain ⟨hx, hb, hml, hown, hts⟩ := id S9
  have hK := X9.2.1
  have hS : va_S A9 s.heap s.heap [] := va_S.rf
  replace hl : lv_has ls 1 [(0, .int x0)] := hl
  refine lv_iload_n hx hb d_Ke_needNumber_0 rfl (lv_at hl 0 rfl) ?_
  refine lv_if_ne (tgt := 12) hx hb d_Ke_needNumber_1 (by decide) (fun c9 => ?_) (fun c9 => ?_)
  · exact absurd h c9
  exact vx_throw0 hx hb hl9 (own := R_Ke) (cls := "java/lang/IllegalArgumentException") (names := ["java/lang/RuntimeException", "java/lang/Exception"]) (ik := 268) (ic := 270) hown (by decide) (by decide) (hts _ wc_Ke_268) (hts _ wi_IllegalArgumentException) (ka_hat_IllegalArgumentException hts X9.2.2.2.2) ka_hg_IllegalArgumentException X9.2.2.1 X9.2.2.2.1 hS (hml ▸ hl.1) d_Ke_needNumber_4 d_Ke_needNumber_7 d_Ke_needNumber_8 d_Ke_needNumber_11 (fun x hx9 => (hex x hx9).elim) (Nat.le_of_ble_eq_true rfl) (Nat.le_of_ble_eq_true rfl) (Nat.le_of_ble_eq_true rfl) (Nat.le_of_ble_eq_true rfl) hlk (fun t ha hz hk => ⟨(), trivial, ⟨rfl, hP.kept (fun k q hq => hk q.1 (hP k q hq).lt)⟩, hz, fun q h1 _ => hk q h1⟩) (fun z hz => by cases hz) (Nat.le_of_ble_eq_true rfl) (Nat.le_of_ble_eq_true rfl)
def f_Ke_isBetween (x0 x1 x2 : Int32) : Option (Int32) := if x0 < x1 then (some 0) else (if x2 < x0 then (some 0) else (some 1))
set_option maxRecDepth 100000 in
set_option maxHeartbeats 4000000 in
theorem c_Ke_isBetween (l : Launch) (hl9 : l.stackTraces = false) (D : va_G) (A : Nat → Nat) (w : va_W) (sz : Nat) (x0 x1 x2 : Int32) (z : Int32) (h : f_Ke_isBetween x0 x1 x2 = some z) : Met l y_Ke_isBetween (Cond.code y_Ke_isBetween b_Ke_isBetween 3 (some .boolean) :: T0) ({ frames := 0, cells := 0, slots := 0, locals := 0 } : Room) (va_Pc [.int x0, .int x1, .int x2] (ka_Wd D A (w) sz)) (ka_Ri D z (w) (va_A (w) sz)) 0 0 (va_A (w) sz) := by
  unfold f_Ke_isBetween at h
  refine ka_of (own := R_Ke) (fun A9 => ka_Ri D z (w) A9) (by decide) rfl (Nat.le_of_ble_eq_true rfl) ?_
  intro p e s m below meth c A9 ls S9 hr hlk hex X9 hP hD hl
  obtain ⟨hx, hb, hml, hown, hts⟩ := id S9
  have hK := X9.2.1
  have hS : va_S A9 s.heap s.heap [] := va_S.rf
  replace hl : lv_has ls 3 [(0, .int x0), (1, .int x1), (2, .int x2)] := hl
  refine lv_iload_n hx hb d_Ke_isBetween_0 rfl (lv_at hl 0 rfl) ?_
  refine lv_iload_n hx hb d_Ke_isBetween_1 rfl (lv_at hl 1 rfl) ?_
  refine lv_icmp_lt (tgt := 14) hx hb d_Ke_isBetween_2 (by decide) (fun c1 => ?_) (fun c1 => ?_)
  · replace h := zo_t c1 h
    refine lv_iconst (v := 0) hx hb d_Ke_isBetween_14 (by decide) ?_
    cases h
    exact W.zret hx hb hr (by decide) (fun t ht hW => ⟨⟨_, (), rfl, rfl, ka_at ht hP⟩, hS.F ht⟩) hS.2.2 d_Ke_isBetween_15 hlk
  replace h := zo_f c1 h
  refine lv_iload_n hx hb d_Ke_isBetween_5 rfl (lv_at hl 0 rfl) ?_
  refine lv_iload_n hx hb d_Ke_isBetween_6 rfl (lv_at hl 2 rfl) ?_
  refine lv_icmp_gt (tgt := 14) hx hb d_Ke_isBetween_7 (by decide) (fun c2 => ?_) (fun c2 => ?_)
  · replace h := zo_t c2 h
    refine lv_iconst (v := 0) hx hb d_Ke_isBetween_14 (by decide) ?_
    cases h
    exact W.zret hx hb hr (by decide) (fun t ht hW => ⟨⟨_, (), rfl, rfl, ka_at ht hP⟩, hS.F ht⟩) hS.2.2 d_Ke_isBetween_15 hlk
  replace h := zo_f c2 h
  refine lv_iconst (v := 1) hx hb d_Ke_isBetween_10 (by decide) ?_
  refine lv_goto (tgt := 15) hx hb d_Ke_isBetween_11 (by decide) ?_
  cases h
  exact W.zret hx hb hr (by decide) (fun t ht hW => ⟨⟨_, (), rfl, rfl, ka_at ht hP⟩, hS.F ht⟩) hS.2.2 d_Ke_isBetween_15 hlk
set_option maxRecDepth 100000 in
set_option maxHeartbeats 4000000 in
theorem c_Ke_needRoom_ok (l : Launch) (hl9 : l.stackTraces = false) (D : va_G) (A : Nat → Nat) (w : va_W) (sz : Nat) (x0 : Int32) (h : ¬ x0 = 0) : Met l y_Ke_needRoom (Cond.code y_Ke_needRoom b_Ke_needRoom 1 none :: T0) ({ frames := 0, cells := 0, slots := 0, locals := 0 } : Room) (va_Pc [.int x0] (ka_Wd D A (w) sz)) (ka_Rv D (w) (va_A (w) sz)) 0 0 (va_A (w) sz) := by
  refine ka_of (own := R_Ke) (fun A9 => ka_Rv D (w) A9) (by decide) rfl (Nat.le_of_ble_eq_true rfl) ?_
  intro p e s m below meth c A9 ls S9 hr hlk hex X9 hP hD hl
  obtain ⟨hx, hb, hml, hown, hts⟩ := id S9
  have hK := X9.2.1
  have hS : va_S A9 s.heap s.heap [] := va_S.rf
  replace hl : lv_has ls 1 [(0, .int x0)] := hl
  refine lv_iload_n hx hb d_Ke_needRoom_0 rfl (lv_at hl 0 rfl) ?_
  refine lv_if_ne (tgt := 12) hx hb d_Ke_needRoom_1 (by decide) (fun c9 => ?_) (fun c9 => ?_)
  · exact W.vret hx hb hr (fun t ht hW => ⟨⟨(), rfl, trivial, ka_at ht hP⟩, hS.F ht⟩) hS.2.2 d_Ke_needRoom_12 hlk
  exact absurd c9 h
set_option maxRecDepth 100000 in
set_option maxHeartbeats 4000000 in
theorem c_Ke_needRoom_err (l : Launch) (hl9 : l.stackTraces = false) (D : va_G) (A : Nat → Nat) (w : va_W) (sz : Nat) (x0 : Int32) (h : x0 = 0) : vx_Met l y_Ke_needRoom (Cond.code y_Ke_needRoom b_Ke_needRoom 1 none :: T0) ({ frames := 6, cells := 1, slots := 6, locals := 81 } : Room) (va_Pc [.int x0] (ka_Wd D A (w) sz)) ka_No (ka_Xe D 4 (w) (va_A (w) sz)) 1 6 (va_A (w) sz) := by
  refine ka_ofX (own := R_Ke) (fun A9 => ka_Xe D 4 (w) A9) (by decide) rfl (Nat.le_of_ble_eq_true rfl) ?_
  intro p e s m below meth c A9 ls S9 hr hlk hex X9 hP hD hl
  obtain ⟨hx, hb, hml, hown, hts⟩ := id S9
  have hK := X9.2.1
  have hS : va_S A9 s.heap s.heap [] := va_S.rf
  replace hl : lv_has ls 1 [(0, .int x0)] := hl
  refine lv_iload_n hx hb d_Ke_needRoom_0 rfl (lv_at hl 0 rfl) ?_
  refine lv_if_ne (tgt := 12) hx hb d_Ke_needRoom_1 (by decide) (fun c9 => ?_) (fun c9 => ?_)
  · exact absurd h c9
  exact vx_throw0 hx hb hl9 (own := R_Ke) (cls := "java/lang/IllegalStateException") (names := ["java/lang/RuntimeException", "java/lang/Exception"]) (ik := 277) (ic := 279) hown (by decide) (by decide) (hts _ wc_Ke_277) (hts _ wi_IllegalStateException) (ka_hat_IllegalStateException hts X9.2.2.2.2) ka_hg_IllegalStateException X9.2.2.1 X9.2.2.2.1 hS (hml ▸ hl.1) d_Ke_needRoom_4 d_Ke_needRoom_7 d_Ke_needRoom_8 d_Ke_needRoom_11 (fun x hx9 => (hex x hx9).elim) (Nat.le_of_ble_eq_true rfl) (Nat.le_of_ble_eq_true rfl) (Nat.le_of_ble_eq_true rfl) (Nat.le_of_ble_eq_true rfl) hlk (fun t ha hz hk => ⟨(), trivial, ⟨rfl, hP.kept (fun k q hq => hk q.1 (hP k q hq).lt)⟩, hz, fun q h1 _ => hk q h1⟩) (fun z hz => by cases hz) (Nat.le_of_ble_eq_true rfl) (Nat.le_of_ble_eq_true rfl)
def f_Ke_label (σ : KS) (x1 x2 x3 : Int32) : Option (Except Nat Int32 × KS) := (f_Lb_has σ x1).bind fun v1 => if v1 = 0 then (some (.error 1, σ)) else ((f_Ke_isBetween x2 0 7).bind fun v3 => if v3 = 0 then (some (.error 1, σ)) else ((f_Ke_isBetween x3 0 4).bind fun v5 => if v5 = 0 then (some (.error 1, σ)) else ((f_Lb_changed σ x1 x2 x3).bind fun v7 => (f_Lb_missing σ v7).bind fun v8 => (f_Lb_free σ).bind fun v9 => if v9 < v8 then (some (.error 4, σ)) else ((f_Lb_numberOf σ v7).bind fun v11 => some (.ok v11.1, v11.2)))))
set_option maxRecDepth 100000 in
set_option maxHeartbeats 4000000 in
theorem c_Ke_label_ok (l : Launch) (hl9 : l.stackTraces = false) (D : va_G) (A : Nat → Nat) (r : va_W) (sz : Nat) (σ : KS) (x1 x2 x3 : Int32) (z9 : Int32) (z : KS) (h : f_Ke_label σ x1 x2 x3 = some (.ok z9, z)) : Met l y_Ke_label (Cond.code y_Ke_label b_Ke_label 5 (some .int) :: T0) ({ frames := 2, cells := 0, slots := 0, locals := 44 } : Room) (va_Pc [.ref (A 0), .int x1, .int x2, .int x3] (ka_Wd D A (GW A σ r) sz)) (ka_Ri D z9 (GW A z r) (va_A (GW A σ r) sz)) 0 0 (va_A (GW A σ r) sz) := by
  unfold f_Ke_label at h
  refine ka_of (own := R_Ke) (fun A9 => ka_Ri D z9 (GW A z r) A9) (by decide) rfl (Nat.le_of_ble_eq_true rfl) ?_
  intro p e s m below meth c A9 ls S9 hr hlk hex X9 hP hD hl
  obtain ⟨hx, hb, hml, hown, hts⟩ := id S9
  have hK := X9.2.1
  have hS : va_S A9 s.heap s.heap [] := va_S.rf
  replace hl : lv_has ls 5 [(0, .ref (A 0)), (1, .int x1), (2, .int x2), (3, .int x3)] := hl
  refine lv_aload_n hx hb d_Ke_label_0 rfl (lv_at hl 0 rfl) ?_
  refine va_get (D := D) (ci := 4) (v := .ref (A 2)) (C := R_Ke) (T := T_Ke) (N := 5) hx hb hts wu_Ke hown hK hP 0 rfl rfl 2 (by decide) (hts _ wf_Ke_23) (fun _ h9 => h9) rfl d_Ke_label_1 ?_
  refine lv_iload_n hx hb d_Ke_label_4 rfl (lv_at hl 1 rfl) ?_
  obtain ⟨v1, e9, h⟩ := zo_b h
  refine ka_i (va_runV (As := [.int x1]) (rest := []) S9 (c_Lb_has l hl9 D A r _ σ x1 _ e9) (cwV 1 hts (tg_V wl_Ke_34 wm_Lb_has we_Lb_has wi_Lb wo_Lb_has) rfl rfl rfl wq_Lb_has ⟨Nat.le_of_ble_eq_true rfl, Nat.le_of_ble_eq_true rfl⟩) (ka_preV X9 hP hD hS 2 rfl rfl) rfl rfl hl.1 rfl (lv_room (Nat.le_of_ble_eq_true rfl)) d_Ke_label_5 ⟨Nat.le_of_ble_eq_true rfl, Nat.le_of_ble_eq_true rfl⟩) X9 hD hS rfl (fun H locs hP hD hS => ?_)
  refine lv_if_eq (tgt := 34) hx hb d_Ke_label_8 (by decide) (fun c2 => ?_) (fun c2 => ?_)
  · replace h := zo_t c2 h
    refine lv_iconst (v := 0) hx hb d_Ke_label_34 (by decide) ?_
    cases h
  replace h := zo_f c2 h
  refine lv_iload_n hx hb d_Ke_label_11 rfl (lv_at hl 2 rfl) ?_
  refine lv_iconst (v := 0) hx hb d_Ke_label_12 (by decide) ?_
  refine lv_bipush (v := 7) hx hb d_Ke_label_13 (by decide) ?_
  obtain ⟨v3, e9, h⟩ := zo_b h
  refine ka_i (va_runS (As := [.int x2, .int 0, .int 7]) (rest := []) S9 (c_Ke_isBetween l hl9 D A (GW A σ r) _ x2 0 7 _ e9) (cwS 3 hts (tg_S wl_Ke_40 ws_Ke_isBetween wi_Ke wo_Ke_isBetween) rfl rfl rfl wq_Ke_isBetween ⟨Nat.le_of_ble_eq_true rfl, Nat.le_of_ble_eq_true rfl⟩) (ka_preS X9 hP hD hS) rfl rfl hl.1 rfl (lv_room (Nat.le_of_ble_eq_true rfl)) d_Ke_label_15 ⟨Nat.le_of_ble_eq_true rfl, Nat.le_of_ble_eq_true rfl⟩) X9 hD hS rfl (fun H locs hP hD hS => ?_)
  refine lv_if_eq (tgt := 34) hx hb d_Ke_label_18 (by decide) (fun c4 => ?_) (fun c4 => ?_)
  · replace h := zo_t c4 h
    refine lv_iconst (v := 0) hx hb d_Ke_label_34 (by decide) ?_
    cases h
  replace h := zo_f c4 h
  refine lv_iload_n hx hb d_Ke_label_21 rfl (lv_at hl 3 rfl) ?_
  refine lv_iconst (v := 0) hx hb d_Ke_label_22 (by decide) ?_
  refine lv_iconst (v := 4) hx hb d_Ke_label_23 (by decide) ?_
  obtain ⟨v5, e9, h⟩ := zo_b h
  refine ka_i (va_runS (As := [.int x3, .int 0, .int 4]) (rest := []) S9 (c_Ke_isBetween l hl9 D A (GW A σ r) _ x3 0 4 _ e9) (cwS 3 hts (tg_S wl_Ke_40 ws_Ke_isBetween wi_Ke wo_Ke_isBetween) rfl rfl rfl wq_Ke_isBetween ⟨Nat.le_of_ble_eq_true rfl, Nat.le_of_ble_eq_true rfl⟩) (ka_preS X9 hP hD hS) rfl rfl hl.1 rfl (lv_room (Nat.le_of_ble_eq_true rfl)) d_Ke_label_24 ⟨Nat.le_of_ble_eq_true rfl, Nat.le_of_ble_eq_true rfl⟩) X9 hD hS rfl (fun H locs hP hD hS => ?_)
  refine lv_if_eq (tgt := 34) hx hb d_Ke_label_27 (by decide) (fun c6 => ?_) (fun c6 => ?_)
  · replace h := zo_t c6 h
    refine lv_iconst (v := 0) hx hb d_Ke_label_34 (by decide) ?_
    cases h
  replace h := zo_f c6 h
  refine lv_iconst (v := 1) hx hb d_Ke_label_30 (by decide) ?_
  refine lv_goto (tgt := 35) hx hb d_Ke_label_31 (by decide) ?_
  refine ka_v (va_runS (As := [.int 1]) (rest := []) S9 (c_Ke_needNumber_ok l hl9 D A (GW A σ r) _ 1 (by decide)) (cwS 1 hts (tg_S wl_Ke_44 ws_Ke_needNumber wi_Ke wo_Ke_needNumber) rfl rfl rfl wq_Ke_needNumber ⟨Nat.le_of_ble_eq_true rfl, Nat.le_of_ble_eq_true rfl⟩) (ka_preS X9 hP hD hS) rfl rfl hl.1 rfl (lv_room (Nat.le_of_ble_eq_true rfl)) d_Ke_label_35 ⟨Nat.le_of_ble_eq_true rfl, Nat.le_of_ble_eq_true rfl⟩) X9 hD hS rfl (fun H locs hP hD hS => ?_)
  refine lv_aload_n hx hb d_Ke_label_38 rfl (lv_at hl 0 rfl) ?_
  refine va_get (D := D) (ci := 4) (v := .ref (A 2)) (C := R_Ke) (T := T_Ke) (N := 5) hx hb hts wu_Ke hown hK hP 0 rfl rfl 2 (by decide) (hts _ wf_Ke_23) (fun _ h9 => h9) rfl d_Ke_label_39 ?_
  refine lv_iload_n hx hb d_Ke_label_42 rfl (lv_at hl 1 rfl) ?_
  refine lv_iload_n hx hb d_Ke_label_43 rfl (lv_at hl 2 rfl) ?_
  refine lv_iload_n hx hb d_Ke_label_44 rfl (lv_at hl 3 rfl) ?_
  obtain ⟨v7, e9, h⟩ := zo_b h
  refine ka_i (va_runV (As := [.int x1, .int x2, .int x3]) (rest := []) S9 (c_Lb_changed l hl9 D A r _ σ x1 x2 x3 _ e9) (cwV 3 hts (tg_V wl_Ke_48 wm_Lb_changed we_Lb_changed wi_Lb wo_Lb_changed) rfl rfl rfl wq_Lb_changed ⟨Nat.le_of_ble_eq_true rfl, Nat.le_of_ble_eq_true rfl⟩) (ka_preV X9 hP hD hS 2 rfl rfl) rfl rfl hl.1 rfl (lv_room (Nat.le_of_ble_eq_true rfl)) d_Ke_label_45 ⟨Nat.le_of_ble_eq_true rfl, Nat.le_of_ble_eq_true rfl⟩) X9 hD hS rfl (fun H locs hP hD hS => ?_)
  refine lv_istore (lv' := [(4, .int v7), (0, .ref (A 0)), (1, .int x1), (2, .int x2), (3, .int x3)]) hx hb d_Ke_label_48 hl (by decide) rfl (fun ls hl => ?_)
  refine lv_aload_n hx hb d_Ke_label_50 rfl (lv_at hl 1 rfl) ?_
  refine va_get (D := D) (ci := 4) (v := .ref (A 2)) (C := R_Ke) (T := T_Ke) (N := 5) hx hb hts wu_Ke hown hK hP 0 rfl rfl 2 (by decide) (hts _ wf_Ke_23) (fun _ h9 => h9) rfl d_Ke_label_51 ?_
  refine lv_iload hx hb d_Ke_label_54 (lv_at hl 0 rfl) ?_
  obtain ⟨v8, e9, h⟩ := zo_b h
  refine ka_i (va_runV (As := [.int v7]) (rest := []) S9 (c_Lb_missing l hl9 D A r _ σ v7 _ e9) (cwV 1 hts (tg_V wl_Ke_52 wm_Lb_missing we_Lb_missing wi_Lb wo_Lb_missing) rfl rfl rfl wq_Lb_missing ⟨Nat.le_of_ble_eq_true rfl, Nat.le_of_ble_eq_true rfl⟩) (ka_preV X9 hP hD hS 2 rfl rfl) rfl rfl hl.1 rfl (lv_room (Nat.le_of_ble_eq_true rfl)) d_Ke_label_56 ⟨Nat.le_of_ble_eq_true rfl, Nat.le_of_ble_eq_true rfl⟩) X9 hD hS rfl (fun H locs hP hD hS => ?_)
  refine lv_aload_n hx hb d_Ke_label_59 rfl (lv_at hl 1 rfl) ?_
  refine va_get (D := D) (ci := 4) (v := .ref (A 2)) (C := R_Ke) (T := T_Ke) (N := 5) hx hb hts wu_Ke hown hK hP 0 rfl rfl 2 (by decide) (hts _ wf_Ke_23) (fun _ h9 => h9) rfl d_Ke_label_60 ?_
  obtain ⟨v9, e9, h⟩ := zo_b h
  refine ka_i (va_runV (As := []) (rest := [.int v8]) S9 (c_Lb_free l hl9 D A r _ σ _ e9) (cwV 0 hts (tg_V wl_Ke_56 wm_Lb_free we_Lb_free wi_Lb wo_Lb_free) rfl rfl rfl wq_Lb_free ⟨Nat.le_of_ble_eq_true rfl, Nat.le_of_ble_eq_true rfl⟩) (ka_preV X9 hP hD hS 2 rfl rfl) rfl rfl hl.1 rfl (lv_room (Nat.le_of_ble_eq_true rfl)) d_Ke_label_63 ⟨Nat.le_of_ble_eq_true rfl, Nat.le_of_ble_eq_true rfl⟩) X9 hD hS rfl (fun H locs hP hD hS => ?_)
  refine lv_icmp_gt (tgt := 73) hx hb d_Ke_label_66 (by decide) (fun c10 => ?_) (fun c10 => ?_)
  · replace h := zo_t c10 h
    refine lv_iconst (v := 0) hx hb d_Ke_label_73 (by decide) ?_
    cases h
  replace h := zo_f c10 h
  refine lv_iconst (v := 1) hx hb d_Ke_label_69 (by decide) ?_
  refine lv_goto (tgt := 74) hx hb d_Ke_label_70 (by decide) ?_
  refine ka_v (va_runS (As := [.int 1]) (rest := []) S9 (c_Ke_needRoom_ok l hl9 D A (GW A σ r) _ 1 (by decide)) (cwS 1 hts (tg_S wl_Ke_60 ws_Ke_needRoom wi_Ke wo_Ke_needRoom) rfl rfl rfl wq_Ke_needRoom ⟨Nat.le_of_ble_eq_true rfl, Nat.le_of_ble_eq_true rfl⟩) (ka_preS X9 hP hD hS) rfl rfl hl.1 rfl (lv_room (Nat.le_of_ble_eq_true rfl)) d_Ke_label_74 ⟨Nat.le_of_ble_eq_true rfl, Nat.le_of_ble_eq_true rfl⟩) X9 hD hS rfl (fun H locs hP hD hS => ?_)
  refine lv_aload_n hx hb d_Ke_label_77 rfl (lv_at hl 1 rfl) ?_
  refine va_get (D := D) (ci := 4) (v := .ref (A 2)) (C := R_Ke) (T := T_Ke) (N := 5) hx hb hts wu_Ke hown hK hP 0 rfl rfl 2 (by decide) (hts _ wf_Ke_23) (fun _ h9 => h9) rfl d_Ke_label_78 ?_
  refine lv_iload hx hb d_Ke_label_81 (lv_at hl 0 rfl) ?_
  obtain ⟨v11, e9, h⟩ := zo_b h
  refine ka_i (va_runV (As := [.int v7]) (rest := []) S9 (c_Lb_numberOf l hl9 D A r _ σ v7 _ e9) (cwV 1 hts (tg_V wl_Ke_63 wm_Lb_numberOf we_Lb_numberOf wi_Lb wo_Lb_numberOf) rfl rfl rfl wq_Lb_numberOf ⟨Nat.le_of_ble_eq_true rfl, Nat.le_of_ble_eq_true rfl⟩) (ka_preV X9 hP hD hS 2 rfl rfl) rfl rfl hl.1 rfl (lv_room (Nat.le_of_ble_eq_true rfl)) d_Ke_label_83 ⟨Nat.le_of_ble_eq_true rfl, Nat.le_of_ble_eq_true rfl⟩) X9 hD hS rfl (fun H locs hP hD hS => ?_)
  cases h
  exact W.iret hx hb hr (fun t ht hW => ⟨⟨_, (), rfl, rfl, ka_at ht hP⟩, hS.F ht⟩) hS.2.2 d_Ke_label_86 hlk
set_option maxRecDepth 100000 in
set_option maxHeartbeats 4000000 in
theorem c_Ke_label_err (l : Launch) (hl9 : l.stackTraces = false) (D : va_G) (A : Nat → Nat) (r : va_W) (sz : Nat) (σ : KS) (x1 x2 x3 : Int32) (k9 : Nat) (z : KS) (h : f_Ke_label σ x1 x2 x3 = some (.error k9, z)) : vx_Met l y_Ke_label (Cond.code y_Ke_label b_Ke_label 5 (some .int) :: T0) ({ frames := 7, cells := 1, slots := 6, locals := 101 } : Room) (va_Pc [.ref (A 0), .int x1, .int x2, .int x3] (ka_Wd D A (GW A σ r) sz)) ka_No (ka_Xe D k9 (GW A z r) (va_A (GW A σ r) sz)) 1 6 (va_A (GW A σ r) sz) := by
  unfold f_Ke_label at h
  refine ka_ofX (own := R_Ke) (fun A9 => ka_Xe D k9 (GW A z r) A9) (by decide) rfl (Nat.le_of_ble_eq_true rfl) ?_
  intro p e s m below meth c A9 ls S9 hr hlk hex X9 hP hD hl
  obtain ⟨hx, hb, hml, hown, hts⟩ := id S9
  have hK := X9.2.1
  have hS : va_S A9 s.heap s.heap [] := va_S.rf
  replace hl : lv_has ls 5 [(0, .ref (A 0)), (1, .int x1), (2, .int x2), (3, .int x3)] := hl
  refine lv_aload_n hx hb d_Ke_label_0 rfl (lv_at hl 0 rfl) ?_
  refine va_get (D := D) (ci := 4) (v := .ref (A 2)) (C := R_Ke) (T := T_Ke) (N := 5) hx hb hts wu_Ke hown hK hP 0 rfl rfl 2 (by decide) (hts _ wf_Ke_23) (fun _ h9 => h9) rfl d_Ke_label_1 ?_
  refine lv_iload_n hx hb d_Ke_label_4 rfl (lv_at hl 1 rfl) ?_
  obtain ⟨v1, e9, h⟩ := zo_b h
  refine ka_i (va_runV (As := [.int x1]) (rest := []) S9 (c_Lb_has l hl9 D A r _ σ x1 _ e9) (cwV 1 hts (tg_V wl_Ke_34 wm_Lb_has we_Lb_has wi_Lb wo_Lb_has) rfl rfl rfl wq_Lb_has ⟨Nat.le_of_ble_eq_true rfl, Nat.le_of_ble_eq_true rfl⟩) (ka_preV X9 hP hD hS 2 rfl rfl) rfl rfl hl.1 rfl (lv_room (Nat.le_of_ble_eq_true rfl)) d_Ke_label_5 ⟨Nat.le_of_ble_eq_true rfl, Nat.le_of_ble_eq_true rfl⟩) X9 hD hS rfl (fun H locs hP hD hS => ?_)
  refine lv_if_eq (tgt := 34) hx hb d_Ke_label_8 (by decide) (fun c2 => ?_) (fun c2 => ?_)
  · replace h := zo_t c2 h
    refine lv_iconst (v := 0) hx hb d_Ke_label_34 (by decide) ?_
    obtain ⟨rfl, rfl⟩ := zo_e h
    exact ka_err (vx_runS (As := [.int 0]) (rest := []) S9 (c_Ke_needNumber_err l hl9 D A (GW A σ r) _ 0 rfl) (cwS 1 hts (tg_S wl_Ke_44 ws_Ke_needNumber wi_Ke wo_Ke_needNumber) rfl rfl rfl wq_Ke_needNumber ⟨Nat.le_of_ble_eq_true rfl, Nat.le_of_ble_eq_true rfl⟩) (ka_preS X9 hP hD hS) rfl rfl hl.1 rfl (lv_room (Nat.le_of_ble_eq_true rfl)) d_Ke_label_35 ⟨Nat.le_of_ble_eq_true rfl, Nat.le_of_ble_eq_true rfl⟩) hlk hex X9 hD hS (Nat.le_of_ble_eq_true rfl) (Nat.le_of_ble_eq_true rfl)
  replace h := zo_f c2 h
  refine lv_iload_n hx hb d_Ke_label_11 rfl (lv_at hl 2 rfl) ?_
  refine lv_iconst (v := 0) hx hb d_Ke_label_12 (by decide) ?_
  refine lv_bipush (v := 7) hx hb d_Ke_label_13 (by decide) ?_
  obtain ⟨v3, e9, h⟩ := zo_b h
  refine ka_i (va_runS (As := [.int x2, .int 0, .int 7]) (rest := []) S9 (c_Ke_isBetween l hl9 D A (GW A σ r) _ x2 0 7 _ e9) (cwS 3 hts (tg_S wl_Ke_40 ws_Ke_isBetween wi_Ke wo_Ke_isBetween) rfl rfl rfl wq_Ke_isBetween ⟨Nat.le_of_ble_eq_true rfl, Nat.le_of_ble_eq_true rfl⟩) (ka_preS X9 hP hD hS) rfl rfl hl.1 rfl (lv_room (Nat.le_of_ble_eq_true rfl)) d_Ke_label_15 ⟨Nat.le_of_ble_eq_true rfl, Nat.le_of_ble_eq_true rfl⟩) X9 hD hS rfl (fun H locs hP hD hS => ?_)
  refine lv_if_eq (tgt := 34) hx hb d_Ke_label_18 (by decide) (fun c4 => ?_) (fun c4 => ?_)
  · replace h := zo_t c4 h
    refine lv_iconst (v := 0) hx hb d_Ke_label_34 (by decide) ?_
    obtain ⟨rfl, rfl⟩ := zo_e h
    exact ka_err (vx_runS (As := [.int 0]) (rest := []) S9 (c_Ke_needNumber_err l hl9 D A (GW A σ r) _ 0 rfl) (cwS 1 hts (tg_S wl_Ke_44 ws_Ke_needNumber wi_Ke wo_Ke_needNumber) rfl rfl rfl wq_Ke_needNumber ⟨Nat.le_of_ble_eq_true rfl, Nat.le_of_ble_eq_true rfl⟩) (ka_preS X9 hP hD hS) rfl rfl hl.1 rfl (lv_room (Nat.le_of_ble_eq_true rfl)) d_Ke_label_35 ⟨Nat.le_of_ble_eq_true rfl, Nat.le_of_ble_eq_true rfl⟩) hlk hex X9 hD hS (Nat.le_of_ble_eq_true rfl) (Nat.le_of_ble_eq_true rfl)
  replace h := zo_f c4 h
  refine lv_iload_n hx hb d_Ke_label_21 rfl (lv_at hl 3 rfl) ?_
  refine lv_iconst (v := 0) hx hb d_Ke_label_22 (by decide) ?_
  refine lv_iconst (v := 4) hx hb d_Ke_label_23 (by decide) ?_
  obtain ⟨v5, e9, h⟩ := zo_b h
  refine ka_i (va_runS (As := [.int x3, .int 0, .int 4]) (rest := []) S9 (c_Ke_isBetween l hl9 D A (GW A σ r) _ x3 0 4 _ e9) (cwS 3 hts (tg_S wl_Ke_40 ws_Ke_isBetween wi_Ke wo_Ke_isBetween) rfl rfl rfl wq_Ke_isBetween ⟨Nat.le_of_ble_eq_true rfl, Nat.le_of_ble_eq_true rfl⟩) (ka_preS X9 hP hD hS) rfl rfl hl.1 rfl (lv_room (Nat.le_of_ble_eq_true rfl)) d_Ke_label_24 ⟨Nat.le_of_ble_eq_true rfl, Nat.le_of_ble_eq_true rfl⟩) X9 hD hS rfl (fun H locs hP hD hS => ?_)
  refine lv_if_eq (tgt := 34) hx hb d_Ke_label_27 (by decide) (fun c6 => ?_) (fun c6 => ?_)
  · replace h := zo_t c6 h
    refine lv_iconst (v := 0) hx hb d_Ke_label_34 (by decide) ?_
    obtain ⟨rfl, rfl⟩ := zo_e h
    exact ka_err (vx_runS (As := [.int 0]) (rest := []) S9 (c_Ke_needNumber_err l hl9 D A (GW A σ r) _ 0 rfl) (cwS 1 hts (tg_S wl_Ke_44 ws_Ke_needNumber wi_Ke wo_Ke_needNumber) rfl rfl rfl wq_Ke_needNumber ⟨Nat.le_of_ble_eq_true rfl, Nat.le_of_ble_eq_true rfl⟩) (ka_preS X9 hP hD hS) rfl rfl hl.1 rfl (lv_room (Nat.le_of_ble_eq_true rfl)) d_Ke_label_35 ⟨Nat.le_of_ble_eq_true rfl, Nat.le_of_ble_eq_true rfl⟩) hlk hex X9 hD hS (Nat.le_of_ble_eq_true rfl) (Nat.le_of_ble_eq_true rfl)
  replace h := zo_f c6 h
  refine lv_iconst (v := 1) hx hb d_Ke_label_30 (by decide) ?_
  refine lv_goto (tgt := 35) hx hb d_Ke_label_31 (by decide) ?_
  refine ka_v (va_runS (As := [.int 1]) (rest := []) S9 (c_Ke_needNumber_ok l hl9 D A (GW A σ r) _ 1 (by decide)) (cwS 1 hts (tg_S wl_Ke_44 ws_Ke_needNumber wi_Ke wo_Ke_needNumber) rfl rfl rfl wq_Ke_needNumber ⟨Nat.le_of_ble_eq_true rfl, Nat.le_of_ble_eq_true rfl⟩) (ka_preS X9 hP hD hS) rfl rfl hl.1 rfl (lv_room (Nat.le_of_ble_eq_true rfl)) d_Ke_label_35 ⟨Nat.le_of_ble_eq_true rfl, Nat.le_of_ble_eq_true rfl⟩) X9 hD hS rfl (fun H locs hP hD hS => ?_)
  refine lv_aload_n hx hb d_Ke_label_38 rfl (lv_at hl 0 rfl) ?_
  refine va_get (D := D) (ci := 4) (v := .ref (A 2)) (C := R_Ke) (T := T_Ke) (N := 5) hx hb hts wu_Ke hown hK hP 0 rfl rfl 2 (by decide) (hts _ wf_Ke_23) (fun _ h9 => h9) rfl d_Ke_label_39 ?_
  refine lv_iload_n hx hb d_Ke_label_42 rfl (lv_at hl 1 rfl) ?_
  refine lv_iload_n hx hb d_Ke_label_43 rfl (lv_at hl 2 rfl) ?_
  refine lv_iload_n hx hb d_Ke_label_44 rfl (lv_at hl 3 rfl) ?_
  obtain ⟨v7, e9, h⟩ := zo_b h
  refine ka_i (va_runV (As := [.int x1, .int x2, .int x3]) (rest := []) S9 (c_Lb_changed l hl9 D A r _ σ x1 x2 x3 _ e9) (cwV 3 hts (tg_V wl_Ke_48 wm_Lb_changed we_Lb_changed wi_Lb wo_Lb_changed) rfl rfl rfl wq_Lb_changed ⟨Nat.le_of_ble_eq_true rfl, Nat.le_of_ble_eq_true rfl⟩) (ka_preV X9 hP hD hS 2 rfl rfl) rfl rfl hl.1 rfl (lv_room (Nat.le_of_ble_eq_true rfl)) d_Ke_label_45 ⟨Nat.le_of_ble_eq_true rfl, Nat.le_of_ble_eq_true rfl⟩) X9 hD hS rfl (fun H locs hP hD hS => ?_)
  refine lv_istore (lv' := [(4, .int v7), (0, .ref (A 0)), (1, .int x1), (2, .int x2), (3, .int x3)]) hx hb d_Ke_label_48 hl (by decide) rfl (fun ls hl => ?_)
  refine lv_aload_n hx hb d_Ke_label_50 rfl (lv_at hl 1 rfl) ?_
  refine va_get (D := D) (ci := 4) (v := .ref (A 2)) (C := R_Ke) (T := T_Ke) (N := 5) hx hb hts wu_Ke hown hK hP 0 rfl rfl 2 (by decide) (hts _ wf_Ke_23) (fun _ h9 => h9) rfl d_Ke_label_51 ?_
  refine lv_iload hx hb d_Ke_label_54 (lv_at hl 0 rfl) ?_
  obtain ⟨v8, e9, h⟩ := zo_b h
  refine ka_i (va_runV (As := [.int v7]) (rest := []) S9 (c_Lb_missing l hl9 D A r _ σ v7 _ e9) (cwV 1 hts (tg_V wl_Ke_52 wm_Lb_missing we_Lb_missing wi_Lb wo_Lb_missing) rfl rfl rfl wq_Lb_missing ⟨Nat.le_of_ble_eq_true rfl, Nat.le_of_ble_eq_true rfl⟩) (ka_preV X9 hP hD hS 2 rfl rfl) rfl rfl hl.1 rfl (lv_room (Nat.le_of_ble_eq_true rfl)) d_Ke_label_56 ⟨Nat.le_of_ble_eq_true rfl, Nat.le_of_ble_eq_true rfl⟩) X9 hD hS rfl (fun H locs hP hD hS => ?_)
  refine lv_aload_n hx hb d_Ke_label_59 rfl (lv_at hl 1 rfl) ?_
  refine va_get (D := D) (ci := 4) (v := .ref (A 2)) (C := R_Ke) (T := T_Ke) (N := 5) hx hb hts wu_Ke hown hK hP 0 rfl rfl 2 (by decide) (hts _ wf_Ke_23) (fun _ h9 => h9) rfl d_Ke_label_60 ?_
  obtain ⟨v9, e9, h⟩ := zo_b h
  refine ka_i (va_runV (As := []) (rest := [.int v8]) S9 (c_Lb_free l hl9 D A r _ σ _ e9) (cwV 0 hts (tg_V wl_Ke_56 wm_Lb_free we_Lb_free wi_Lb wo_Lb_free) rfl rfl rfl wq_Lb_free ⟨Nat.le_of_ble_eq_true rfl, Nat.le_of_ble_eq_true rfl⟩) (ka_preV X9 hP hD hS 2 rfl rfl) rfl rfl hl.1 rfl (lv_room (Nat.le_of_ble_eq_true rfl)) d_Ke_label_63 ⟨Nat.le_of_ble_eq_true rfl, Nat.le_of_ble_eq_true rfl⟩) X9 hD hS rfl (fun H locs hP hD hS => ?_)
  refine lv_icmp_gt (tgt := 73) hx hb d_Ke_label_66 (by decide) (fun c10 => ?_) (fun c10 => ?_)
  · replace h := zo_t c10 h
    refine lv_iconst (v := 0) hx hb d_Ke_label_73 (by decide) ?_
    obtain ⟨rfl, rfl⟩ := zo_e h
    exact ka_err (vx_runS (As := [.int 0]) (rest := []) S9 (c_Ke_needRoom_err l hl9 D A (GW A σ r) _ 0 rfl) (cwS 1 hts (tg_S wl_Ke_60 ws_Ke_needRoom wi_Ke wo_Ke_needRoom) rfl rfl rfl wq_Ke_needRoom ⟨Nat.le_of_ble_eq_true rfl, Nat.le_of_ble_eq_true rfl⟩) (ka_preS X9 hP hD hS) rfl rfl hl.1 rfl (lv_room (Nat.le_of_ble_eq_true rfl)) d_Ke_label_74 ⟨Nat.le_of_ble_eq_true rfl, Nat.le_of_ble_eq_true rfl⟩) hlk hex X9 hD hS (Nat.le_of_ble_eq_true rfl) (Nat.le_of_ble_eq_true rfl)
  replace h := zo_f c10 h
  refine lv_iconst (v := 1) hx hb d_Ke_label_69 (by decide) ?_
  refine lv_goto (tgt := 74) hx hb d_Ke_label_70 (by decide) ?_
  refine ka_v (va_runS (As := [.int 1]) (rest := []) S9 (c_Ke_needRoom_ok l hl9 D A (GW A σ r) _ 1 (by decide)) (cwS 1 hts (tg_S wl_Ke_60 ws_Ke_needRoom wi_Ke wo_Ke_needRoom) rfl rfl rfl wq_Ke_needRoom ⟨Nat.le_of_ble_eq_true rfl, Nat.le_of_ble_eq_true rfl⟩) (ka_preS X9 hP hD hS) rfl rfl hl.1 rfl (lv_room (Nat.le_of_ble_eq_true rfl)) d_Ke_label_74 ⟨Nat.le_of_ble_eq_true rfl, Nat.le_of_ble_eq_true rfl⟩) X9 hD hS rfl (fun H locs hP hD hS => ?_)
  refine lv_aload_n hx hb d_Ke_label_77 rfl (lv_at hl 1 rfl) ?_
  refine va_get (D := D) (ci := 4) (v := .ref (A 2)) (C := R_Ke) (T := T_Ke) (N := 5) hx hb hts wu_Ke hown hK hP 0 rfl rfl 2 (by decide) (hts _ wf_Ke_23) (fun _ h9 => h9) rfl d_Ke_label_78 ?_
  refine lv_iload hx hb d_Ke_label_81 (lv_at hl 0 rfl) ?_
  obtain ⟨v11, e9, h⟩ := zo_b h
  refine ka_i (va_runV (As := [.int v7]) (rest := []) S9 (c_Lb_numberOf l hl9 D A r _ σ v7 _ e9) (cwV 1 hts (tg_V wl_Ke_63 wm_Lb_numberOf we_Lb_numberOf wi_Lb wo_Lb_numberOf) rfl rfl rfl wq_Lb_numberOf ⟨Nat.le_of_ble_eq_true rfl, Nat.le_of_ble_eq_true rfl⟩) (ka_preV X9 hP hD hS 2 rfl rfl) rfl rfl hl.1 rfl (lv_room (Nat.le_of_ble_eq_true rfl)) d_Ke_label_83 ⟨Nat.le_of_ble_eq_true rfl, Nat.le_of_ble_eq_true rfl⟩) X9 hD hS rfl (fun H locs hP hD hS => ?_)
  cases h
def f_Ke_level (σ : KS) (x1 x2 : Int32) : Option (Except Nat Int32 × KS) := (f_Lb_has σ x1).bind fun v1 => if v1 = 0 then (some (.error 1, σ)) else ((f_Ke_isBetween x2 0 7).bind fun v3 => if v3 = 0 then (some (.error 1, σ)) else ((f_Lb_levelAt σ x1 x2).bind fun v5 => some (.ok v5, σ)))
set_option maxRecDepth 100000 in
set_option maxHeartbeats 4000000 in
theorem c_Ke_level_ok (l : Launch) (hl9 : l.stackTraces = false) (D : va_G) (A : Nat → Nat) (r : va_W) (sz : Nat) (σ : KS) (x1 x2 : Int32) (z9 : Int32) (z : KS) (h : f_Ke_level σ x1 x2 = some (.ok z9, z)) : Met l y_Ke_level (Cond.code y_Ke_level b_Ke_level 3 (some .int) :: T0) ({ frames := 1, cells := 0, slots := 0, locals := 22 } : Room) (va_Pc [.ref (A 0), .int x1, .int x2] (ka_Wd D A (GW A σ r) sz)) (ka_Ri D z9 (GW A z r) (va_A (GW A σ r) sz)) 0 0 (va_A (GW A σ r) sz) := by
  unfold f_Ke_level at h
  refine ka_of (own := R_Ke) (fun A9 => ka_Ri D z9 (GW A z r) A9) (by decide) rfl (Nat.le_of_ble_eq_true rfl) ?_
  intro p e s m below meth c A9 ls S9 hr hlk hex X9 hP hD hl
  obtain ⟨hx, hb, hml, hown, hts⟩ := id S9
  have hK := X9.2.1
  have hS : va_S A9 s.heap s.heap [] := va_S.rf
  replace hl : lv_has ls 3 [(0, .ref (A 0)), (1, .int x1), (2, .int x2)] := hl
  refine lv_aload_n hx hb d_Ke_level_0 rfl (lv_at hl 0 rfl) ?_
  refine va_get (D := D) (ci := 4) (v := .ref (A 2)) (C := R_Ke) (T := T_Ke) (N := 5) hx hb hts wu_Ke hown hK hP 0 rfl rfl 2 (by decide) (hts _ wf_Ke_23) (fun _ h9 => h9) rfl d_Ke_level_1 ?_
  refine lv_iload_n hx hb d_Ke_level_4 rfl (lv_at hl 1 rfl) ?_
  obtain ⟨v1, e9, h⟩ := zo_b h
  refine ka_i (va_runV (As := [.int x1]) (rest := []) S9 (c_Lb_has l hl9 D A r _ σ x1 _ e9) (cwV 1 hts (tg_V wl_Ke_34 wm_Lb_has we_Lb_has wi_Lb wo_Lb_has) rfl rfl rfl wq_Lb_has ⟨Nat.le_of_ble_eq_true rfl, Nat.le_of_ble_eq_true rfl⟩) (ka_preV X9 hP hD hS 2 rfl rfl) rfl rfl hl.1 rfl (lv_room (Nat.le_of_ble_eq_true rfl)) d_Ke_level_5 ⟨Nat.le_of_ble_eq_true rfl, Nat.le_of_ble_eq_true rfl⟩) X9 hD hS rfl (fun H locs hP hD hS => ?_)
  refine lv_if_eq (tgt := 25) hx hb d_Ke_level_8 (by decide) (fun c2 => ?_) (fun c2 => ?_)
  · replace h := zo_t c2 h
    refine lv_iconst (v := 0) hx hb d_Ke_level_25 (by decide) ?_
    cases h
  replace h := zo_f c2 h
  refine lv_iload_n hx hb d_Ke_level_11 rfl (lv_at hl 2 rfl) ?_
  refine lv_iconst (v := 0) hx hb d_Ke_level_12 (by decide) ?_
  refine lv_bipush (v := 7) hx hb d_Ke_level_13 (by decide) ?_
  obtain ⟨v3, e9, h⟩ := zo_b h
  refine ka_i (va_runS (As := [.int x2, .int 0, .int 7]) (rest := []) S9 (c_Ke_isBetween l hl9 D A (GW A σ r) _ x2 0 7 _ e9) (cwS 3 hts (tg_S wl_Ke_40 ws_Ke_isBetween wi_Ke wo_Ke_isBetween) rfl rfl rfl wq_Ke_isBetween ⟨Nat.le_of_ble_eq_true rfl, Nat.le_of_ble_eq_true rfl⟩) (ka_preS X9 hP hD hS) rfl rfl hl.1 rfl (lv_room (Nat.le_of_ble_eq_true rfl)) d_Ke_level_15 ⟨Nat.le_of_ble_eq_true rfl, Nat.le_of_ble_eq_true rfl⟩) X9 hD hS rfl (fun H locs hP hD hS => ?_)
  refine lv_if_eq (tgt := 25) hx hb d_Ke_level_18 (by decide) (fun c4 => ?_) (fun c4 => ?_)
  · replace h := zo_t c4 h
    refine lv_iconst (v := 0) hx hb d_Ke_level_25 (by decide) ?_
    cases h
  replace h := zo_f c4 h
  refine lv_iconst (v := 1) hx hb d_Ke_level_21 (by decide) ?_
  refine lv_goto (tgt := 26) hx hb d_Ke_level_22 (by decide) ?_
  refine ka_v (va_runS (As := [.int 1]) (rest := []) S9 (c_Ke_needNumber_ok l hl9 D A (GW A σ r) _ 1 (by decide)) (cwS 1 hts (tg_S wl_Ke_44 ws_Ke_needNumber wi_Ke wo_Ke_needNumber) rfl rfl rfl wq_Ke_needNumber ⟨Nat.le_of_ble_eq_true rfl, Nat.le_of_ble_eq_true rfl⟩) (ka_preS X9 hP hD hS) rfl rfl hl.1 rfl (lv_room (Nat.le_of_ble_eq_true rfl)) d_Ke_level_26 ⟨Nat.le_of_ble_eq_true rfl, Nat.le_of_ble_eq_true rfl⟩) X9 hD hS rfl (fun H locs hP hD hS => ?_)
  refine lv_aload_n hx hb d_Ke_level_29 rfl (lv_at hl 0 rfl) ?_
  refine va_get (D := D) (ci := 4) (v := .ref (A 2)) (C := R_Ke) (T := T_Ke) (N := 5) hx hb hts wu_Ke hown hK hP 0 rfl rfl 2 (by decide) (hts _ wf_Ke_23) (fun _ h9 => h9) rfl d_Ke_level_30 ?_
  refine lv_iload_n hx hb d_Ke_level_33 rfl (lv_at hl 1 rfl) ?_
  refine lv_iload_n hx hb d_Ke_level_34 rfl (lv_at hl 2 rfl) ?_
  obtain ⟨v5, e9, h⟩ := zo_b h
  refine ka_i (va_runV (As := [.int x1, .int x2]) (rest := []) S9 (c_Lb_levelAt l hl9 D A r _ σ x1 x2 _ e9) (cwV 2 hts (tg_V wl_Ke_66 wm_Lb_levelAt we_Lb_levelAt wi_Lb wo_Lb_levelAt) rfl rfl rfl wq_Lb_levelAt ⟨Nat.le_of_ble_eq_true rfl, Nat.le_of_ble_eq_true rfl⟩) (ka_preV X9 hP hD hS 2 rfl rfl) rfl rfl hl.1 rfl (lv_room (Nat.le_of_ble_eq_true rfl)) d_Ke_level_35 ⟨Nat.le_of_ble_eq_true rfl, Nat.le_of_ble_eq_true rfl⟩) X9 hD hS rfl (fun H locs hP hD hS => ?_)
  cases h
  exact W.iret hx hb hr (fun t ht hW => ⟨⟨_, (), rfl, rfl, ka_at ht hP⟩, hS.F ht⟩) hS.2.2 d_Ke_level_38 hlk
set_option maxRecDepth 100000 in
set_option maxHeartbeats 4000000 in
theorem c_Ke_level_err (l : Launch) (hl9 : l.stackTraces = false) (D : va_G) (A : Nat → Nat) (r : va_W) (sz : Nat) (σ : KS) (x1 x2 : Int32) (k9 : Nat) (z : KS) (h : f_Ke_level σ x1 x2 = some (.error k9, z)) : vx_Met l y_Ke_level (Cond.code y_Ke_level b_Ke_level 3 (some .int) :: T0) ({ frames := 7, cells := 1, slots := 6, locals := 101 } : Room) (va_Pc [.ref (A 0), .int x1, .int x2] (ka_Wd D A (GW A σ r) sz)) ka_No (ka_Xe D k9 (GW A z r) (va_A (GW A σ r) sz)) 1 6 (va_A (GW A σ r) sz) := by
  unfold f_Ke_level at h
  refine ka_ofX (own := R_Ke) (fun A9 => ka_Xe D k9 (GW A z r) A9) (by decide) rfl (Nat.le_of_ble_eq_true rfl) ?_
  intro p e s m below meth c A9 ls S9 hr hlk hex X9 hP hD hl
  obtain ⟨hx, hb, hml, hown, hts⟩ := id S9
  have hK := X9.2.1
  have hS : va_S A9 s.heap s.heap [] := va_S.rf
  replace hl : lv_has ls 3 [(0, .ref (A 0)), (1, .int x1), (2, .int x2)] := hl
  refine lv_aload_n hx hb d_Ke_level_0 rfl (lv_at hl 0 rfl) ?_
  refine va_get (D := D) (ci := 4) (v := .ref (A 2)) (C := R_Ke) (T := T_Ke) (N := 5) hx hb hts wu_Ke hown hK hP 0 rfl rfl 2 (by decide) (hts _ wf_Ke_23) (fun _ h9 => h9) rfl d_Ke_level_1 ?_
  refine lv_iload_n hx hb d_Ke_level_4 rfl (lv_at hl 1 rfl) ?_
  obtain ⟨v1, e9, h⟩ := zo_b h
  refine ka_i (va_runV (As := [.int x1]) (rest := []) S9 (c_Lb_has l hl9 D A r _ σ x1 _ e9) (cwV 1 hts (tg_V wl_Ke_34 wm_Lb_has we_Lb_has wi_Lb wo_Lb_has) rfl rfl rfl wq_Lb_has ⟨Nat.le_of_ble_eq_true rfl, Nat.le_of_ble_eq_true rfl⟩) (ka_preV X9 hP hD hS 2 rfl rfl) rfl rfl hl.1 rfl (lv_room (Nat.le_of_ble_eq_true rfl)) d_Ke_level_5 ⟨Nat.le_of_ble_eq_true rfl, Nat.le_of_ble_eq_true rfl⟩) X9 hD hS rfl (fun H locs hP hD hS => ?_)
  refine lv_if_eq (tgt := 25) hx hb d_Ke_level_8 (by decide) (fun c2 => ?_) (fun c2 => ?_)
  · replace h := zo_t c2 h
    refine lv_iconst (v := 0) hx hb d_Ke_level_25 (by decide) ?_
    obtain ⟨rfl, rfl⟩ := zo_e h
    exact ka_err (vx_runS (As := [.int 0]) (rest := []) S9 (c_Ke_needNumber_err l hl9 D A (GW A σ r) _ 0 rfl) (cwS 1 hts (tg_S wl_Ke_44 ws_Ke_needNumber wi_Ke wo_Ke_needNumber) rfl rfl rfl wq_Ke_needNumber ⟨Nat.le_of_ble_eq_true rfl, Nat.le_of_ble_eq_true rfl⟩) (ka_preS X9 hP hD hS) rfl rfl hl.1 rfl (lv_room (Nat.le_of_ble_eq_true rfl)) d_Ke_level_26 ⟨Nat.le_of_ble_eq_true rfl, Nat.le_of_ble_eq_true rfl⟩) hlk hex X9 hD hS (Nat.le_of_ble_eq_true rfl) (Nat.le_of_ble_eq_true rfl)
  replace h := zo_f c2 h
  refine lv_iload_n hx hb d_Ke_level_11 rfl (lv_at hl 2 rfl) ?_
  refine lv_iconst (v := 0) hx hb d_Ke_level_12 (by decide) ?_
  refine lv_bipush (v := 7) hx hb d_Ke_level_13 (by decide) ?_
  obtain ⟨v3, e9, h⟩ := zo_b h
  refine ka_i (va_runS (As := [.int x2, .int 0, .int 7]) (rest := []) S9 (c_Ke_isBetween l hl9 D A (GW A σ r) _ x2 0 7 _ e9) (cwS 3 hts (tg_S wl_Ke_40 ws_Ke_isBetween wi_Ke wo_Ke_isBetween) rfl rfl rfl wq_Ke_isBetween ⟨Nat.le_of_ble_eq_true rfl, Nat.le_of_ble_eq_true rfl⟩) (ka_preS X9 hP hD hS) rfl rfl hl.1 rfl (lv_room (Nat.le_of_ble_eq_true rfl)) d_Ke_level_15 ⟨Nat.le_of_ble_eq_true rfl, Nat.le_of_ble_eq_true rfl⟩) X9 hD hS rfl (fun H locs hP hD hS => ?_)
  refine lv_if_eq (tgt := 25) hx hb d_Ke_level_18 (by decide) (fun c4 => ?_) (fun c4 => ?_)
  · replace h := zo_t c4 h
    refine lv_iconst (v := 0) hx hb d_Ke_level_25 (by decide) ?_
    obtain ⟨rfl, rfl⟩ := zo_e h
    exact ka_err (vx_runS (As := [.int 0]) (rest := []) S9 (c_Ke_needNumber_err l hl9 D A (GW A σ r) _ 0 rfl) (cwS 1 hts (tg_S wl_Ke_44 ws_Ke_needNumber wi_Ke wo_Ke_needNumber) rfl rfl rfl wq_Ke_needNumber ⟨Nat.le_of_ble_eq_true rfl, Nat.le_of_ble_eq_true rfl⟩) (ka_preS X9 hP hD hS) rfl rfl hl.1 rfl (lv_room (Nat.le_of_ble_eq_true rfl)) d_Ke_level_26 ⟨Nat.le_of_ble_eq_true rfl, Nat.le_of_ble_eq_true rfl⟩) hlk hex X9 hD hS (Nat.le_of_ble_eq_true rfl) (Nat.le_of_ble_eq_true rfl)
  replace h := zo_f c4 h
  refine lv_iconst (v := 1) hx hb d_Ke_level_21 (by decide) ?_
  refine lv_goto (tgt := 26) hx hb d_Ke_level_22 (by decide) ?_
  refine ka_v (va_runS (As := [.int 1]) (rest := []) S9 (c_Ke_needNumber_ok l hl9 D A (GW A σ r) _ 1 (by decide)) (cwS 1 hts (tg_S wl_Ke_44 ws_Ke_needNumber wi_Ke wo_Ke_needNumber) rfl rfl rfl wq_Ke_needNumber ⟨Nat.le_of_ble_eq_true rfl, Nat.le_of_ble_eq_true rfl⟩) (ka_preS X9 hP hD hS) rfl rfl hl.1 rfl (lv_room (Nat.le_of_ble_eq_true rfl)) d_Ke_level_26 ⟨Nat.le_of_ble_eq_true rfl, Nat.le_of_ble_eq_true rfl⟩) X9 hD hS rfl (fun H locs hP hD hS => ?_)
  refine lv_aload_n hx hb d_Ke_level_29 rfl (lv_at hl 0 rfl) ?_
  refine va_get (D := D) (ci := 4) (v := .ref (A 2)) (C := R_Ke) (T := T_Ke) (N := 5) hx hb hts wu_Ke hown hK hP 0 rfl rfl 2 (by decide) (hts _ wf_Ke_23) (fun _ h9 => h9) rfl d_Ke_level_30 ?_
  refine lv_iload_n hx hb d_Ke_level_33 rfl (lv_at hl 1 rfl) ?_
  refine lv_iload_n hx hb d_Ke_level_34 rfl (lv_at hl 2 rfl) ?_
  obtain ⟨v5, e9, h⟩ := zo_b h
  refine ka_i (va_runV (As := [.int x1, .int x2]) (rest := []) S9 (c_Lb_levelAt l hl9 D A r _ σ x1 x2 _ e9) (cwV 2 hts (tg_V wl_Ke_66 wm_Lb_levelAt we_Lb_levelAt wi_Lb wo_Lb_levelAt) rfl rfl rfl wq_Lb_levelAt ⟨Nat.le_of_ble_eq_true rfl, Nat.le_of_ble_eq_true rfl⟩) (ka_preV X9 hP hD hS 2 rfl rfl) rfl rfl hl.1 rfl (lv_room (Nat.le_of_ble_eq_true rfl)) d_Ke_level_35 ⟨Nat.le_of_ble_eq_true rfl, Nat.le_of_ble_eq_true rfl⟩) X9 hD hS rfl (fun H locs hP hD hS => ?_)
  cases h
def f_Ke_fits (σ : KS) (x1 x2 x3 : Int32) : Option (Except Nat Int32 × KS) := (f_Lb_has σ x1).bind fun v1 => if v1 = 0 then (some (.error 1, σ)) else ((f_Lb_has σ x2).bind fun v3 => if v3 = 0 then (some (.error 1, σ)) else (if x3 = 0 then ((f_Lb_fitsUnder σ x1 x2).bind fun v6 => if vp_nar .boolean v6 = v6 then some (.ok v6, σ) else none) else ((f_Lb_fitsHigh σ x1 x2).bind fun v7 => if vp_nar .boolean v7 = v7 then some (.ok v7, σ) else none)))
set_option maxRecDepth 100000 in
set_option maxHeartbeats 4000000 in
theorem c_Ke_fits_ok (l : Launch) (hl9 : l.stackTraces = false) (D : va_G) (A : Nat → Nat) (r : va_W) (sz : Nat) (σ : KS) (x1 x2 x3 : Int32) (z9 : Int32) (z : KS) (h : f_Ke_fits σ x1 x2 x3 = some (.ok z9, z)) : Met l y_Ke_fits (Cond.code y_Ke_fits b_Ke_fits 4 (some .boolean) :: T0) ({ frames := 2, cells := 0, slots := 0, locals := 45 } : Room) (va_Pc [.ref (A 0), .int x1, .int x2, .int x3] (ka_Wd D A (GW A σ r) sz)) (ka_Ri D z9 (GW A z r) (va_A (GW A σ r) sz)) 0 0 (va_A (GW A σ r) sz) := by
  unfold f_Ke_fits at h
  refine ka_of (own := R_Ke) (fun A9 => ka_Ri D z9 (GW A z r) A9) (by decide) rfl (Nat.le_of_ble_eq_true rfl) ?_
  intro p e s m below meth c A9 ls S9 hr hlk hex X9 hP hD hl
  obtain ⟨hx, hb, hml, hown, hts⟩ := id S9
  have hK := X9.2.1
  have hS : va_S A9 s.heap s.heap [] := va_S.rf
  replace hl : lv_has ls 4 [(0, .ref (A 0)), (1, .int x1), (2, .int x2), (3, .int x3)] := hl
  refine lv_aload_n hx hb d_Ke_fits_0 rfl (lv_at hl 0 rfl) ?_
  refine va_get (D := D) (ci := 4) (v := .ref (A 2)) (C := R_Ke) (T := T_Ke) (N := 5) hx hb hts wu_Ke hown hK hP 0 rfl rfl 2 (by decide) (hts _ wf_Ke_23) (fun _ h9 => h9) rfl d_Ke_fits_1 ?_
  refine lv_iload_n hx hb d_Ke_fits_4 rfl (lv_at hl 1 rfl) ?_
  obtain ⟨v1, e9, h⟩ := zo_b h
  refine ka_i (va_runV (As := [.int x1]) (rest := []) S9 (c_Lb_has l hl9 D A r _ σ x1 _ e9) (cwV 1 hts (tg_V wl_Ke_34 wm_Lb_has we_Lb_has wi_Lb wo_Lb_has) rfl rfl rfl wq_Lb_has ⟨Nat.le_of_ble_eq_true rfl, Nat.le_of_ble_eq_true rfl⟩) (ka_preV X9 hP hD hS 2 rfl rfl) rfl rfl hl.1 rfl (lv_room (Nat.le_of_ble_eq_true rfl)) d_Ke_fits_5 ⟨Nat.le_of_ble_eq_true rfl, Nat.le_of_ble_eq_true rfl⟩) X9 hD hS rfl (fun H locs hP hD hS => ?_)
  refine lv_if_eq (tgt := 26) hx hb d_Ke_fits_8 (by decide) (fun c2 => ?_) (fun c2 => ?_)
  · replace h := zo_t c2 h
    refine lv_iconst (v := 0) hx hb d_Ke_fits_26 (by decide) ?_
    cases h
  replace h := zo_f c2 h
  refine lv_aload_n hx hb d_Ke_fits_11 rfl (lv_at hl 0 rfl) ?_
  refine va_get (D := D) (ci := 4) (v := .ref (A 2)) (C := R_Ke) (T := T_Ke) (N := 5) hx hb hts wu_Ke hown hK hP 0 rfl rfl 2 (by decide) (hts _ wf_Ke_23) (fun _ h9 => h9) rfl d_Ke_fits_12 ?_
  refine lv_iload_n hx hb d_Ke_fits_15 rfl (lv_at hl 2 rfl) ?_
  obtain ⟨v3, e9, h⟩ := zo_b h
  refine ka_i (va_runV (As := [.int x2]) (rest := []) S9 (c_Lb_has l hl9 D A r _ σ x2 _ e9) (cwV 1 hts (tg_V wl_Ke_34 wm_Lb_has we_Lb_has wi_Lb wo_Lb_has) rfl rfl rfl wq_Lb_has ⟨Nat.le_of_ble_eq_true rfl, Nat.le_of_ble_eq_true rfl⟩) (ka_preV X9 hP hD hS 2 rfl rfl) rfl rfl hl.1 rfl (lv_room (Nat.le_of_ble_eq_true rfl)) d_Ke_fits_16 ⟨Nat.le_of_ble_eq_true rfl, Nat.le_of_ble_eq_true rfl⟩) X9 hD hS rfl (fun H locs hP hD hS => ?_)
  refine lv_if_eq (tgt := 26) hx hb d_Ke_fits_19 (by decide) (fun c4 => ?_) (fun c4 => ?_)
  · replace h := zo_t c4 h
    refine lv_iconst (v := 0) hx hb d_Ke_fits_26 (by decide) ?_
    cases h
  replace h := zo_f c4 h
  refine lv_iconst (v := 1) hx hb d_Ke_fits_22 (by decide) ?_
  refine lv_goto (tgt := 27) hx hb d_Ke_fits_23 (by decide) ?_
  refine ka_v (va_runS (As := [.int 1]) (rest := []) S9 (c_Ke_needNumber_ok l hl9 D A (GW A σ r) _ 1 (by decide)) (cwS 1 hts (tg_S wl_Ke_44 ws_Ke_needNumber wi_Ke wo_Ke_needNumber) rfl rfl rfl wq_Ke_needNumber ⟨Nat.le_of_ble_eq_true rfl, Nat.le_of_ble_eq_true rfl⟩) (ka_preS X9 hP hD hS) rfl rfl hl.1 rfl (lv_room (Nat.le_of_ble_eq_true rfl)) d_Ke_fits_27 ⟨Nat.le_of_ble_eq_true rfl, Nat.le_of_ble_eq_true rfl⟩) X9 hD hS rfl (fun H locs hP hD hS => ?_)
  refine lv_iload_n hx hb d_Ke_fits_30 rfl (lv_at hl 3 rfl) ?_
  refine lv_if_eq (tgt := 46) hx hb d_Ke_fits_31 (by decide) (fun c5 => ?_) (fun c5 => ?_)
  · replace h := zo_t c5 h
    refine lv_aload_n hx hb d_Ke_fits_46 rfl (lv_at hl 0 rfl) ?_
    refine va_get (D := D) (ci := 4) (v := .ref (A 2)) (C := R_Ke) (T := T_Ke) (N := 5) hx hb hts wu_Ke hown hK hP 0 rfl rfl 2 (by decide) (hts _ wf_Ke_23) (fun _ h9 => h9) rfl d_Ke_fits_47 ?_
    refine lv_iload_n hx hb d_Ke_fits_50 rfl (lv_at hl 1 rfl) ?_
    refine lv_iload_n hx hb d_Ke_fits_51 rfl (lv_at hl 2 rfl) ?_
    obtain ⟨v6, e9, h⟩ := zo_b h
    refine ka_i (va_runV (As := [.int x1, .int x2]) (rest := []) S9 (c_Lb_fitsUnder l hl9 D A r _ σ x1 x2 _ e9) (cwV 2 hts (tg_V wl_Ke_74 wm_Lb_fitsUnder we_Lb_fitsUnder wi_Lb wo_Lb_fitsUnder) rfl rfl rfl wq_Lb_fitsUnder ⟨Nat.le_of_ble_eq_true rfl, Nat.le_of_ble_eq_true rfl⟩) (ka_preV X9 hP hD hS 2 rfl rfl) rfl rfl hl.1 rfl (lv_room (Nat.le_of_ble_eq_true rfl)) d_Ke_fits_52 ⟨Nat.le_of_ble_eq_true rfl, Nat.le_of_ble_eq_true rfl⟩) X9 hD hS rfl (fun H locs hP hD hS => ?_)
    obtain ⟨b9, h⟩ := zo_g h
    cases h
    exact W.zret hx hb hr (zo_nar b9) (fun t ht hW => ⟨⟨_, (), rfl, rfl, ka_at ht hP⟩, hS.F ht⟩) hS.2.2 d_Ke_fits_55 hlk
  replace h := zo_f c5 h
  refine lv_aload_n hx hb d_Ke_fits_34 rfl (lv_at hl 0 rfl) ?_
  refine va_get (D := D) (ci := 4) (v := .ref (A 2)) (C := R_Ke) (T := T_Ke) (N := 5) hx hb hts wu_Ke hown hK hP 0 rfl rfl 2 (by decide) (hts _ wf_Ke_23) (fun _ h9 => h9) rfl d_Ke_fits_35 ?_
  refine lv_iload_n hx hb d_Ke_fits_38 rfl (lv_at hl 1 rfl) ?_
  refine lv_iload_n hx hb d_Ke_fits_39 rfl (lv_at hl 2 rfl) ?_
  obtain ⟨v7, e9, h⟩ := zo_b h
  refine ka_i (va_runV (As := [.int x1, .int x2]) (rest := []) S9 (c_Lb_fitsHigh l hl9 D A r _ σ x1 x2 _ e9) (cwV 2 hts (tg_V wl_Ke_70 wm_Lb_fitsHigh we_Lb_fitsHigh wi_Lb wo_Lb_fitsHigh) rfl rfl rfl wq_Lb_fitsHigh ⟨Nat.le_of_ble_eq_true rfl, Nat.le_of_ble_eq_true rfl⟩) (ka_preV X9 hP hD hS 2 rfl rfl) rfl rfl hl.1 rfl (lv_room (Nat.le_of_ble_eq_true rfl)) d_Ke_fits_40 ⟨Nat.le_of_ble_eq_true rfl, Nat.le_of_ble_eq_true rfl⟩) X9 hD hS rfl (fun H locs hP hD hS => ?_)
  refine lv_goto (tgt := 55) hx hb d_Ke_fits_43 (by decide) ?_
  obtain ⟨b9, h⟩ := zo_g h
  cases h
  exact W.zret hx hb hr (zo_nar b9) (fun t ht hW => ⟨⟨_, (), rfl, rfl, ka_at ht hP⟩, hS.F ht⟩) hS.2.2 d_Ke_fits_55 hlk
set_option maxRecDepth 100000 in
set_option maxHeartbeats 4000000 in
theorem c_Ke_fits_err (l : Launch) (hl9 : l.stackTraces = false) (D : va_G) (A : Nat → Nat) (r : va_W) (sz : Nat) (σ : KS) (x1 x2 x3 : Int32) (k9 : Nat) (z : KS) (h : f_Ke_fits σ x1 x2 x3 = some (.error k9, z)) : vx_Met l y_Ke_fits (Cond.code y_Ke_fits b_Ke_fits 4 (some .boolean) :: T0) ({ frames := 7, cells := 1, slots := 6, locals := 101 } : Room) (va_Pc [.ref (A 0), .int x1, .int x2, .int x3] (ka_Wd D A (GW A σ r) sz)) ka_No (ka_Xe D k9 (GW A z r) (va_A (GW A σ r) sz)) 1 6 (va_A (GW A σ r) sz) := by
  unfold f_Ke_fits at h
  refine ka_ofX (own := R_Ke) (fun A9 => ka_Xe D k9 (GW A z r) A9) (by decide) rfl (Nat.le_of_ble_eq_true rfl) ?_
  intro p e s m below meth c A9 ls S9 hr hlk hex X9 hP hD hl
  obtain ⟨hx, hb, hml, hown, hts⟩ := id S9
  have hK := X9.2.1
  have hS : va_S A9 s.heap s.heap [] := va_S.rf
  replace hl : lv_has ls 4 [(0, .ref (A 0)), (1, .int x1), (2, .int x2), (3, .int x3)] := hl
  refine lv_aload_n hx hb d_Ke_fits_0 rfl (lv_at hl 0 rfl) ?_
  refine va_get (D := D) (ci := 4) (v := .ref (A 2)) (C := R_Ke) (T := T_Ke) (N := 5) hx hb hts wu_Ke hown hK hP 0 rfl rfl 2 (by decide) (hts _ wf_Ke_23) (fun _ h9 => h9) rfl d_Ke_fits_1 ?_
  refine lv_iload_n hx hb d_Ke_fits_4 rfl (lv_at hl 1 rfl) ?_
  obtain ⟨v1, e9, h⟩ := zo_b h
  refine ka_i (va_runV (As := [.int x1]) (rest := []) S9 (c_Lb_has l hl9 D A r _ σ x1 _ e9) (cwV 1 hts (tg_V wl_Ke_34 wm_Lb_has we_Lb_has wi_Lb wo_Lb_has) rfl rfl rfl wq_Lb_has ⟨Nat.le_of_ble_eq_true rfl, Nat.le_of_ble_eq_true rfl⟩) (ka_preV X9 hP hD hS 2 rfl rfl) rfl rfl hl.1 rfl (lv_room (Nat.le_of_ble_eq_true rfl)) d_Ke_fits_5 ⟨Nat.le_of_ble_eq_true rfl, Nat.le_of_ble_eq_true rfl⟩) X9 hD hS rfl (fun H locs hP hD hS => ?_)
  refine lv_if_eq (tgt := 26) hx hb d_Ke_fits_8 (by decide) (fun c2 => ?_) (fun c2 => ?_)
  · replace h := zo_t c2 h
    refine lv_iconst (v := 0) hx hb d_Ke_fits_26 (by decide) ?_
    obtain ⟨rfl, rfl⟩ := zo_e h
    exact ka_err (vx_runS (As := [.int 0]) (rest := []) S9 (c_Ke_needNumber_err l hl9 D A (GW A σ r) _ 0 rfl) (cwS 1 hts (tg_S wl_Ke_44 ws_Ke_needNumber wi_Ke wo_Ke_needNumber) rfl rfl rfl wq_Ke_needNumber ⟨Nat.le_of_ble_eq_true rfl, Nat.le_of_ble_eq_true rfl⟩) (ka_preS X9 hP hD hS) rfl rfl hl.1 rfl (lv_room (Nat.le_of_ble_eq_true rfl)) d_Ke_fits_27 ⟨Nat.le_of_ble_eq_true rfl, Nat.le_of_ble_eq_true rfl⟩) hlk hex X9 hD hS (Nat.le_of_ble_eq_true rfl) (Nat.le_of_ble_eq_true rfl)
  replace h := zo_f c2 h
  refine lv_aload_n hx hb d_Ke_fits_11 rfl (lv_at hl 0 rfl) ?_
  refine va_get (D := D) (ci := 4) (v := .ref (A 2)) (C := R_Ke) (T := T_Ke) (N := 5) hx hb hts wu_Ke hown hK hP 0 rfl rfl 2 (by decide) (hts _ wf_Ke_23) (fun _ h9 => h9) rfl d_Ke_fits_12 ?_
  refine lv_iload_n hx hb d_Ke_fits_15 rfl (lv_at hl 2 rfl) ?_
  obtain ⟨v3, e9, h⟩ := zo_b h
  refine ka_i (va_runV (As := [.int x2]) (rest := []) S9 (c_Lb_has l hl9 D A r _ σ x2 _ e9) (cwV 1 hts (tg_V wl_Ke_34 wm_Lb_has we_Lb_has wi_Lb wo_Lb_has) rfl rfl rfl wq_Lb_has ⟨Nat.le_of_ble_eq_true rfl, Nat.le_of_ble_eq_true rfl⟩) (ka_preV X9 hP hD hS 2 rfl rfl) rfl rfl hl.1 rfl (lv_room (Nat.le_of_ble_eq_true rfl)) d_Ke_fits_16 ⟨Nat.le_of_ble_eq_true rfl, Nat.le_of_ble_eq_true rfl⟩) X9 hD hS rfl (fun H locs hP hD hS => ?_)
  refine lv_if_eq (tgt := 26) hx hb d_Ke_fits_19 (by decide) (fun c4 => ?_) (fun c4 => ?_)
  · replace h := zo_t c4 h
    refine lv_iconst (v := 0) hx hb d_Ke_fits_26 (by decide) ?_
    obtain ⟨rfl, rfl⟩ := zo_e h
    exact ka_err (vx_runS (As := [.int 0]) (rest := []) S9 (c_Ke_needNumber_err l hl9 D A (GW A σ r) _ 0 rfl) (cwS 1 hts (tg_S wl_Ke_44 ws_Ke_needNumber wi_Ke wo_Ke_needNumber) rfl rfl rfl wq_Ke_needNumber ⟨Nat.le_of_ble_eq_true rfl, Nat.le_of_ble_eq_true rfl⟩) (ka_preS X9 hP hD hS) rfl rfl hl.1 rfl (lv_room (Nat.le_of_ble_eq_true rfl)) d_Ke_fits_27 ⟨Nat.le_of_ble_eq_true rfl, Nat.le_of_ble_eq_true rfl⟩) hlk hex X9 hD hS (Nat.le_of_ble_eq_true rfl) (Nat.le_of_ble_eq_true rfl)
  replace h := zo_f c4 h
  refine lv_iconst (v := 1) hx hb d_Ke_fits_22 (by decide) ?_
  refine lv_goto (tgt := 27) hx hb d_Ke_fits_23 (by decide) ?_
  refine ka_v (va_runS (As := [.int 1]) (rest := []) S9 (c_Ke_needNumber_ok l hl9 D A (GW A σ r) _ 1 (by decide)) (cwS 1 hts (tg_S wl_Ke_44 ws_Ke_needNumber wi_Ke wo_Ke_needNumber) rfl rfl rfl wq_Ke_needNumber ⟨Nat.le_of_ble_eq_true rfl, Nat.le_of_ble_eq_true rfl⟩) (ka_preS X9 hP hD hS) rfl rfl hl.1 rfl (lv_room (Nat.le_of_ble_eq_true rfl)) d_Ke_fits_27 ⟨Nat.le_of_ble_eq_true rfl, Nat.le_of_ble_eq_true rfl⟩) X9 hD hS rfl (fun H locs hP hD hS => ?_)
  refine lv_iload_n hx hb d_Ke_fits_30 rfl (lv_at hl 3 rfl) ?_
  refine lv_if_eq (tgt := 46) hx hb d_Ke_fits_31 (by decide) (fun c5 => ?_) (fun c5 => ?_)
  · replace h := zo_t c5 h
    refine lv_aload_n hx hb d_Ke_fits_46 rfl (lv_at hl 0 rfl) ?_
    refine va_get (D := D) (ci := 4) (v := .ref (A 2)) (C := R_Ke) (T := T_Ke) (N := 5) hx hb hts wu_Ke hown hK hP 0 rfl rfl 2 (by decide) (hts _ wf_Ke_23) (fun _ h9 => h9) rfl d_Ke_fits_47 ?_
    refine lv_iload_n hx hb d_Ke_fits_50 rfl (lv_at hl 1 rfl) ?_
    refine lv_iload_n hx hb d_Ke_fits_51 rfl (lv_at hl 2 rfl) ?_
    obtain ⟨v6, e9, h⟩ := zo_b h
    refine ka_i (va_runV (As := [.int x1, .int x2]) (rest := []) S9 (c_Lb_fitsUnder l hl9 D A r _ σ x1 x2 _ e9) (cwV 2 hts (tg_V wl_Ke_74 wm_Lb_fitsUnder we_Lb_fitsUnder wi_Lb wo_Lb_fitsUnder) rfl rfl rfl wq_Lb_fitsUnder ⟨Nat.le_of_ble_eq_true rfl, Nat.le_of_ble_eq_true rfl⟩) (ka_preV X9 hP hD hS 2 rfl rfl) rfl rfl hl.1 rfl (lv_room (Nat.le_of_ble_eq_true rfl)) d_Ke_fits_52 ⟨Nat.le_of_ble_eq_true rfl, Nat.le_of_ble_eq_true rfl⟩) X9 hD hS rfl (fun H locs hP hD hS => ?_)
    obtain ⟨b9, h⟩ := zo_g h
    cases h
  replace h := zo_f c5 h
  refine lv_aload_n hx hb d_Ke_fits_34 rfl (lv_at hl 0 rfl) ?_
  refine va_get (D := D) (ci := 4) (v := .ref (A 2)) (C := R_Ke) (T := T_Ke) (N := 5) hx hb hts wu_Ke hown hK hP 0 rfl rfl 2 (by decide) (hts _ wf_Ke_23) (fun _ h9 => h9) rfl d_Ke_fits_35 ?_
  refine lv_iload_n hx hb d_Ke_fits_38 rfl (lv_at hl 1 rfl) ?_
  refine lv_iload_n hx hb d_Ke_fits_39 rfl (lv_at hl 2 rfl) ?_
  obtain ⟨v7, e9, h⟩ := zo_b h
  refine ka_i (va_runV (As := [.int x1, .int x2]) (rest := []) S9 (c_Lb_fitsHigh l hl9 D A r _ σ x1 x2 _ e9) (cwV 2 hts (tg_V wl_Ke_70 wm_Lb_fitsHigh we_Lb_fitsHigh wi_Lb wo_Lb_fitsHigh) rfl rfl rfl wq_Lb_fitsHigh ⟨Nat.le_of_ble_eq_true rfl, Nat.le_of_ble_eq_true rfl⟩) (ka_preV X9 hP hD hS 2 rfl rfl) rfl rfl hl.1 rfl (lv_room (Nat.le_of_ble_eq_true rfl)) d_Ke_fits_40 ⟨Nat.le_of_ble_eq_true rfl, Nat.le_of_ble_eq_true rfl⟩) X9 hD hS rfl (fun H locs hP hD hS => ?_)
  refine lv_goto (tgt := 55) hx hb d_Ke_fits_43 (by decide) ?_
  obtain ⟨b9, h⟩ := zo_g h
  cases h
set_option maxRecDepth 100000 in
set_option maxHeartbeats 4000000 in
theorem c_Ke_needFound_ok (l : Launch) (hl9 : l.stackTraces = false) (D : va_G) (A : Nat → Nat) (w : va_W) (sz : Nat) (x0 : Int32) (h : ¬ x0 = 0) : Met l y_Ke_needFound (Cond.code y_Ke_needFound b_Ke_needFound 1 none :: T0) ({ frames := 0, cells := 0, slots := 0, locals := 0 } : Room) (va_Pc [.int x0] (ka_Wd D A (w) sz)) (ka_Rv D (w) (va_A (w) sz)) 0 0 (va_A (w) sz) := by
  refine ka_of (own := R_Ke) (fun A9 => ka_Rv D (w) A9) (by decide) rfl (Nat.le_of_ble_eq_true rfl) ?_
  intro p e s m below meth c A9 ls S9 hr hlk hex X9 hP hD hl
  obtain ⟨hx, hb, hml, hown, hts⟩ := id S9
  have hK := X9.2.1
  have hS : va_S A9 s.heap s.heap [] := va_S.rf
  replace hl : lv_has ls 1 [(0, .int x0)] := hl
  refine lv_iload_n hx hb d_Ke_needFound_0 rfl (lv_at hl 0 rfl) ?_
  refine lv_if_ne (tgt := 12) hx hb d_Ke_needFound_1 (by decide) (fun c9 => ?_) (fun c9 => ?_)
  · exact W.vret hx hb hr (fun t ht hW => ⟨⟨(), rfl, trivial, ka_at ht hP⟩, hS.F ht⟩) hS.2.2 d_Ke_needFound_12 hlk
  exact absurd c9 h
set_option maxRecDepth 100000 in
set_option maxHeartbeats 4000000 in
theorem c_Ke_needFound_err (l : Launch) (hl9 : l.stackTraces = false) (D : va_G) (A : Nat → Nat) (w : va_W) (sz : Nat) (x0 : Int32) (h : x0 = 0) : vx_Met l y_Ke_needFound (Cond.code y_Ke_needFound b_Ke_needFound 1 none :: T0) ({ frames := 6, cells := 1, slots := 6, locals := 81 } : Room) (va_Pc [.int x0] (ka_Wd D A (w) sz)) ka_No (ka_Xe D 2 (w) (va_A (w) sz)) 1 6 (va_A (w) sz) := by
  refine ka_ofX (own := R_Ke) (fun A9 => ka_Xe D 2 (w) A9) (by decide) rfl (Nat.le_of_ble_eq_true rfl) ?_
  intro p e s m below meth c A9 ls S9 hr hlk hex X9 hP hD hl
  obtain ⟨hx, hb, hml, hown, hts⟩ := id S9
  have hK := X9.2.1
  have hS : va_S A9 s.heap s.heap [] := va_S.rf
  replace hl : lv_has ls 1 [(0, .int x0)] := hl
  refine lv_iload_n hx hb d_Ke_needFound_0 rfl (lv_at hl 0 rfl) ?_
  refine lv_if_ne (tgt := 12) hx hb d_Ke_needFound_1 (by decide) (fun c9 => ?_) (fun c9 => ?_)
  · exact absurd h c9
  exact vx_throw0 hx hb hl9 (own := R_Ke) (cls := "java/util/NoSuchElementException") (names := ["java/lang/RuntimeException", "java/lang/Exception"]) (ik := 271) (ic := 273) hown (by decide) (by decide) (hts _ wc_Ke_271) (hts _ wi_NoSuchElementException) (ka_hat_NoSuchElementException hts X9.2.2.2.2) ka_hg_NoSuchElementException X9.2.2.1 X9.2.2.2.1 hS (hml ▸ hl.1) d_Ke_needFound_4 d_Ke_needFound_7 d_Ke_needFound_8 d_Ke_needFound_11 (fun x hx9 => (hex x hx9).elim) (Nat.le_of_ble_eq_true rfl) (Nat.le_of_ble_eq_true rfl) (Nat.le_of_ble_eq_true rfl) (Nat.le_of_ble_eq_true rfl) hlk (fun t ha hz hk => ⟨(), trivial, ⟨rfl, hP.kept (fun k q hq => hk q.1 (hP k q hq).lt)⟩, hz, fun q h1 _ => hk q h1⟩) (fun z hz => by cases hz) (Nat.le_of_ble_eq_true rfl) (Nat.le_of_ble_eq_true rfl)
def f_Ke_needThread (σ : KS) (x1 : Int32) : Option (Except Nat Unit × KS) := (f_Tg_isThere σ x1).bind fun v1 => if v1 = 0 then some (.error 2, σ) else (f_Tg_isOfKind σ x1 3).bind fun v2 => if v2 = 0 then some (.error 1, σ) else some (.ok (), σ)
set_option maxRecDepth 100000 in
set_option maxHeartbeats 4000000 in
theorem c_Ke_needThread_ok (l : Launch) (hl9 : l.stackTraces = false) (D : va_G) (A : Nat → Nat) (r : va_W) (sz : Nat) (σ : KS) (x1 : Int32) (z9 : Unit) (z : KS) (h : f_Ke_needThread σ x1 = some (.ok z9, z)) : Met l y_Ke_needThread (Cond.code y_Ke_needThread b_Ke_needThread 2 none :: T0) ({ frames := 1, cells := 0, slots := 0, locals := 22 } : Room) (va_Pc [.ref (A 0), .int x1] (ka_Wd D A (GW A σ r) sz)) (ka_Rv D (GW A z r) (va_A (GW A σ r) sz)) 0 0 (va_A (GW A σ r) sz) := by
  unfold f_Ke_needThread at h
  refine ka_of (own := R_Ke) (fun A9 => ka_Rv D (GW A z r) A9) (by decide) rfl (Nat.le_of_ble_eq_true rfl) ?_
  intro p e s m below meth c A9 ls S9 hr hlk hex X9 hP hD hl
  obtain ⟨hx, hb, hml, hown, hts⟩ := id S9
  have hK := X9.2.1
  have hS : va_S A9 s.heap s.heap [] := va_S.rf
  replace hl : lv_has ls 2 [(0, .ref (A 0)), (1, .int x1)] := hl
  refine lv_aload_n hx hb d_Ke_needThread_0 rfl (lv_at hl 0 rfl) ?_
  refine va_get (D := D) (ci := 4) (v := .ref (A 4)) (C := R_Ke) (T := T_Ke) (N := 5) hx hb hts wu_Ke hown hK hP 0 rfl rfl 3 (by decide) (hts _ wf_Ke_28) (fun _ h9 => h9) rfl d_Ke_needThread_1 ?_
  refine lv_iload_n hx hb d_Ke_needThread_4 rfl (lv_at hl 1 rfl) ?_
  obtain ⟨v1, e9, h⟩ := zo_b h
  refine ka_i (va_runV (As := [.int x1]) (rest := []) S9 (c_Tg_isThere l hl9 D A r _ σ x1 _ e9) (cwV 1 hts (tg_V wl_Ke_250 wm_Tg_isThere we_Tg_isThere wi_Tg wo_Tg_isThere) rfl rfl rfl wq_Tg_isThere ⟨Nat.le_of_ble_eq_true rfl, Nat.le_of_ble_eq_true rfl⟩) (ka_preV X9 hP hD hS 4 rfl rfl) rfl rfl hl.1 rfl (lv_room (Nat.le_of_ble_eq_true rfl)) d_Ke_needThread_5 ⟨Nat.le_of_ble_eq_true rfl, Nat.le_of_ble_eq_true rfl⟩) X9 hD hS rfl (fun H locs hP hD hS => ?_)
  rcases zo_n h with ⟨c9, h⟩ | ⟨c9, h⟩
  · cases h
  refine ka_v (va_runS (As := [.int v1]) (rest := []) S9 (c_Ke_needFound_ok l hl9 D A (GW A σ r) _ v1 c9) (cwS 1 hts (tg_S wl_Ke_169 ws_Ke_needFound wi_Ke wo_Ke_needFound) rfl rfl rfl wq_Ke_needFound ⟨Nat.le_of_ble_eq_true rfl, Nat.le_of_ble_eq_true rfl⟩) (ka_preS X9 hP hD hS) rfl rfl hl.1 rfl (lv_room (Nat.le_of_ble_eq_true rfl)) d_Ke_needThread_8 ⟨Nat.le_of_ble_eq_true rfl, Nat.le_of_ble_eq_true rfl⟩) X9 hD hS rfl (fun H locs hP hD hS => ?_)
  refine lv_aload_n hx hb d_Ke_needThread_11 rfl (lv_at hl 0 rfl) ?_
  refine va_get (D := D) (ci := 4) (v := .ref (A 4)) (C := R_Ke) (T := T_Ke) (N := 5) hx hb hts wu_Ke hown hK hP 0 rfl rfl 3 (by decide) (hts _ wf_Ke_28) (fun _ h9 => h9) rfl d_Ke_needThread_12 ?_
  refine lv_iload_n hx hb d_Ke_needThread_15 rfl (lv_at hl 1 rfl) ?_
  refine lv_iconst (v := 3) hx hb d_Ke_needThread_16 (by decide) ?_
  obtain ⟨v2, e9, h⟩ := zo_b h
  refine ka_i (va_runV (As := [.int x1, .int 3]) (rest := []) S9 (c_Tg_isOfKind l hl9 D A r _ σ x1 3 _ e9) (cwV 2 hts (tg_V wl_Ke_163 wm_Tg_isOfKind we_Tg_isOfKind wi_Tg wo_Tg_isOfKind) rfl rfl rfl wq_Tg_isOfKind ⟨Nat.le_of_ble_eq_true rfl, Nat.le_of_ble_eq_true rfl⟩) (ka_preV X9 hP hD hS 4 rfl rfl) rfl rfl hl.1 rfl (lv_room (Nat.le_of_ble_eq_true rfl)) d_Ke_needThread_17 ⟨Nat.le_of_ble_eq_true rfl, Nat.le_of_ble_eq_true rfl⟩) X9 hD hS rfl (fun H locs hP hD hS => ?_)
  rcases zo_n h with ⟨c9, h⟩ | ⟨c9, h⟩
  · cases h
  refine ka_v (va_runS (As := [.int v2]) (rest := []) S9 (c_Ke_needNumber_ok l hl9 D A (GW A σ r) _ v2 c9) (cwS 1 hts (tg_S wl_Ke_44 ws_Ke_needNumber wi_Ke wo_Ke_needNumber) rfl rfl rfl wq_Ke_needNumber ⟨Nat.le_of_ble_eq_true rfl, Nat.le_of_ble_eq_true rfl⟩) (ka_preS X9 hP hD hS) rfl rfl hl.1 rfl (lv_room (Nat.le_of_ble_eq_true rfl)) d_Ke_needThread_20 ⟨Nat.le_of_ble_eq_true rfl, Nat.le_of_ble_eq_true rfl⟩) X9 hD hS rfl (fun H locs hP hD hS => ?_)
  cases h
  exact W.vret hx hb hr (fun t ht hW => ⟨⟨(), rfl, trivial, ka_at ht hP⟩, hS.F ht⟩) hS.2.2 d_Ke_needThread_23 hlk
set_option maxRecDepth 100000 in
set_option maxHeartbeats 4000000 in
theorem c_Ke_needThread_err (l : Launch) (hl9 : l.stackTraces = false) (D : va_G) (A : Nat → Nat) (r : va_W) (sz : Nat) (σ : KS) (x1 : Int32) (k9 : Nat) (z : KS) (h : f_Ke_needThread σ x1 = some (.error k9, z)) : vx_Met l y_Ke_needThread (Cond.code y_Ke_needThread b_Ke_needThread 2 none :: T0) ({ frames := 7, cells := 1, slots := 6, locals := 101 } : Room) (va_Pc [.ref (A 0), .int x1] (ka_Wd D A (GW A σ r) sz)) ka_No (ka_Xe D k9 (GW A z r) (va_A (GW A σ r) sz)) 1 6 (va_A (GW A σ r) sz) := by
  unfold f_Ke_needThread at h
  refine ka_ofX (own := R_Ke) (fun A9 => ka_Xe D k9 (GW A z r) A9) (by decide) rfl (Nat.le_of_ble_eq_true rfl) ?_
  intro p e s m below meth c A9 ls S9 hr hlk hex X9 hP hD hl
  obtain ⟨hx, hb, hml, hown, hts⟩ := id S9
  have hK := X9.2.1
  have hS : va_S A9 s.heap s.heap [] := va_S.rf
  replace hl : lv_has ls 2 [(0, .ref (A 0)), (1, .int x1)] := hl
  refine lv_aload_n hx hb d_Ke_needThread_0 rfl (lv_at hl 0 rfl) ?_
  refine va_get (D := D) (ci := 4) (v := .ref (A 4)) (C := R_Ke) (T := T_Ke) (N := 5) hx hb hts wu_Ke hown hK hP 0 rfl rfl 3 (by decide) (hts _ wf_Ke_28) (fun _ h9 => h9) rfl d_Ke_needThread_1 ?_
  refine lv_iload_n hx hb d_Ke_needThread_4 rfl (lv_at hl 1 rfl) ?_
  obtain ⟨v1, e9, h⟩ := zo_b h
  refine ka_i (va_runV (As := [.int x1]) (rest := []) S9 (c_Tg_isThere l hl9 D A r _ σ x1 _ e9) (cwV 1 hts (tg_V wl_Ke_250 wm_Tg_isThere we_Tg_isThere wi_Tg wo_Tg_isThere) rfl rfl rfl wq_Tg_isThere ⟨Nat.le_of_ble_eq_true rfl, Nat.le_of_ble_eq_true rfl⟩) (ka_preV X9 hP hD hS 4 rfl rfl) rfl rfl hl.1 rfl (lv_room (Nat.le_of_ble_eq_true rfl)) d_Ke_needThread_5 ⟨Nat.le_of_ble_eq_true rfl, Nat.le_of_ble_eq_true rfl⟩) X9 hD hS rfl (fun H locs hP hD hS => ?_)
  rcases zo_n h with ⟨c9, h⟩ | ⟨c9, h⟩
  · obtain ⟨rfl, rfl⟩ := zo_e h
    exact ka_err (vx_runS (As := [.int v1]) (rest := []) S9 (c_Ke_needFound_err l hl9 D A (GW A σ r) _ v1 c9) (cwS 1 hts (tg_S wl_Ke_169 ws_Ke_needFound wi_Ke wo_Ke_needFound) rfl rfl rfl wq_Ke_needFound ⟨Nat.le_of_ble_eq_true rfl, Nat.le_of_ble_eq_true rfl⟩) (ka_preS X9 hP hD hS) rfl rfl hl.1 rfl (lv_room (Nat.le_of_ble_eq_true rfl)) d_Ke_needThread_8 ⟨Nat.le_of_ble_eq_true rfl, Nat.le_of_ble_eq_true rfl⟩) hlk hex X9 hD hS (Nat.le_of_ble_eq_true rfl) (Nat.le_of_ble_eq_true rfl)
  refine ka_v (va_runS (As := [.int v1]) (rest := []) S9 (c_Ke_needFound_ok l hl9 D A (GW A σ r) _ v1 c9) (cwS 1 hts (tg_S wl_Ke_169 ws_Ke_needFound wi_Ke wo_Ke_needFound) rfl rfl rfl wq_Ke_needFound ⟨Nat.le_of_ble_eq_true rfl, Nat.le_of_ble_eq_true rfl⟩) (ka_preS X9 hP hD hS) rfl rfl hl.1 rfl (lv_room (Nat.le_of_ble_eq_true rfl)) d_Ke_needThread_8 ⟨Nat.le_of_ble_eq_true rfl, Nat.le_of_ble_eq_true rfl⟩) X9 hD hS rfl (fun H locs hP hD hS => ?_)
  refine lv_aload_n hx hb d_Ke_needThread_11 rfl (lv_at hl 0 rfl) ?_
  refine va_get (D := D) (ci := 4) (v := .ref (A 4)) (C := R_Ke) (T := T_Ke) (N := 5) hx hb hts wu_Ke hown hK hP 0 rfl rfl 3 (by decide) (hts _ wf_Ke_28) (fun _ h9 => h9) rfl d_Ke_needThread_12 ?_
  refine lv_iload_n hx hb d_Ke_needThread_15 rfl (lv_at hl 1 rfl) ?_
  refine lv_iconst (v := 3) hx hb d_Ke_needThread_16 (by decide) ?_
  obtain ⟨v2, e9, h⟩ := zo_b h
  refine ka_i (va_runV (As := [.int x1, .int 3]) (rest := []) S9 (c_Tg_isOfKind l hl9 D A r _ σ x1 3 _ e9) (cwV 2 hts (tg_V wl_Ke_163 wm_Tg_isOfKind we_Tg_isOfKind wi_Tg wo_Tg_isOfKind) rfl rfl rfl wq_Tg_isOfKind ⟨Nat.le_of_ble_eq_true rfl, Nat.le_of_ble_eq_true rfl⟩) (ka_preV X9 hP hD hS 4 rfl rfl) rfl rfl hl.1 rfl (lv_room (Nat.le_of_ble_eq_true rfl)) d_Ke_needThread_17 ⟨Nat.le_of_ble_eq_true rfl, Nat.le_of_ble_eq_true rfl⟩) X9 hD hS rfl (fun H locs hP hD hS => ?_)
  rcases zo_n h with ⟨c9, h⟩ | ⟨c9, h⟩
  · obtain ⟨rfl, rfl⟩ := zo_e h
    exact ka_err (vx_runS (As := [.int v2]) (rest := []) S9 (c_Ke_needNumber_err l hl9 D A (GW A σ r) _ v2 c9) (cwS 1 hts (tg_S wl_Ke_44 ws_Ke_needNumber wi_Ke wo_Ke_needNumber) rfl rfl rfl wq_Ke_needNumber ⟨Nat.le_of_ble_eq_true rfl, Nat.le_of_ble_eq_true rfl⟩) (ka_preS X9 hP hD hS) rfl rfl hl.1 rfl (lv_room (Nat.le_of_ble_eq_true rfl)) d_Ke_needThread_20 ⟨Nat.le_of_ble_eq_true rfl, Nat.le_of_ble_eq_true rfl⟩) hlk hex X9 hD hS (Nat.le_of_ble_eq_true rfl) (Nat.le_of_ble_eq_true rfl)
  refine ka_v (va_runS (As := [.int v2]) (rest := []) S9 (c_Ke_needNumber_ok l hl9 D A (GW A σ r) _ v2 c9) (cwS 1 hts (tg_S wl_Ke_44 ws_Ke_needNumber wi_Ke wo_Ke_needNumber) rfl rfl rfl wq_Ke_needNumber ⟨Nat.le_of_ble_eq_true rfl, Nat.le_of_ble_eq_true rfl⟩) (ka_preS X9 hP hD hS) rfl rfl hl.1 rfl (lv_room (Nat.le_of_ble_eq_true rfl)) d_Ke_needThread_20 ⟨Nat.le_of_ble_eq_true rfl, Nat.le_of_ble_eq_true rfl⟩) X9 hD hS rfl (fun H locs hP hD hS => ?_)
  cases h
def f_Ke_category (σ : KS) (x1 : Int32) : Option (Except Nat Int32 × KS) := zx (f_Ke_needThread σ x1) fun _ u2 => if 8 ≤ (gN_categories u2) then (some (.error 4, u2)) else ((f_Tg_labelOf u2 x1).bind fun v4 => (f_Lb_changed u2 v4 (gN_categories u2) 4).bind fun v5 => (f_Tg_clearanceOf u2 x1).bind fun v6 => (f_Lb_changed u2 v6 (gN_categories u2) 3).bind fun v7 => (f_Lb_missing u2 v5).bind fun v8 => (f_Lb_missing u2 v7).bind fun v9 => (f_Lb_free u2).bind fun v10 => if v10 < (v8 + v9) then (some (.error 4, u2)) else ((f_Lb_numberOf u2 v5).bind fun v12 => (f_Tg_setLabel v12.2 x1 v12.1).bind fun v13 => (f_Lb_numberOf v13 v7).bind fun v14 => (f_Tg_setClearance v14.2 x1 v14.1).bind fun v15 => zl (sN_categories v15 ((gN_categories u2) + 1)) fun u16 => some (.ok (gN_categories u2), u16)))
set_option maxRecDepth 100000 in
set_option maxHeartbeats 4000000 in
theorem c_Ke_category_ok (l : Launch) (hl9 : l.stackTraces = false) (D : va_G) (A : Nat → Nat) (r : va_W) (sz : Nat) (σ : KS) (x1 : Int32) (z9 : Int32) (z : KS) (h : f_Ke_category σ x1 = some (.ok z9, z)) : Met l y_Ke_category (Cond.code y_Ke_category b_Ke_category 5 (some .int) :: T0) ({ frames := 2, cells := 0, slots := 0, locals := 44 } : Room) (va_Pc [.ref (A 0), .int x1] (ka_Wd D A (GW A σ r) sz)) (ka_Ri D z9 (GW A z r) (va_A (GW A σ r) sz)) 0 0 (va_A (GW A σ r) sz) := by
  unfold f_Ke_category at h
  refine ka_of (own := R_Ke) (fun A9 => ka_Ri D z9 (GW A z r) A9) (by decide) rfl (Nat.le_of_ble_eq_true rfl) ?_
  intro p e s m below meth c A9 ls S9 hr hlk hex X9 hP hD hl
  obtain ⟨hx, hb, hml, hown, hts⟩ := id S9
  have hK := X9.2.1
  have hS : va_S A9 s.heap s.heap [] := va_S.rf
  replace hl : lv_has ls 5 [(0, .ref (A 0)), (1, .int x1)] := hl
  refine lv_aload_n hx hb d_Ke_category_0 rfl (lv_at hl 0 rfl) ?_
  refine lv_iload_n hx hb d_Ke_category_1 rfl (lv_at hl 1 rfl) ?_
  rcases zo_x h with ⟨k9, u2, e9, h⟩ | ⟨v1, u2, e9, h⟩
  · cases h
  refine ka_v (va_runV (As := [.int x1]) (rest := []) S9 (c_Ke_needThread_ok l hl9 D A r _ σ x1 _ _ e9) (cwV 1 hts (tg_V wl_Ke_77 wm_Ke_needThread we_Ke_needThread wi_Ke wo_Ke_needThread) rfl rfl rfl wq_Ke_needThread ⟨Nat.le_of_ble_eq_true rfl, Nat.le_of_ble_eq_true rfl⟩) (ka_preV X9 hP hD hS 0 rfl rfl) rfl rfl hl.1 rfl (lv_room (Nat.le_of_ble_eq_true rfl)) d_Ke_category_2 ⟨Nat.le_of_ble_eq_true rfl, Nat.le_of_ble_eq_true rfl⟩) X9 hD hS rfl (fun H locs hP hD hS => ?_)
  refine lv_aload_n hx hb d_Ke_category_5 rfl (lv_at hl 0 rfl) ?_
  refine va_get (D := D) (ci := 4) (v := .ref (A 1)) (C := R_Ke) (T := T_Ke) (N := 5) hx hb hts wu_Ke hown hK hP 0 rfl rfl 0 (by decide) (hts _ wf_Ke_10) (fun _ h9 => h9) rfl d_Ke_category_6 ?_
  refine va_get (D := D) (ci := 1) (v := .int (gN_categories u2)) (C := R_Sn) (T := T_Sn) (N := 4) hx hb hts wu_Sn hown hK hP 1 rfl rfl 3 (by decide) (hts _ wf_Ke_81) (fun _ h9 => h9) rfl d_Ke_category_9 ?_
  refine lv_bipush (v := 8) hx hb d_Ke_category_12 (by decide) ?_
  refine lv_icmp_ge (tgt := 21) hx hb d_Ke_category_14 (by decide) (fun c3 => ?_) (fun c3 => ?_)
  · replace h := zo_t c3 h
    refine lv_iconst (v := 0) hx hb d_Ke_category_21 (by decide) ?_
    cases h
  replace h := zo_f c3 h
  refine lv_iconst (v := 1) hx hb d_Ke_category_17 (by decide) ?_
  refine lv_goto (tgt := 22) hx hb d_Ke_category_18 (by decide) ?_
  refine ka_v (va_runS (As := [.int 1]) (rest := []) S9 (c_Ke_needRoom_ok l hl9 D A (GW A u2 r) _ 1 (by decide)) (cwS 1 hts (tg_S wl_Ke_60 ws_Ke_needRoom wi_Ke wo_Ke_needRoom) rfl rfl rfl wq_Ke_needRoom ⟨Nat.le_of_ble_eq_true rfl, Nat.le_of_ble_eq_true rfl⟩) (ka_preS X9 hP hD hS) rfl rfl hl.1 rfl (lv_room (Nat.le_of_ble_eq_true rfl)) d_Ke_category_22 ⟨Nat.le_of_ble_eq_true rfl, Nat.le_of_ble_eq_true rfl⟩) X9 hD hS rfl (fun H locs hP hD hS => ?_)
  refine lv_aload_n hx hb d_Ke_category_25 rfl (lv_at hl 0 rfl) ?_
  refine va_get (D := D) (ci := 4) (v := .ref (A 1)) (C := R_Ke) (T := T_Ke) (N := 5) hx hb hts wu_Ke hown hK hP 0 rfl rfl 0 (by decide) (hts _ wf_Ke_10) (fun _ h9 => h9) rfl d_Ke_category_26 ?_
  refine va_get (D := D) (ci := 1) (v := .int (gN_categories u2)) (C := R_Sn) (T := T_Sn) (N := 4) hx hb hts wu_Sn hown hK hP 1 rfl rfl 3 (by decide) (hts _ wf_Ke_81) (fun _ h9 => h9) rfl d_Ke_category_29 ?_
  refine lv_istore_n (lv' := [(2, .int (gN_categories u2)), (0, .ref (A 0)), (1, .int x1)]) hx hb d_Ke_category_32 rfl hl (by decide) rfl (fun ls hl => ?_)
  refine lv_aload_n hx hb d_Ke_category_33 rfl (lv_at hl 1 rfl) ?_
  refine va_get (D := D) (ci := 4) (v := .ref (A 2)) (C := R_Ke) (T := T_Ke) (N := 5) hx hb hts wu_Ke hown hK hP 0 rfl rfl 2 (by decide) (hts _ wf_Ke_23) (fun _ h9 => h9) rfl d_Ke_category_34 ?_
  refine lv_aload_n hx hb d_Ke_category_37 rfl (lv_at hl 1 rfl) ?_
  refine va_get (D := D) (ci := 4) (v := .ref (A 4)) (C := R_Ke) (T := T_Ke) (N := 5) hx hb hts wu_Ke hown hK hP 0 rfl rfl 3 (by decide) (hts _ wf_Ke_28) (fun _ h9 => h9) rfl d_Ke_category_38 ?_
  refine lv_iload_n hx hb d_Ke_category_41 rfl (lv_at hl 2 rfl) ?_
  obtain ⟨v4, e9, h⟩ := zo_b h
  refine ka_i (va_runV (As := [.int x1]) (rest := [.ref (A 2)]) S9 (c_Tg_labelOf l hl9 D A r _ u2 x1 _ e9) (cwV 1 hts (tg_V wl_Ke_85 wm_Tg_labelOf we_Tg_labelOf wi_Tg wo_Tg_labelOf) rfl rfl rfl wq_Tg_labelOf ⟨Nat.le_of_ble_eq_true rfl, Nat.le_of_ble_eq_true rfl⟩) (ka_preV X9 hP hD hS 4 rfl rfl) rfl rfl hl.1 rfl (lv_room (Nat.le_of_ble_eq_true rfl)) d_Ke_category_42 ⟨Nat.le_of_ble_eq_true rfl, Nat.le_of_ble_eq_true rfl⟩) X9 hD hS rfl (fun H locs hP hD hS => ?_)
  refine lv_iload_n hx hb d_Ke_category_45 rfl (lv_at hl 0 rfl) ?_
  refine lv_iconst (v := 4) hx hb d_Ke_category_46 (by decide) ?_
  obtain ⟨v5, e9, h⟩ := zo_b h
  refine ka_i (va_runV (As := [.int v4, .int (gN_categories u2), .int 4]) (rest := []) S9 (c_Lb_changed l hl9 D A r _ u2 v4 (gN_categories u2) 4 _ e9) (cwV 3 hts (tg_V wl_Ke_48 wm_Lb_changed we_Lb_changed wi_Lb wo_Lb_changed) rfl rfl rfl wq_Lb_changed ⟨Nat.le_of_ble_eq_true rfl, Nat.le_of_ble_eq_true rfl⟩) (ka_preV X9 hP hD hS 2 rfl rfl) rfl rfl hl.1 rfl (lv_room (Nat.le_of_ble_eq_true rfl)) d_Ke_category_47 ⟨Nat.le_of_ble_eq_true rfl, Nat.le_of_ble_eq_true rfl⟩) X9 hD hS rfl (fun H locs hP hD hS => ?_)
  refine lv_istore_n (lv' := [(3, .int v5), (2, .int (gN_categories u2)), (0, .ref (A 0)), (1, .int x1)]) hx hb d_Ke_category_50 rfl hl (by decide) rfl (fun ls hl => ?_)
  refine lv_aload_n hx hb d_Ke_category_51 rfl (lv_at hl 2 rfl) ?_
  refine va_get (D := D) (ci := 4) (v := .ref (A 2)) (C := R_Ke) (T := T_Ke) (N := 5) hx hb hts wu_Ke hown hK hP 0 rfl rfl 2 (by decide) (hts _ wf_Ke_23) (fun _ h9 => h9) rfl d_Ke_category_52 ?_
  refine lv_aload_n hx hb d_Ke_category_55 rfl (lv_at hl 2 rfl) ?_
  refine va_get (D := D) (ci := 4) (v := .ref (A 4)) (C := R_Ke) (T := T_Ke) (N := 5) hx hb hts wu_Ke hown hK hP 0 rfl rfl 3 (by decide) (hts _ wf_Ke_28) (fun _ h9 => h9) rfl d_Ke_category_56 ?_
  refine lv_iload_n hx hb d_Ke_category_59 rfl (lv_at hl 3 rfl) ?_
  obtain ⟨v6, e9, h⟩ := zo_b h
  refine ka_i (va_runV (As := [.int x1]) (rest := [.ref (A 2)]) S9 (c_Tg_clearanceOf l hl9 D A r _ u2 x1 _ e9) (cwV 1 hts (tg_V wl_Ke_90 wm_Tg_clearanceOf we_Tg_clearanceOf wi_Tg wo_Tg_clearanceOf) rfl rfl rfl wq_Tg_clearanceOf ⟨Nat.le_of_ble_eq_true rfl, Nat.le_of_ble_eq_true rfl⟩) (ka_preV X9 hP hD hS 4 rfl rfl) rfl rfl hl.1 rfl (lv_room (Nat.le_of_ble_eq_true rfl)) d_Ke_category_60 ⟨Nat.le_of_ble_eq_true rfl, Nat.le_of_ble_eq_true rfl⟩) X9 hD hS rfl (fun H locs hP hD hS => ?_)
  refine lv_iload_n hx hb d_Ke_category_63 rfl (lv_at hl 1 rfl) ?_
  refine lv_iconst (v := 3) hx hb d_Ke_category_64 (by decide) ?_
  obtain ⟨v7, e9, h⟩ := zo_b h
  refine ka_i (va_runV (As := [.int v6, .int (gN_categories u2), .int 3]) (rest := []) S9 (c_Lb_changed l hl9 D A r _ u2 v6 (gN_categories u2) 3 _ e9) (cwV 3 hts (tg_V wl_Ke_48 wm_Lb_changed we_Lb_changed wi_Lb wo_Lb_changed) rfl rfl rfl wq_Lb_changed ⟨Nat.le_of_ble_eq_true rfl, Nat.le_of_ble_eq_true rfl⟩) (ka_preV X9 hP hD hS 2 rfl rfl) rfl rfl hl.1 rfl (lv_room (Nat.le_of_ble_eq_true rfl)) d_Ke_category_65 ⟨Nat.le_of_ble_eq_true rfl, Nat.le_of_ble_eq_true rfl⟩) X9 hD hS rfl (fun H locs hP hD hS => ?_)
  refine lv_istore (lv' := [(4, .int v7), (3, .int v5), (2, .int (gN_categories u2)), (0, .ref (A 0)), (1, .int x1)]) hx hb d_Ke_category_68 hl (by decide) rfl (fun ls hl => ?_)
  refine lv_aload_n hx hb d_Ke_category_70 rfl (lv_at hl 3 rfl) ?_
  refine va_get (D := D) (ci := 4) (v := .ref (A 2)) (C := R_Ke) (T := T_Ke) (N := 5) hx hb hts wu_Ke hown hK hP 0 rfl rfl 2 (by decide) (hts _ wf_Ke_23) (fun _ h9 => h9) rfl d_Ke_category_71 ?_
  refine lv_iload_n hx hb d_Ke_category_74 rfl (lv_at hl 1 rfl) ?_
  obtain ⟨v8, e9, h⟩ := zo_b h
  refine ka_i (va_runV (As := [.int v5]) (rest := []) S9 (c_Lb_missing l hl9 D A r _ u2 v5 _ e9) (cwV 1 hts (tg_V wl_Ke_52 wm_Lb_missing we_Lb_missing wi_Lb wo_Lb_missing) rfl rfl rfl wq_Lb_missing ⟨Nat.le_of_ble_eq_true rfl, Nat.le_of_ble_eq_true rfl⟩) (ka_preV X9 hP hD hS 2 rfl rfl) rfl rfl hl.1 rfl (lv_room (Nat.le_of_ble_eq_true rfl)) d_Ke_category_75 ⟨Nat.le_of_ble_eq_true rfl, Nat.le_of_ble_eq_true rfl⟩) X9 hD hS rfl (fun H locs hP hD hS => ?_)
  refine lv_aload_n hx hb d_Ke_category_78 rfl (lv_at hl 3 rfl) ?_
  refine va_get (D := D) (ci := 4) (v := .ref (A 2)) (C := R_Ke) (T := T_Ke) (N := 5) hx hb hts wu_Ke hown hK hP 0 rfl rfl 2 (by decide) (hts _ wf_Ke_23) (fun _ h9 => h9) rfl d_Ke_category_79 ?_
  refine lv_iload hx hb d_Ke_category_82 (lv_at hl 0 rfl) ?_
  obtain ⟨v9, e9, h⟩ := zo_b h
  refine ka_i (va_runV (As := [.int v7]) (rest := [.int v8]) S9 (c_Lb_missing l hl9 D A r _ u2 v7 _ e9) (cwV 1 hts (tg_V wl_Ke_52 wm_Lb_missing we_Lb_missing wi_Lb wo_Lb_missing) rfl rfl rfl wq_Lb_missing ⟨Nat.le_of_ble_eq_true rfl, Nat.le_of_ble_eq_true rfl⟩) (ka_preV X9 hP hD hS 2 rfl rfl) rfl rfl hl.1 rfl (lv_room (Nat.le_of_ble_eq_true rfl)) d_Ke_category_84 ⟨Nat.le_of_ble_eq_true rfl, Nat.le_of_ble_eq_true rfl⟩) X9 hD hS rfl (fun H locs hP hD hS => ?_)
  refine lv_iadd hx hb d_Ke_category_87 ?_
  refine lv_aload_n hx hb d_Ke_category_88 rfl (lv_at hl 3 rfl) ?_
  refine va_get (D := D) (ci := 4) (v := .ref (A 2)) (C := R_Ke) (T := T_Ke) (N := 5) hx hb hts wu_Ke hown hK hP 0 rfl rfl 2 (by decide) (hts _ wf_Ke_23) (fun _ h9 => h9) rfl d_Ke_category_89 ?_
  obtain ⟨v10, e9, h⟩ := zo_b h
  refine ka_i (va_runV (As := []) (rest := [.int (v8 + v9)]) S9 (c_Lb_free l hl9 D A r _ u2 _ e9) (cwV 0 hts (tg_V wl_Ke_56 wm_Lb_free we_Lb_free wi_Lb wo_Lb_free) rfl rfl rfl wq_Lb_free ⟨Nat.le_of_ble_eq_true rfl, Nat.le_of_ble_eq_true rfl⟩) (ka_preV X9 hP hD hS 2 rfl rfl) rfl rfl hl.1 rfl (lv_room (Nat.le_of_ble_eq_true rfl)) d_Ke_category_92 ⟨Nat.le_of_ble_eq_true rfl, Nat.le_of_ble_eq_true rfl⟩) X9 hD hS rfl (fun H locs hP hD hS => ?_)
  refine lv_icmp_gt (tgt := 102) hx hb d_Ke_category_95 (by decide) (fun c11 => ?_) (fun c11 => ?_)
  · replace h := zo_t c11 h
    refine lv_iconst (v := 0) hx hb d_Ke_category_102 (by decide) ?_
    cases h
  replace h := zo_f c11 h
  refine lv_iconst (v := 1) hx hb d_Ke_category_98 (by decide) ?_
  refine lv_goto (tgt := 103) hx hb d_Ke_category_99 (by decide) ?_
  refine ka_v (va_runS (As := [.int 1]) (rest := []) S9 (c_Ke_needRoom_ok l hl9 D A (GW A u2 r) _ 1 (by decide)) (cwS 1 hts (tg_S wl_Ke_60 ws_Ke_needRoom wi_Ke wo_Ke_needRoom) rfl rfl rfl wq_Ke_needRoom ⟨Nat.le_of_ble_eq_true rfl, Nat.le_of_ble_eq_true rfl⟩) (ka_preS X9 hP hD hS) rfl rfl hl.1 rfl (lv_room (Nat.le_of_ble_eq_true rfl)) d_Ke_category_103 ⟨Nat.le_of_ble_eq_true rfl, Nat.le_of_ble_eq_true rfl⟩) X9 hD hS rfl (fun H locs hP hD hS => ?_)
  refine lv_aload_n hx hb d_Ke_category_106 rfl (lv_at hl 3 rfl) ?_
  refine va_get (D := D) (ci := 4) (v := .ref (A 4)) (C := R_Ke) (T := T_Ke) (N := 5) hx hb hts wu_Ke hown hK hP 0 rfl rfl 3 (by decide) (hts _ wf_Ke_28) (fun _ h9 => h9) rfl d_Ke_category_107 ?_
  refine lv_iload_n hx hb d_Ke_category_110 rfl (lv_at hl 4 rfl) ?_
  refine lv_aload_n hx hb d_Ke_category_111 rfl (lv_at hl 3 rfl) ?_
  refine va_get (D := D) (ci := 4) (v := .ref (A 2)) (C := R_Ke) (T := T_Ke) (N := 5) hx hb hts wu_Ke hown hK hP 0 rfl rfl 2 (by decide) (hts _ wf_Ke_23) (fun _ h9 => h9) rfl d_Ke_category_112 ?_
  refine lv_iload_n hx hb d_Ke_category_115 rfl (lv_at hl 1 rfl) ?_
  obtain ⟨v12, e9, h⟩ := zo_b h
  refine ka_i (va_runV (As := [.int v5]) (rest := [.int x1, .ref (A 4)]) S9 (c_Lb_numberOf l hl9 D A r _ u2 v5 _ e9) (cwV 1 hts (tg_V wl_Ke_63 wm_Lb_numberOf we_Lb_numberOf wi_Lb wo_Lb_numberOf) rfl rfl rfl wq_Lb_numberOf ⟨Nat.le_of_ble_eq_true rfl, Nat.le_of_ble_eq_true rfl⟩) (ka_preV X9 hP hD hS 2 rfl rfl) rfl rfl hl.1 rfl (lv_room (Nat.le_of_ble_eq_true rfl)) d_Ke_category_116 ⟨Nat.le_of_ble_eq_true rfl, Nat.le_of_ble_eq_true rfl⟩) X9 hD hS rfl (fun H locs hP hD hS => ?_)
  obtain ⟨v13, e9, h⟩ := zo_b h
  refine ka_v (va_runV (As := [.int x1, .int v12.1]) (rest := []) S9 (c_Tg_setLabel l hl9 D A r _ v12.2 x1 v12.1 _ e9) (cwV 2 hts (tg_V wl_Ke_93 wm_Tg_setLabel we_Tg_setLabel wi_Tg wo_Tg_setLabel) rfl rfl rfl wq_Tg_setLabel ⟨Nat.le_of_ble_eq_true rfl, Nat.le_of_ble_eq_true rfl⟩) (ka_preV X9 hP hD hS 4 rfl rfl) rfl rfl hl.1 rfl (lv_room (Nat.le_of_ble_eq_true rfl)) d_Ke_category_119 ⟨Nat.le_of_ble_eq_true rfl, Nat.le_of_ble_eq_true rfl⟩) X9 hD hS rfl (fun H locs hP hD hS => ?_)
  refine lv_aload_n hx hb d_Ke_category_122 rfl (lv_at hl 3 rfl) ?_
  refine va_get (D := D) (ci := 4) (v := .ref (A 4)) (C := R_Ke) (T := T_Ke) (N := 5) hx hb hts wu_Ke hown hK hP 0 rfl rfl 3 (by decide) (hts _ wf_Ke_28) (fun _ h9 => h9) rfl d_Ke_category_123 ?_
  refine lv_iload_n hx hb d_Ke_category_126 rfl (lv_at hl 4 rfl) ?_
  refine lv_aload_n hx hb d_Ke_category_127 rfl (lv_at hl 3 rfl) ?_
  refine va_get (D := D) (ci := 4) (v := .ref (A 2)) (C := R_Ke) (T := T_Ke) (N := 5) hx hb hts wu_Ke hown hK hP 0 rfl rfl 2 (by decide) (hts _ wf_Ke_23) (fun _ h9 => h9) rfl d_Ke_category_128 ?_
  refine lv_iload hx hb d_Ke_category_131 (lv_at hl 0 rfl) ?_
  obtain ⟨v14, e9, h⟩ := zo_b h
  refine ka_i (va_runV (As := [.int v7]) (rest := [.int x1, .ref (A 4)]) S9 (c_Lb_numberOf l hl9 D A r _ v13 v7 _ e9) (cwV 1 hts (tg_V wl_Ke_63 wm_Lb_numberOf we_Lb_numberOf wi_Lb wo_Lb_numberOf) rfl rfl rfl wq_Lb_numberOf ⟨Nat.le_of_ble_eq_true rfl, Nat.le_of_ble_eq_true rfl⟩) (ka_preV X9 hP hD hS 2 rfl rfl) rfl rfl hl.1 rfl (lv_room (Nat.le_of_ble_eq_true rfl)) d_Ke_category_133 ⟨Nat.le_of_ble_eq_true rfl, Nat.le_of_ble_eq_true rfl⟩) X9 hD hS rfl (fun H locs hP hD hS => ?_)
  obtain ⟨v15, e9, h⟩ := zo_b h
  refine ka_v (va_runV (As := [.int x1, .int v14.1]) (rest := []) S9 (c_Tg_setClearance l hl9 D A r _ v14.2 x1 v14.1 _ e9) (cwV 2 hts (tg_V wl_Ke_97 wm_Tg_setClearance we_Tg_setClearance wi_Tg wo_Tg_setClearance) rfl rfl rfl wq_Tg_setClearance ⟨Nat.le_of_ble_eq_true rfl, Nat.le_of_ble_eq_true rfl⟩) (ka_preV X9 hP hD hS 4 rfl rfl) rfl rfl hl.1 rfl (lv_room (Nat.le_of_ble_eq_true rfl)) d_Ke_category_136 ⟨Nat.le_of_ble_eq_true rfl, Nat.le_of_ble_eq_true rfl⟩) X9 hD hS rfl (fun H locs hP hD hS => ?_)
  refine lv_aload_n hx hb d_Ke_category_139 rfl (lv_at hl 3 rfl) ?_
  refine va_get (D := D) (ci := 4) (v := .ref (A 1)) (C := R_Ke) (T := T_Ke) (N := 5) hx hb hts wu_Ke hown hK hP 0 rfl rfl 0 (by decide) (hts _ wf_Ke_10) (fun _ h9 => h9) rfl d_Ke_category_140 ?_
  refine lv_iload_n hx hb d_Ke_category_143 rfl (lv_at hl 2 rfl) ?_
  refine lv_iconst (v := 1) hx hb d_Ke_category_144 (by decide) ?_
  refine lv_iadd hx hb d_Ke_category_145 ?_
  obtain ⟨u16, hu9, h⟩ := zo_l h
  refine va_put (D := D) (ci := 1) (v := .int ((gN_categories u2) + 1)) (ty := .int) (C := R_Sn) (T := T_Sn) (N := 4) hx hb hts wu_Sn ft_Sn fk_Sn nm_Sn hown hK hP hD hS 1 rfl rfl 3 (by decide) (hts _ wf_Ke_81) (fun _ h9 => h9) rfl (by decide +kernel) rfl rfl (Nat.le_of_ble_eq_true rfl) d_Ke_category_146 (fun H locs hP hD hS => ?_)
  replace hP : va_P D vwCl (GW A u16 r) H := by rw [hu9]; exact hP
  replace hD : va_D A9 (GW A u16 r) := by rw [hu9]; exact hD
  refine lv_iload_n hx hb d_Ke_category_149 rfl (lv_at hl 2 rfl) ?_
  cases h
  exact W.iret hx hb hr (fun t ht hW => ⟨⟨_, (), rfl, rfl, ka_at ht hP⟩, hS.F ht⟩) hS.2.2 d_Ke_category_150 hlk
set_option maxRecDepth 100000 in
set_option maxHeartbeats 4000000 in
theorem c_Ke_category_err (l : Launch) (hl9 : l.stackTraces = false) (D : va_G) (A : Nat → Nat) (r : va_W) (sz : Nat) (σ : KS) (x1 : Int32) (k9 : Nat) (z : KS) (h : f_Ke_category σ x1 = some (.error k9, z)) : vx_Met l y_Ke_category (Cond.code y_Ke_category b_Ke_category 5 (some .int) :: T0) ({ frames := 8, cells := 1, slots := 6, locals := 122 } : Room) (va_Pc [.ref (A 0), .int x1] (ka_Wd D A (GW A σ r) sz)) ka_No (ka_Xe D k9 (GW A z r) (va_A (GW A σ r) sz)) 1 6 (va_A (GW A σ r) sz) := by
  unfold f_Ke_category at h
  refine ka_ofX (own := R_Ke) (fun A9 => ka_Xe D k9 (GW A z r) A9) (by decide) rfl (Nat.le_of_ble_eq_true rfl) ?_
  intro p e s m below meth c A9 ls S9 hr hlk hex X9 hP hD hl
  obtain ⟨hx, hb, hml, hown, hts⟩ := id S9
  have hK := X9.2.1
  have hS : va_S A9 s.heap s.heap [] := va_S.rf
  replace hl : lv_has ls 5 [(0, .ref (A 0)), (1, .int x1)] := hl
  refine lv_aload_n hx hb d_Ke_category_0 rfl (lv_at hl 0 rfl) ?_
  refine lv_iload_n hx hb d_Ke_category_1 rfl (lv_at hl 1 rfl) ?_
  rcases zo_x h with ⟨k9, u2, e9, h⟩ | ⟨v1, u2, e9, h⟩
  · cases h
    exact ka_err (vx_runV (As := [.int x1]) (rest := []) S9 (c_Ke_needThread_err l hl9 D A r _ σ x1 _ _ e9) (cwV 1 hts (tg_V wl_Ke_77 wm_Ke_needThread we_Ke_needThread wi_Ke wo_Ke_needThread) rfl rfl rfl wq_Ke_needThread ⟨Nat.le_of_ble_eq_true rfl, Nat.le_of_ble_eq_true rfl⟩) (ka_preV X9 hP hD hS 0 rfl rfl) rfl rfl hl.1 rfl (lv_room (Nat.le_of_ble_eq_true rfl)) d_Ke_category_2 ⟨Nat.le_of_ble_eq_true rfl, Nat.le_of_ble_eq_true rfl⟩) hlk hex X9 hD hS (Nat.le_of_ble_eq_true rfl) (Nat.le_of_ble_eq_true rfl)
  refine ka_v (va_runV (As := [.int x1]) (rest := []) S9 (c_Ke_needThread_ok l hl9 D A r _ σ x1 _ _ e9) (cwV 1 hts (tg_V wl_Ke_77 wm_Ke_needThread we_Ke_needThread wi_Ke wo_Ke_needThread) rfl rfl rfl wq_Ke_needThread ⟨Nat.le_of_ble_eq_true rfl, Nat.le_of_ble_eq_true rfl⟩) (ka_preV X9 hP hD hS 0 rfl rfl) rfl rfl hl.1 rfl (lv_room (Nat.le_of_ble_eq_true rfl)) d_Ke_category_2 ⟨Nat.le_of_ble_eq_true rfl, Nat.le_of_ble_eq_true rfl⟩) X9 hD hS rfl (fun H locs hP hD hS => ?_)
  refine lv_aload_n hx hb d_Ke_category_5 rfl (lv_at hl 0 rfl) ?_
  refine va_get (D := D) (ci := 4) (v := .ref (A 1)) (C := R_Ke) (T := T_Ke) (N := 5) hx hb hts wu_Ke hown hK hP 0 rfl rfl 0 (by decide) (hts _ wf_Ke_10) (fun _ h9 => h9) rfl d_Ke_category_6 ?_
  refine va_get (D := D) (ci := 1) (v := .int (gN_categories u2)) (C := R_Sn) (T := T_Sn) (N := 4) hx hb hts wu_Sn hown hK hP 1 rfl rfl 3 (by decide) (hts _ wf_Ke_81) (fun _ h9 => h9) rfl d_Ke_category_9 ?_
  refine lv_bipush (v := 8) hx hb d_Ke_category_12 (by decide) ?_
  refine lv_icmp_ge (tgt := 21) hx hb d_Ke_category_14 (by decide) (fun c3 => ?_) (fun c3 => ?_)
  · replace h := zo_t c3 h
    refine lv_iconst (v := 0) hx hb d_Ke_category_21 (by decide) ?_
    obtain ⟨rfl, rfl⟩ := zo_e h
    exact ka_err (vx_runS (As := [.int 0]) (rest := []) S9 (c_Ke_needRoom_err l hl9 D A (GW A u2 r) _ 0 rfl) (cwS 1 hts (tg_S wl_Ke_60 ws_Ke_needRoom wi_Ke wo_Ke_needRoom) rfl rfl rfl wq_Ke_needRoom ⟨Nat.le_of_ble_eq_true rfl, Nat.le_of_ble_eq_true rfl⟩) (ka_preS X9 hP hD hS) rfl rfl hl.1 rfl (lv_room (Nat.le_of_ble_eq_true rfl)) d_Ke_category_22 ⟨Nat.le_of_ble_eq_true rfl, Nat.le_of_ble_eq_true rfl⟩) hlk hex X9 hD hS (Nat.le_of_ble_eq_true rfl) (Nat.le_of_ble_eq_true rfl)
  replace h := zo_f c3 h
  refine lv_iconst (v := 1) hx hb d_Ke_category_17 (by decide) ?_
  refine lv_goto (tgt := 22) hx hb d_Ke_category_18 (by decide) ?_
  refine ka_v (va_runS (As := [.int 1]) (rest := []) S9 (c_Ke_needRoom_ok l hl9 D A (GW A u2 r) _ 1 (by decide)) (cwS 1 hts (tg_S wl_Ke_60 ws_Ke_needRoom wi_Ke wo_Ke_needRoom) rfl rfl rfl wq_Ke_needRoom ⟨Nat.le_of_ble_eq_true rfl, Nat.le_of_ble_eq_true rfl⟩) (ka_preS X9 hP hD hS) rfl rfl hl.1 rfl (lv_room (Nat.le_of_ble_eq_true rfl)) d_Ke_category_22 ⟨Nat.le_of_ble_eq_true rfl, Nat.le_of_ble_eq_true rfl⟩) X9 hD hS rfl (fun H locs hP hD hS => ?_)
  refine lv_aload_n hx hb d_Ke_category_25 rfl (lv_at hl 0 rfl) ?_
  refine va_get (D := D) (ci := 4) (v := .ref (A 1)) (C := R_Ke) (T := T_Ke) (N := 5) hx hb hts wu_Ke hown hK hP 0 rfl rfl 0 (by decide) (hts _ wf_Ke_10) (fun _ h9 => h9) rfl d_Ke_category_26 ?_
  refine va_get (D := D) (ci := 1) (v := .int (gN_categories u2)) (C := R_Sn) (T := T_Sn) (N := 4) hx hb hts wu_Sn hown hK hP 1 rfl rfl 3 (by decide) (hts _ wf_Ke_81) (fun _ h9 => h9) rfl d_Ke_category_29 ?_
  refine lv_istore_n (lv' := [(2, .int (gN_categories u2)), (0, .ref (A 0)), (1, .int x1)]) hx hb d_Ke_category_32 rfl hl (by decide) rfl (fun ls hl => ?_)
  refine lv_aload_n hx hb d_Ke_category_33 rfl (lv_at hl 1 rfl) ?_
  refine va_get (D := D) (ci := 4) (v := .ref (A 2)) (C := R_Ke) (T := T_Ke) (N := 5) hx hb hts wu_Ke hown hK hP 0 rfl rfl 2 (by decide) (hts _ wf_Ke_23) (fun _ h9 => h9) rfl d_Ke_category_34 ?_
  refine lv_aload_n hx hb d_Ke_category_37 rfl (lv_at hl 1 rfl) ?_
  refine va_get (D := D) (ci := 4) (v := .ref (A 4)) (C := R_Ke) (T := T_Ke) (N := 5) hx hb hts wu_Ke hown hK hP 0 rfl rfl 3 (by decide) (hts _ wf_Ke_28) (fun _ h9 => h9) rfl d_Ke_category_38 ?_
  refine lv_iload_n hx hb d_Ke_category_41 rfl (lv_at hl 2 rfl) ?_
  obtain ⟨v4, e9, h⟩ := zo_b h
  refine ka_i (va_runV (As := [.int x1]) (rest := [.ref (A 2)]) S9 (c_Tg_labelOf l hl9 D A r _ u2 x1 _ e9) (cwV 1 hts (tg_V wl_Ke_85 wm_Tg_labelOf we_Tg_labelOf wi_Tg wo_Tg_labelOf) rfl rfl rfl wq_Tg_labelOf ⟨Nat.le_of_ble_eq_true rfl, Nat.le_of_ble_eq_true rfl⟩) (ka_preV X9 hP hD hS 4 rfl rfl) rfl rfl hl.1 rfl (lv_room (Nat.le_of_ble_eq_true rfl)) d_Ke_category_42 ⟨Nat.le_of_ble_eq_true rfl, Nat.le_of_ble_eq_true rfl⟩) X9 hD hS rfl (fun H locs hP hD hS => ?_)
  refine lv_iload_n hx hb d_Ke_category_45 rfl (lv_at hl 0 rfl) ?_
  refine lv_iconst (v := 4) hx hb d_Ke_category_46 (by decide) ?_
  obtain ⟨v5, e9, h⟩ := zo_b h
  refine ka_i (va_runV (As := [.int v4, .int (gN_categories u2), .int 4]) (rest := []) S9 (c_Lb_changed l hl9 D A r _ u2 v4 (gN_categories u2) 4 _ e9) (cwV 3 hts (tg_V wl_Ke_48 wm_Lb_changed we_Lb_changed wi_Lb wo_Lb_changed) rfl rfl rfl wq_Lb_changed ⟨Nat.le_of_ble_eq_true rfl, Nat.le_of_ble_eq_true rfl⟩) (ka_preV X9 hP hD hS 2 rfl rfl) rfl rfl hl.1 rfl (lv_room (Nat.le_of_ble_eq_true rfl)) d_Ke_category_47 ⟨Nat.le_of_ble_eq_true rfl, Nat.le_of_ble_eq_true rfl⟩) X9 hD hS rfl (fun H locs hP hD hS => ?_)
  refine lv_istore_n (lv' := [(3, .int v5), (2, .int (gN_categories u2)), (0, .ref (A 0)), (1, .int x1)]) hx hb d_Ke_category_50 rfl hl (by decide) rfl (fun ls hl => ?_)
  refine lv_aload_n hx hb d_Ke_category_51 rfl (lv_at hl 2 rfl) ?_
  refine va_get (D := D) (ci := 4) (v := .ref (A 2)) (C := R_Ke) (T := T_Ke) (N := 5) hx hb hts wu_Ke hown hK hP 0 rfl rfl 2 (by decide) (hts _ wf_Ke_23) (fun _ h9 => h9) rfl d_Ke_category_52 ?_
  refine lv_aload_n hx hb d_Ke_category_55 rfl (lv_at hl 2 rfl) ?_
  refine va_get (D := D) (ci := 4) (v := .ref (A 4)) (C := R_Ke) (T := T_Ke) (N := 5) hx hb hts wu_Ke hown hK hP 0 rfl rfl 3 (by decide) (hts _ wf_Ke_28) (fun _ h9 => h9) rfl d_Ke_category_56 ?_
  refine lv_iload_n hx hb d_Ke_category_59 rfl (lv_at hl 3 rfl) ?_
  obtain ⟨v6, e9, h⟩ := zo_b h
  refine ka_i (va_runV (As := [.int x1]) (rest := [.ref (A 2)]) S9 (c_Tg_clearanceOf l hl9 D A r _ u2 x1 _ e9) (cwV 1 hts (tg_V wl_Ke_90 wm_Tg_clearanceOf we_Tg_clearanceOf wi_Tg wo_Tg_clearanceOf) rfl rfl rfl wq_Tg_clearanceOf ⟨Nat.le_of_ble_eq_true rfl, Nat.le_of_ble_eq_true rfl⟩) (ka_preV X9 hP hD hS 4 rfl rfl) rfl rfl hl.1 rfl (lv_room (Nat.le_of_ble_eq_true rfl)) d_Ke_category_60 ⟨Nat.le_of_ble_eq_true rfl, Nat.le_of_ble_eq_true rfl⟩) X9 hD hS rfl (fun H locs hP hD hS => ?_)
  refine lv_iload_n hx hb d_Ke_category_63 rfl (lv_at hl 1 rfl) ?_
  refine lv_iconst (v := 3) hx hb d_Ke_category_64 (by decide) ?_
  obtain ⟨v7, e9, h⟩ := zo_b h
  refine ka_i (va_runV (As := [.int v6, .int (gN_categories u2), .int 3]) (rest := []) S9 (c_Lb_changed l hl9 D A r _ u2 v6 (gN_categories u2) 3 _ e9) (cwV 3 hts (tg_V wl_Ke_48 wm_Lb_changed we_Lb_changed wi_Lb wo_Lb_changed) rfl rfl rfl wq_Lb_changed ⟨Nat.le_of_ble_eq_true rfl, Nat.le_of_ble_eq_true rfl⟩) (ka_preV X9 hP hD hS 2 rfl rfl) rfl rfl hl.1 rfl (lv_room (Nat.le_of_ble_eq_true rfl)) d_Ke_category_65 ⟨Nat.le_of_ble_eq_true rfl, Nat.le_of_ble_eq_true rfl⟩) X9 hD hS rfl (fun H locs hP hD hS => ?_)
  refine lv_istore (lv' := [(4, .int v7), (3, .int v5), (2, .int (gN_categories u2)), (0, .ref (A 0)), (1, .int x1)]) hx hb d_Ke_category_68 hl (by decide) rfl (fun ls hl => ?_)
  refine lv_aload_n hx hb d_Ke_category_70 rfl (lv_at hl 3 rfl) ?_
  refine va_get (D := D) (ci := 4) (v := .ref (A 2)) (C := R_Ke) (T := T_Ke) (N := 5) hx hb hts wu_Ke hown hK hP 0 rfl rfl 2 (by decide) (hts _ wf_Ke_23) (fun _ h9 => h9) rfl d_Ke_category_71 ?_
  refine lv_iload_n hx hb d_Ke_category_74 rfl (lv_at hl 1 rfl) ?_
  obtain ⟨v8, e9, h⟩ := zo_b h
  refine ka_i (va_runV (As := [.int v5]) (rest := []) S9 (c_Lb_missing l hl9 D A r _ u2 v5 _ e9) (cwV 1 hts (tg_V wl_Ke_52 wm_Lb_missing we_Lb_missing wi_Lb wo_Lb_missing) rfl rfl rfl wq_Lb_missing ⟨Nat.le_of_ble_eq_true rfl, Nat.le_of_ble_eq_true rfl⟩) (ka_preV X9 hP hD hS 2 rfl rfl) rfl rfl hl.1 rfl (lv_room (Nat.le_of_ble_eq_true rfl)) d_Ke_category_75 ⟨Nat.le_of_ble_eq_true rfl, Nat.le_of_ble_eq_true rfl⟩) X9 hD hS rfl (fun H locs hP hD hS => ?_)
  refine lv_aload_n hx hb d_Ke_category_78 rfl (lv_at hl 3 rfl) ?_
  refine va_get (D := D) (ci := 4) (v := .ref (A 2)) (C := R_Ke) (T := T_Ke) (N := 5) hx hb hts wu_Ke hown hK hP 0 rfl rfl 2 (by decide) (hts _ wf_Ke_23) (fun _ h9 => h9) rfl d_Ke_category_79 ?_
  refine lv_iload hx hb d_Ke_category_82 (lv_at hl 0 rfl) ?_
  obtain ⟨v9, e9, h⟩ := zo_b h
  refine ka_i (va_runV (As := [.int v7]) (rest := [.int v8]) S9 (c_Lb_missing l hl9 D A r _ u2 v7 _ e9) (cwV 1 hts (tg_V wl_Ke_52 wm_Lb_missing we_Lb_missing wi_Lb wo_Lb_missing) rfl rfl rfl wq_Lb_missing ⟨Nat.le_of_ble_eq_true rfl, Nat.le_of_ble_eq_true rfl⟩) (ka_preV X9 hP hD hS 2 rfl rfl) rfl rfl hl.1 rfl (lv_room (Nat.le_of_ble_eq_true rfl)) d_Ke_category_84 ⟨Nat.le_of_ble_eq_true rfl, Nat.le_of_ble_eq_true rfl⟩) X9 hD hS rfl (fun H locs hP hD hS => ?_)
  refine lv_iadd hx hb d_Ke_category_87 ?_
  refine lv_aload_n hx hb d_Ke_category_88 rfl (lv_at hl 3 rfl) ?_
  refine va_get (D := D) (ci := 4) (v := .ref (A 2)) (C := R_Ke) (T := T_Ke) (N := 5) hx hb hts wu_Ke hown hK hP 0 rfl rfl 2 (by decide) (hts _ wf_Ke_23) (fun _ h9 => h9) rfl d_Ke_category_89 ?_
  obtain ⟨v10, e9, h⟩ := zo_b h
  refine ka_i (va_runV (As := []) (rest := [.int (v8 + v9)]) S9 (c_Lb_free l hl9 D A r _ u2 _ e9) (cwV 0 hts (tg_V wl_Ke_56 wm_Lb_free we_Lb_free wi_Lb wo_Lb_free) rfl rfl rfl wq_Lb_free ⟨Nat.le_of_ble_eq_true rfl, Nat.le_of_ble_eq_true rfl⟩) (ka_preV X9 hP hD hS 2 rfl rfl) rfl rfl hl.1 rfl (lv_room (Nat.le_of_ble_eq_true rfl)) d_Ke_category_92 ⟨Nat.le_of_ble_eq_true rfl, Nat.le_of_ble_eq_true rfl⟩) X9 hD hS rfl (fun H locs hP hD hS => ?_)
  refine lv_icmp_gt (tgt := 102) hx hb d_Ke_category_95 (by decide) (fun c11 => ?_) (fun c11 => ?_)
  · replace h := zo_t c11 h
    refine lv_iconst (v := 0) hx hb d_Ke_category_102 (by decide) ?_
    obtain ⟨rfl, rfl⟩ := zo_e h
    exact ka_err (vx_runS (As := [.int 0]) (rest := []) S9 (c_Ke_needRoom_err l hl9 D A (GW A u2 r) _ 0 rfl) (cwS 1 hts (tg_S wl_Ke_60 ws_Ke_needRoom wi_Ke wo_Ke_needRoom) rfl rfl rfl wq_Ke_needRoom ⟨Nat.le_of_ble_eq_true rfl, Nat.le_of_ble_eq_true rfl⟩) (ka_preS X9 hP hD hS) rfl rfl hl.1 rfl (lv_room (Nat.le_of_ble_eq_true rfl)) d_Ke_category_103 ⟨Nat.le_of_ble_eq_true rfl, Nat.le_of_ble_eq_true rfl⟩) hlk hex X9 hD hS (Nat.le_of_ble_eq_true rfl) (Nat.le_of_ble_eq_true rfl)
  replace h := zo_f c11 h
  refine lv_iconst (v := 1) hx hb d_Ke_category_98 (by decide) ?_
  refine lv_goto (tgt := 103) hx hb d_Ke_category_99 (by decide) ?_
  refine ka_v (va_runS (As := [.int 1]) (rest := []) S9 (c_Ke_needRoom_ok l hl9 D A (GW A u2 r) _ 1 (by decide)) (cwS 1 hts (tg_S wl_Ke_60 ws_Ke_needRoom wi_Ke wo_Ke_needRoom) rfl rfl rfl wq_Ke_needRoom ⟨Nat.le_of_ble_eq_true rfl, Nat.le_of_ble_eq_true rfl⟩) (ka_preS X9 hP hD hS) rfl rfl hl.1 rfl (lv_room (Nat.le_of_ble_eq_true rfl)) d_Ke_category_103 ⟨Nat.le_of_ble_eq_true rfl, Nat.le_of_ble_eq_true rfl⟩) X9 hD hS rfl (fun H locs hP hD hS => ?_)
  refine lv_aload_n hx hb d_Ke_category_106 rfl (lv_at hl 3 rfl) ?_
  refine va_get (D := D) (ci := 4) (v := .ref (A 4)) (C := R_Ke) (T := T_Ke) (N := 5) hx hb hts wu_Ke hown hK hP 0 rfl rfl 3 (by decide) (hts _ wf_Ke_28) (fun _ h9 => h9) rfl d_Ke_category_107 ?_
  refine lv_iload_n hx hb d_Ke_category_110 rfl (lv_at hl 4 rfl) ?_
  refine lv_aload_n hx hb d_Ke_category_111 rfl (lv_at hl 3 rfl) ?_
  refine va_get (D := D) (ci := 4) (v := .ref (A 2)) (C := R_Ke) (T := T_Ke) (N := 5) hx hb hts wu_Ke hown hK hP 0 rfl rfl 2 (by decide) (hts _ wf_Ke_23) (fun _ h9 => h9) rfl d_Ke_category_112 ?_
  refine lv_iload_n hx hb d_Ke_category_115 rfl (lv_at hl 1 rfl) ?_
  obtain ⟨v12, e9, h⟩ := zo_b h
  refine ka_i (va_runV (As := [.int v5]) (rest := [.int x1, .ref (A 4)]) S9 (c_Lb_numberOf l hl9 D A r _ u2 v5 _ e9) (cwV 1 hts (tg_V wl_Ke_63 wm_Lb_numberOf we_Lb_numberOf wi_Lb wo_Lb_numberOf) rfl rfl rfl wq_Lb_numberOf ⟨Nat.le_of_ble_eq_true rfl, Nat.le_of_ble_eq_true rfl⟩) (ka_preV X9 hP hD hS 2 rfl rfl) rfl rfl hl.1 rfl (lv_room (Nat.le_of_ble_eq_true rfl)) d_Ke_category_116 ⟨Nat.le_of_ble_eq_true rfl, Nat.le_of_ble_eq_true rfl⟩) X9 hD hS rfl (fun H locs hP hD hS => ?_)
  obtain ⟨v13, e9, h⟩ := zo_b h
  refine ka_v (va_runV (As := [.int x1, .int v12.1]) (rest := []) S9 (c_Tg_setLabel l hl9 D A r _ v12.2 x1 v12.1 _ e9) (cwV 2 hts (tg_V wl_Ke_93 wm_Tg_setLabel we_Tg_setLabel wi_Tg wo_Tg_setLabel) rfl rfl rfl wq_Tg_setLabel ⟨Nat.le_of_ble_eq_true rfl, Nat.le_of_ble_eq_true rfl⟩) (ka_preV X9 hP hD hS 4 rfl rfl) rfl rfl hl.1 rfl (lv_room (Nat.le_of_ble_eq_true rfl)) d_Ke_category_119 ⟨Nat.le_of_ble_eq_true rfl, Nat.le_of_ble_eq_true rfl⟩) X9 hD hS rfl (fun H locs hP hD hS => ?_)
  refine lv_aload_n hx hb d_Ke_category_122 rfl (lv_at hl 3 rfl) ?_
  refine va_get (D := D) (ci := 4) (v := .ref (A 4)) (C := R_Ke) (T := T_Ke) (N := 5) hx hb hts wu_Ke hown hK hP 0 rfl rfl 3 (by decide) (hts _ wf_Ke_28) (fun _ h9 => h9) rfl d_Ke_category_123 ?_
  refine lv_iload_n hx hb d_Ke_category_126 rfl (lv_at hl 4 rfl) ?_
  refine lv_aload_n hx hb d_Ke_category_127 rfl (lv_at hl 3 rfl) ?_
  refine va_get (D := D) (ci := 4) (v := .ref (A 2)) (C := R_Ke) (T := T_Ke) (N := 5) hx hb hts wu_Ke hown hK hP 0 rfl rfl 2 (by decide) (hts _ wf_Ke_23) (fun _ h9 => h9) rfl d_Ke_category_128 ?_
  refine lv_iload hx hb d_Ke_category_131 (lv_at hl 0 rfl) ?_
  obtain ⟨v14, e9, h⟩ := zo_b h
  refine ka_i (va_runV (As := [.int v7]) (rest := [.int x1, .ref (A 4)]) S9 (c_Lb_numberOf l hl9 D A r _ v13 v7 _ e9) (cwV 1 hts (tg_V wl_Ke_63 wm_Lb_numberOf we_Lb_numberOf wi_Lb wo_Lb_numberOf) rfl rfl rfl wq_Lb_numberOf ⟨Nat.le_of_ble_eq_true rfl, Nat.le_of_ble_eq_true rfl⟩) (ka_preV X9 hP hD hS 2 rfl rfl) rfl rfl hl.1 rfl (lv_room (Nat.le_of_ble_eq_true rfl)) d_Ke_category_133 ⟨Nat.le_of_ble_eq_true rfl, Nat.le_of_ble_eq_true rfl⟩) X9 hD hS rfl (fun H locs hP hD hS => ?_)
  obtain ⟨v15, e9, h⟩ := zo_b h
  refine ka_v (va_runV (As := [.int x1, .int v14.1]) (rest := []) S9 (c_Tg_setClearance l hl9 D A r _ v14.2 x1 v14.1 _ e9) (cwV 2 hts (tg_V wl_Ke_97 wm_Tg_setClearance we_Tg_setClearance wi_Tg wo_Tg_setClearance) rfl rfl rfl wq_Tg_setClearance ⟨Nat.le_of_ble_eq_true rfl, Nat.le_of_ble_eq_true rfl⟩) (ka_preV X9 hP hD hS 4 rfl rfl) rfl rfl hl.1 rfl (lv_room (Nat.le_of_ble_eq_true rfl)) d_Ke_category_136 ⟨Nat.le_of_ble_eq_true rfl, Nat.le_of_ble_eq_true rfl⟩) X9 hD hS rfl (fun H locs hP hD hS => ?_)
  refine lv_aload_n hx hb d_Ke_category_139 rfl (lv_at hl 3 rfl) ?_
  refine va_get (D := D) (ci := 4) (v := .ref (A 1)) (C := R_Ke) (T := T_Ke) (N := 5) hx hb hts wu_Ke hown hK hP 0 rfl rfl 0 (by decide) (hts _ wf_Ke_10) (fun _ h9 => h9) rfl d_Ke_category_140 ?_
  refine lv_iload_n hx hb d_Ke_category_143 rfl (lv_at hl 2 rfl) ?_
  refine lv_iconst (v := 1) hx hb d_Ke_category_144 (by decide) ?_
  refine lv_iadd hx hb d_Ke_category_145 ?_
  obtain ⟨u16, hu9, h⟩ := zo_l h
  refine va_put (D := D) (ci := 1) (v := .int ((gN_categories u2) + 1)) (ty := .int) (C := R_Sn) (T := T_Sn) (N := 4) hx hb hts wu_Sn ft_Sn fk_Sn nm_Sn hown hK hP hD hS 1 rfl rfl 3 (by decide) (hts _ wf_Ke_81) (fun _ h9 => h9) rfl (by decide +kernel) rfl rfl (Nat.le_of_ble_eq_true rfl) d_Ke_category_146 (fun H locs hP hD hS => ?_)
  replace hP : va_P D vwCl (GW A u16 r) H := by rw [hu9]; exact hP
  replace hD : va_D A9 (GW A u16 r) := by rw [hu9]; exact hD
  refine lv_iload_n hx hb d_Ke_category_149 rfl (lv_at hl 2 rfl) ?_
  cases h
def f_Ke_needThreadAndContainer (σ : KS) (x1 x2 : Int32) : Option (Except Nat Unit × KS) := (f_Tg_isThere σ x1).bind fun v1 => if v1 = 0 then (some (.error 2, σ)) else ((f_Tg_isThere σ x2).bind fun v3 => if v3 = 0 then (some (.error 2, σ)) else ((f_Tg_isOfKind σ x1 3).bind fun v5 => if v5 = 0 then (some (.error 1, σ)) else ((f_Tg_isOfKind σ x2 0).bind fun v7 => if v7 = 0 then (some (.error 1, σ)) else (some (.ok (), σ)))))
set_option maxRecDepth 100000 in
set_option maxHeartbeats 4000000 in
theorem c_Ke_needThreadAndContainer_ok (l : Launch) (hl9 : l.stackTraces = false) (D : va_G) (A : Nat → Nat) (r : va_W) (sz : Nat) (σ : KS) (x1 x2 : Int32) (z9 : Unit) (z : KS) (h : f_Ke_needThreadAndContainer σ x1 x2 = some (.ok z9, z)) : Met l y_Ke_needThreadAndContainer (Cond.code y_Ke_needThreadAndContainer b_Ke_needThreadAndContainer 3 none :: T0) ({ frames := 1, cells := 0, slots := 0, locals := 22 } : Room) (va_Pc [.ref (A 0), .int x1, .int x2] (ka_Wd D A (GW A σ r) sz)) (ka_Rv D (GW A z r) (va_A (GW A σ r) sz)) 0 0 (va_A (GW A σ r) sz) := by
  unfold f_Ke_needThreadAndContainer at h
  refine ka_of (own := R_Ke) (fun A9 => ka_Rv D (GW A z r) A9) (by decide) rfl (Nat.le_of_ble_eq_true rfl) ?_
  intro p e s m below meth c A9 ls S9 hr hlk hex X9 hP hD hl
  obtain ⟨hx, hb, hml, hown, hts⟩ := id S9
  have hK := X9.2.1
  have hS : va_S A9 s.heap s.heap [] := va_S.rf
  replace hl : lv_has ls 3 [(0, .ref (A 0)), (1, .int x1), (2, .int x2)] := hl
  refine lv_aload_n hx hb d_Ke_needThreadAndContainer_0 rfl (lv_at hl 0 rfl) ?_
  refine va_get (D := D) (ci := 4) (v := .ref (A 4)) (C := R_Ke) (T := T_Ke) (N := 5) hx hb hts wu_Ke hown hK hP 0 rfl rfl 3 (by decide) (hts _ wf_Ke_28) (fun _ h9 => h9) rfl d_Ke_needThreadAndContainer_1 ?_
  refine lv_iload_n hx hb d_Ke_needThreadAndContainer_4 rfl (lv_at hl 1 rfl) ?_
  obtain ⟨v1, e9, h⟩ := zo_b h
  refine ka_i (va_runV (As := [.int x1]) (rest := []) S9 (c_Tg_isThere l hl9 D A r _ σ x1 _ e9) (cwV 1 hts (tg_V wl_Ke_250 wm_Tg_isThere we_Tg_isThere wi_Tg wo_Tg_isThere) rfl rfl rfl wq_Tg_isThere ⟨Nat.le_of_ble_eq_true rfl, Nat.le_of_ble_eq_true rfl⟩) (ka_preV X9 hP hD hS 4 rfl rfl) rfl rfl hl.1 rfl (lv_room (Nat.le_of_ble_eq_true rfl)) d_Ke_needThreadAndContainer_5 ⟨Nat.le_of_ble_eq_true rfl, Nat.le_of_ble_eq_true rfl⟩) X9 hD hS rfl (fun H locs hP hD hS => ?_)
  refine lv_if_eq (tgt := 26) hx hb d_Ke_needThreadAndContainer_8 (by decide) (fun c2 => ?_) (fun c2 => ?_)
  · replace h := zo_t c2 h
    refine lv_iconst (v := 0) hx hb d_Ke_needThreadAndContainer_26 (by decide) ?_
    cases h
  replace h := zo_f c2 h
  refine lv_aload_n hx hb d_Ke_needThreadAndContainer_11 rfl (lv_at hl 0 rfl) ?_
  refine va_get (D := D) (ci := 4) (v := .ref (A 4)) (C := R_Ke) (T := T_Ke) (N := 5) hx hb hts wu_Ke hown hK hP 0 rfl rfl 3 (by decide) (hts _ wf_Ke_28) (fun _ h9 => h9) rfl d_Ke_needThreadAndContainer_12 ?_
  refine lv_iload_n hx hb d_Ke_needThreadAndContainer_15 rfl (lv_at hl 2 rfl) ?_
  obtain ⟨v3, e9, h⟩ := zo_b h
  refine ka_i (va_runV (As := [.int x2]) (rest := []) S9 (c_Tg_isThere l hl9 D A r _ σ x2 _ e9) (cwV 1 hts (tg_V wl_Ke_250 wm_Tg_isThere we_Tg_isThere wi_Tg wo_Tg_isThere) rfl rfl rfl wq_Tg_isThere ⟨Nat.le_of_ble_eq_true rfl, Nat.le_of_ble_eq_true rfl⟩) (ka_preV X9 hP hD hS 4 rfl rfl) rfl rfl hl.1 rfl (lv_room (Nat.le_of_ble_eq_true rfl)) d_Ke_needThreadAndContainer_16 ⟨Nat.le_of_ble_eq_true rfl, Nat.le_of_ble_eq_true rfl⟩) X9 hD hS rfl (fun H locs hP hD hS => ?_)
  refine lv_if_eq (tgt := 26) hx hb d_Ke_needThreadAndContainer_19 (by decide) (fun c4 => ?_) (fun c4 => ?_)
  · replace h := zo_t c4 h
    refine lv_iconst (v := 0) hx hb d_Ke_needThreadAndContainer_26 (by decide) ?_
    cases h
  replace h := zo_f c4 h
  refine lv_iconst (v := 1) hx hb d_Ke_needThreadAndContainer_22 (by decide) ?_
  refine lv_goto (tgt := 27) hx hb d_Ke_needThreadAndContainer_23 (by decide) ?_
  refine ka_v (va_runS (As := [.int 1]) (rest := []) S9 (c_Ke_needFound_ok l hl9 D A (GW A σ r) _ 1 (by decide)) (cwS 1 hts (tg_S wl_Ke_169 ws_Ke_needFound wi_Ke wo_Ke_needFound) rfl rfl rfl wq_Ke_needFound ⟨Nat.le_of_ble_eq_true rfl, Nat.le_of_ble_eq_true rfl⟩) (ka_preS X9 hP hD hS) rfl rfl hl.1 rfl (lv_room (Nat.le_of_ble_eq_true rfl)) d_Ke_needThreadAndContainer_27 ⟨Nat.le_of_ble_eq_true rfl, Nat.le_of_ble_eq_true rfl⟩) X9 hD hS rfl (fun H locs hP hD hS => ?_)
  refine lv_aload_n hx hb d_Ke_needThreadAndContainer_30 rfl (lv_at hl 0 rfl) ?_
  refine va_get (D := D) (ci := 4) (v := .ref (A 4)) (C := R_Ke) (T := T_Ke) (N := 5) hx hb hts wu_Ke hown hK hP 0 rfl rfl 3 (by decide) (hts _ wf_Ke_28) (fun _ h9 => h9) rfl d_Ke_needThreadAndContainer_31 ?_
  refine lv_iload_n hx hb d_Ke_needThreadAndContainer_34 rfl (lv_at hl 1 rfl) ?_
  refine lv_iconst (v := 3) hx hb d_Ke_needThreadAndContainer_35 (by decide) ?_
  obtain ⟨v5, e9, h⟩ := zo_b h
  refine ka_i (va_runV (As := [.int x1, .int 3]) (rest := []) S9 (c_Tg_isOfKind l hl9 D A r _ σ x1 3 _ e9) (cwV 2 hts (tg_V wl_Ke_163 wm_Tg_isOfKind we_Tg_isOfKind wi_Tg wo_Tg_isOfKind) rfl rfl rfl wq_Tg_isOfKind ⟨Nat.le_of_ble_eq_true rfl, Nat.le_of_ble_eq_true rfl⟩) (ka_preV X9 hP hD hS 4 rfl rfl) rfl rfl hl.1 rfl (lv_room (Nat.le_of_ble_eq_true rfl)) d_Ke_needThreadAndContainer_36 ⟨Nat.le_of_ble_eq_true rfl, Nat.le_of_ble_eq_true rfl⟩) X9 hD hS rfl (fun H locs hP hD hS => ?_)
  refine lv_if_eq (tgt := 58) hx hb d_Ke_needThreadAndContainer_39 (by decide) (fun c6 => ?_) (fun c6 => ?_)
  · replace h := zo_t c6 h
    refine lv_iconst (v := 0) hx hb d_Ke_needThreadAndContainer_58 (by decide) ?_
    cases h
  replace h := zo_f c6 h
  refine lv_aload_n hx hb d_Ke_needThreadAndContainer_42 rfl (lv_at hl 0 rfl) ?_
  refine va_get (D := D) (ci := 4) (v := .ref (A 4)) (C := R_Ke) (T := T_Ke) (N := 5) hx hb hts wu_Ke hown hK hP 0 rfl rfl 3 (by decide) (hts _ wf_Ke_28) (fun _ h9 => h9) rfl d_Ke_needThreadAndContainer_43 ?_
  refine lv_iload_n hx hb d_Ke_needThreadAndContainer_46 rfl (lv_at hl 2 rfl) ?_
  refine lv_iconst (v := 0) hx hb d_Ke_needThreadAndContainer_47 (by decide) ?_
  obtain ⟨v7, e9, h⟩ := zo_b h
  refine ka_i (va_runV (As := [.int x2, .int 0]) (rest := []) S9 (c_Tg_isOfKind l hl9 D A r _ σ x2 0 _ e9) (cwV 2 hts (tg_V wl_Ke_163 wm_Tg_isOfKind we_Tg_isOfKind wi_Tg wo_Tg_isOfKind) rfl rfl rfl wq_Tg_isOfKind ⟨Nat.le_of_ble_eq_true rfl, Nat.le_of_ble_eq_true rfl⟩) (ka_preV X9 hP hD hS 4 rfl rfl) rfl rfl hl.1 rfl (lv_room (Nat.le_of_ble_eq_true rfl)) d_Ke_needThreadAndContainer_48 ⟨Nat.le_of_ble_eq_true rfl, Nat.le_of_ble_eq_true rfl⟩) X9 hD hS rfl (fun H locs hP hD hS => ?_)
  refine lv_if_eq (tgt := 58) hx hb d_Ke_needThreadAndContainer_51 (by decide) (fun c8 => ?_) (fun c8 => ?_)
  · replace h := zo_t c8 h
    refine lv_iconst (v := 0) hx hb d_Ke_needThreadAndContainer_58 (by decide) ?_
    cases h
  replace h := zo_f c8 h
  refine lv_iconst (v := 1) hx hb d_Ke_needThreadAndContainer_54 (by decide) ?_
  refine lv_goto (tgt := 59) hx hb d_Ke_needThreadAndContainer_55 (by decide) ?_
  refine ka_v (va_runS (As := [.int 1]) (rest := []) S9 (c_Ke_needNumber_ok l hl9 D A (GW A σ r) _ 1 (by decide)) (cwS 1 hts (tg_S wl_Ke_44 ws_Ke_needNumber wi_Ke wo_Ke_needNumber) rfl rfl rfl wq_Ke_needNumber ⟨Nat.le_of_ble_eq_true rfl, Nat.le_of_ble_eq_true rfl⟩) (ka_preS X9 hP hD hS) rfl rfl hl.1 rfl (lv_room (Nat.le_of_ble_eq_true rfl)) d_Ke_needThreadAndContainer_59 ⟨Nat.le_of_ble_eq_true rfl, Nat.le_of_ble_eq_true rfl⟩) X9 hD hS rfl (fun H locs hP hD hS => ?_)
  cases h
  exact W.vret hx hb hr (fun t ht hW => ⟨⟨(), rfl, trivial, ka_at ht hP⟩, hS.F ht⟩) hS.2.2 d_Ke_needThreadAndContainer_62 hlk
set_option maxRecDepth 100000 in
set_option maxHeartbeats 4000000 in
theorem c_Ke_needThreadAndContainer_err (l : Launch) (hl9 : l.stackTraces = false) (D : va_G) (A : Nat → Nat) (r : va_W) (sz : Nat) (σ : KS) (x1 x2 : Int32) (k9 : Nat) (z : KS) (h : f_Ke_needThreadAndContainer σ x1 x2 = some (.error k9, z)) : vx_Met l y_Ke_needThreadAndContainer (Cond.code y_Ke_needThreadAndContainer b_Ke_needThreadAndContainer 3 none :: T0) ({ frames := 7, cells := 1, slots := 6, locals := 101 } : Room) (va_Pc [.ref (A 0), .int x1, .int x2] (ka_Wd D A (GW A σ r) sz)) ka_No (ka_Xe D k9 (GW A z r) (va_A (GW A σ r) sz)) 1 6 (va_A (GW A σ r) sz) := by
  unfold f_Ke_needThreadAndContainer at h
  refine ka_ofX (own := R_Ke) (fun A9 => ka_Xe D k9 (GW A z r) A9) (by decide) rfl (Nat.le_of_ble_eq_true rfl) ?_
  intro p e s m below meth c A9 ls S9 hr hlk hex X9 hP hD hl
  obtain ⟨hx, hb, hml, hown, hts⟩ := id S9
  have hK := X9.2.1
  have hS : va_S A9 s.heap s.heap [] := va_S.rf
  replace hl : lv_has ls 3 [(0, .ref (A 0)), (1, .int x1), (2, .int x2)] := hl
  refine lv_aload_n hx hb d_Ke_needThreadAndContainer_0 rfl (lv_at hl 0 rfl) ?_
  refine va_get (D := D) (ci := 4) (v := .ref (A 4)) (C := R_Ke) (T := T_Ke) (N := 5) hx hb hts wu_Ke hown hK hP 0 rfl rfl 3 (by decide) (hts _ wf_Ke_28) (fun _ h9 => h9) rfl d_Ke_needThreadAndContainer_1 ?_
  refine lv_iload_n hx hb d_Ke_needThreadAndContainer_4 rfl (lv_at hl 1 rfl) ?_
  obtain ⟨v1, e9, h⟩ := zo_b h
  refine ka_i (va_runV (As := [.int x1]) (rest := []) S9 (c_Tg_isThere l hl9 D A r _ σ x1 _ e9) (cwV 1 hts (tg_V wl_Ke_250 wm_Tg_isThere we_Tg_isThere wi_Tg wo_Tg_isThere) rfl rfl rfl wq_Tg_isThere ⟨Nat.le_of_ble_eq_true rfl, Nat.le_of_ble_eq_true rfl⟩) (ka_preV X9 hP hD hS 4 rfl rfl) rfl rfl hl.1 rfl (lv_room (Nat.le_of_ble_eq_true rfl)) d_Ke_needThreadAndContainer_5 ⟨Nat.le_of_ble_eq_true rfl, Nat.le_of_ble_eq_true rfl⟩) X9 hD hS rfl (fun H locs hP hD hS => ?_)
  refine lv_if_eq (tgt := 26) hx hb d_Ke_needThreadAndContainer_8 (by decide) (fun c2 => ?_) (fun c2 => ?_)
  · replace h := zo_t c2 h
    refine lv_iconst (v := 0) hx hb d_Ke_needThreadAndContainer_26 (by decide) ?_
    obtain ⟨rfl, rfl⟩ := zo_e h
    exact ka_err (vx_runS (As := [.int 0]) (rest := []) S9 (c_Ke_needFound_err l hl9 D A (GW A σ r) _ 0 rfl) (cwS 1 hts (tg_S wl_Ke_169 ws_Ke_needFound wi_Ke wo_Ke_needFound) rfl rfl rfl wq_Ke_needFound ⟨Nat.le_of_ble_eq_true rfl, Nat.le_of_ble_eq_true rfl⟩) (ka_preS X9 hP hD hS) rfl rfl hl.1 rfl (lv_room (Nat.le_of_ble_eq_true rfl)) d_Ke_needThreadAndContainer_27 ⟨Nat.le_of_ble_eq_true rfl, Nat.le_of_ble_eq_true rfl⟩) hlk hex X9 hD hS (Nat.le_of_ble_eq_true rfl) (Nat.le_of_ble_eq_true rfl)
  replace h := zo_f c2 h
  refine lv_aload_n hx hb d_Ke_needThreadAndContainer_11 rfl (lv_at hl 0 rfl) ?_
  refine va_get (D := D) (ci := 4) (v := .ref (A 4)) (C := R_Ke) (T := T_Ke) (N := 5) hx hb hts wu_Ke hown hK hP 0 rfl rfl 3 (by decide) (hts _ wf_Ke_28) (fun _ h9 => h9) rfl d_Ke_needThreadAndContainer_12 ?_
  refine lv_iload_n hx hb d_Ke_needThreadAndContainer_15 rfl (lv_at hl 2 rfl) ?_
  obtain ⟨v3, e9, h⟩ := zo_b h
  refine ka_i (va_runV (As := [.int x2]) (rest := []) S9 (c_Tg_isThere l hl9 D A r _ σ x2 _ e9) (cwV 1 hts (tg_V wl_Ke_250 wm_Tg_isThere we_Tg_isThere wi_Tg wo_Tg_isThere) rfl rfl rfl wq_Tg_isThere ⟨Nat.le_of_ble_eq_true rfl, Nat.le_of_ble_eq_true rfl⟩) (ka_preV X9 hP hD hS 4 rfl rfl) rfl rfl hl.1 rfl (lv_room (Nat.le_of_ble_eq_true rfl)) d_Ke_needThreadAndContainer_16 ⟨Nat.le_of_ble_eq_true rfl, Nat.le_of_ble_eq_true rfl⟩) X9 hD hS rfl (fun H locs hP hD hS => ?_)
  refine lv_if_eq (tgt := 26) hx hb d_Ke_needThreadAndContainer_19 (by decide) (fun c4 => ?_) (fun c4 => ?_)
  · replace h := zo_t c4 h
    refine lv_iconst (v := 0) hx hb d_Ke_needThreadAndContainer_26 (by decide) ?_
    obtain ⟨rfl, rfl⟩ := zo_e h
    exact ka_err (vx_runS (As := [.int 0]) (rest := []) S9 (c_Ke_needFound_err l hl9 D A (GW A σ r) _ 0 rfl) (cwS 1 hts (tg_S wl_Ke_169 ws_Ke_needFound wi_Ke wo_Ke_needFound) rfl rfl rfl wq_Ke_needFound ⟨Nat.le_of_ble_eq_true rfl, Nat.le_of_ble_eq_true rfl⟩) (ka_preS X9 hP hD hS) rfl rfl hl.1 rfl (lv_room (Nat.le_of_ble_eq_true rfl)) d_Ke_needThreadAndContainer_27 ⟨Nat.le_of_ble_eq_true rfl, Nat.le_of_ble_eq_true rfl⟩) hlk hex X9 hD hS (Nat.le_of_ble_eq_true rfl) (Nat.le_of_ble_eq_true rfl)
  replace h := zo_f c4 h
  refine lv_iconst (v := 1) hx hb d_Ke_needThreadAndContainer_22 (by decide) ?_
  refine lv_goto (tgt := 27) hx hb d_Ke_needThreadAndContainer_23 (by decide) ?_
  refine ka_v (va_runS (As := [.int 1]) (rest := []) S9 (c_Ke_needFound_ok l hl9 D A (GW A σ r) _ 1 (by decide)) (cwS 1 hts (tg_S wl_Ke_169 ws_Ke_needFound wi_Ke wo_Ke_needFound) rfl rfl rfl wq_Ke_needFound ⟨Nat.le_of_ble_eq_true rfl, Nat.le_of_ble_eq_true rfl⟩) (ka_preS X9 hP hD hS) rfl rfl hl.1 rfl (lv_room (Nat.le_of_ble_eq_true rfl)) d_Ke_needThreadAndContainer_27 ⟨Nat.le_of_ble_eq_true rfl, Nat.le_of_ble_eq_true rfl⟩) X9 hD hS rfl (fun H locs hP hD hS => ?_)
  refine lv_aload_n hx hb d_Ke_needThreadAndContainer_30 rfl (lv_at hl 0 rfl) ?_
  refine va_get (D := D) (ci := 4) (v := .ref (A 4)) (C := R_Ke) (T := T_Ke) (N := 5) hx hb hts wu_Ke hown hK hP 0 rfl rfl 3 (by decide) (hts _ wf_Ke_28) (fun _ h9 => h9) rfl d_Ke_needThreadAndContainer_31 ?_
  refine lv_iload_n hx hb d_Ke_needThreadAndContainer_34 rfl (lv_at hl 1 rfl) ?_
  refine lv_iconst (v := 3) hx hb d_Ke_needThreadAndContainer_35 (by decide) ?_
  obtain ⟨v5, e9, h⟩ := zo_b h
  refine ka_i (va_runV (As := [.int x1, .int 3]) (rest := []) S9 (c_Tg_isOfKind l hl9 D A r _ σ x1 3 _ e9) (cwV 2 hts (tg_V wl_Ke_163 wm_Tg_isOfKind we_Tg_isOfKind wi_Tg wo_Tg_isOfKind) rfl rfl rfl wq_Tg_isOfKind ⟨Nat.le_of_ble_eq_true rfl, Nat.le_of_ble_eq_true rfl⟩) (ka_preV X9 hP hD hS 4 rfl rfl) rfl rfl hl.1 rfl (lv_room (Nat.le_of_ble_eq_true rfl)) d_Ke_needThreadAndContainer_36 ⟨Nat.le_of_ble_eq_true rfl, Nat.le_of_ble_eq_true rfl⟩) X9 hD hS rfl (fun H locs hP hD hS => ?_)
  refine lv_if_eq (tgt := 58) hx hb d_Ke_needThreadAndContainer_39 (by decide) (fun c6 => ?_) (fun c6 => ?_)
  · replace h := zo_t c6 h
    refine lv_iconst (v := 0) hx hb d_Ke_needThreadAndContainer_58 (by decide) ?_
    obtain ⟨rfl, rfl⟩ := zo_e h
    exact ka_err (vx_runS (As := [.int 0]) (rest := []) S9 (c_Ke_needNumber_err l hl9 D A (GW A σ r) _ 0 rfl) (cwS 1 hts (tg_S wl_Ke_44 ws_Ke_needNumber wi_Ke wo_Ke_needNumber) rfl rfl rfl wq_Ke_needNumber ⟨Nat.le_of_ble_eq_true rfl, Nat.le_of_ble_eq_true rfl⟩) (ka_preS X9 hP hD hS) rfl rfl hl.1 rfl (lv_room (Nat.le_of_ble_eq_true rfl)) d_Ke_needThreadAndContainer_59 ⟨Nat.le_of_ble_eq_true rfl, Nat.le_of_ble_eq_true rfl⟩) hlk hex X9 hD hS (Nat.le_of_ble_eq_true rfl) (Nat.le_of_ble_eq_true rfl)
  replace h := zo_f c6 h
  refine lv_aload_n hx hb d_Ke_needThreadAndContainer_42 rfl (lv_at hl 0 rfl) ?_
  refine va_get (D := D) (ci := 4) (v := .ref (A 4)) (C := R_Ke) (T := T_Ke) (N := 5) hx hb hts wu_Ke hown hK hP 0 rfl rfl 3 (by decide) (hts _ wf_Ke_28) (fun _ h9 => h9) rfl d_Ke_needThreadAndContainer_43 ?_
  refine lv_iload_n hx hb d_Ke_needThreadAndContainer_46 rfl (lv_at hl 2 rfl) ?_
  refine lv_iconst (v := 0) hx hb d_Ke_needThreadAndContainer_47 (by decide) ?_
  obtain ⟨v7, e9, h⟩ := zo_b h
  refine ka_i (va_runV (As := [.int x2, .int 0]) (rest := []) S9 (c_Tg_isOfKind l hl9 D A r _ σ x2 0 _ e9) (cwV 2 hts (tg_V wl_Ke_163 wm_Tg_isOfKind we_Tg_isOfKind wi_Tg wo_Tg_isOfKind) rfl rfl rfl wq_Tg_isOfKind ⟨Nat.le_of_ble_eq_true rfl, Nat.le_of_ble_eq_true rfl⟩) (ka_preV X9 hP hD hS 4 rfl rfl) rfl rfl hl.1 rfl (lv_room (Nat.le_of_ble_eq_true rfl)) d_Ke_needThreadAndContainer_48 ⟨Nat.le_of_ble_eq_true rfl, Nat.le_of_ble_eq_true rfl⟩) X9 hD hS rfl (fun H locs hP hD hS => ?_)
  refine lv_if_eq (tgt := 58) hx hb d_Ke_needThreadAndContainer_51 (by decide) (fun c8 => ?_) (fun c8 => ?_)
  · replace h := zo_t c8 h
    refine lv_iconst (v := 0) hx hb d_Ke_needThreadAndContainer_58 (by decide) ?_
    obtain ⟨rfl, rfl⟩ := zo_e h
    exact ka_err (vx_runS (As := [.int 0]) (rest := []) S9 (c_Ke_needNumber_err l hl9 D A (GW A σ r) _ 0 rfl) (cwS 1 hts (tg_S wl_Ke_44 ws_Ke_needNumber wi_Ke wo_Ke_needNumber) rfl rfl rfl wq_Ke_needNumber ⟨Nat.le_of_ble_eq_true rfl, Nat.le_of_ble_eq_true rfl⟩) (ka_preS X9 hP hD hS) rfl rfl hl.1 rfl (lv_room (Nat.le_of_ble_eq_true rfl)) d_Ke_needThreadAndContainer_59 ⟨Nat.le_of_ble_eq_true rfl, Nat.le_of_ble_eq_true rfl⟩) hlk hex X9 hD hS (Nat.le_of_ble_eq_true rfl) (Nat.le_of_ble_eq_true rfl)
  replace h := zo_f c8 h
  refine lv_iconst (v := 1) hx hb d_Ke_needThreadAndContainer_54 (by decide) ?_
  refine lv_goto (tgt := 59) hx hb d_Ke_needThreadAndContainer_55 (by decide) ?_
  refine ka_v (va_runS (As := [.int 1]) (rest := []) S9 (c_Ke_needNumber_ok l hl9 D A (GW A σ r) _ 1 (by decide)) (cwS 1 hts (tg_S wl_Ke_44 ws_Ke_needNumber wi_Ke wo_Ke_needNumber) rfl rfl rfl wq_Ke_needNumber ⟨Nat.le_of_ble_eq_true rfl, Nat.le_of_ble_eq_true rfl⟩) (ka_preS X9 hP hD hS) rfl rfl hl.1 rfl (lv_room (Nat.le_of_ble_eq_true rfl)) d_Ke_needThreadAndContainer_59 ⟨Nat.le_of_ble_eq_true rfl, Nat.le_of_ble_eq_true rfl⟩) X9 hD hS rfl (fun H locs hP hD hS => ?_)
  cases h
def f_Ke_maySee (σ : KS) (x1 x2 : Int32) : Option (Int32) := (f_Tg_labelOf σ x2).bind fun v1 => (f_Tg_labelOf σ x1).bind fun v2 => (f_Lb_fitsHigh σ v1 v2).bind fun v3 => if vp_nar .boolean v3 = v3 then some v3 else none
set_option maxRecDepth 100000 in
set_option maxHeartbeats 4000000 in
theorem c_Ke_maySee (l : Launch) (hl9 : l.stackTraces = false) (D : va_G) (A : Nat → Nat) (r : va_W) (sz : Nat) (σ : KS) (x1 x2 : Int32) (z : Int32) (h : f_Ke_maySee σ x1 x2 = some z) : Met l y_Ke_maySee (Cond.code y_Ke_maySee b_Ke_maySee 3 (some .boolean) :: T0) ({ frames := 2, cells := 0, slots := 0, locals := 45 } : Room) (va_Pc [.ref (A 0), .int x1, .int x2] (ka_Wd D A (GW A σ r) sz)) (ka_Ri D z (GW A σ r) (va_A (GW A σ r) sz)) 0 0 (va_A (GW A σ r) sz) := by
  unfold f_Ke_maySee at h
  refine ka_of (own := R_Ke) (fun A9 => ka_Ri D z (GW A σ r) A9) (by decide) rfl (Nat.le_of_ble_eq_true rfl) ?_
  intro p e s m below meth c A9 ls S9 hr hlk hex X9 hP hD hl
  obtain ⟨hx, hb, hml, hown, hts⟩ := id S9
  have hK := X9.2.1
  have hS : va_S A9 s.heap s.heap [] := va_S.rf
  replace hl : lv_has ls 3 [(0, .ref (A 0)), (1, .int x1), (2, .int x2)] := hl
  refine lv_aload_n hx hb d_Ke_maySee_0 rfl (lv_at hl 0 rfl) ?_
  refine va_get (D := D) (ci := 4) (v := .ref (A 2)) (C := R_Ke) (T := T_Ke) (N := 5) hx hb hts wu_Ke hown hK hP 0 rfl rfl 2 (by decide) (hts _ wf_Ke_23) (fun _ h9 => h9) rfl d_Ke_maySee_1 ?_
  refine lv_aload_n hx hb d_Ke_maySee_4 rfl (lv_at hl 0 rfl) ?_
  refine va_get (D := D) (ci := 4) (v := .ref (A 4)) (C := R_Ke) (T := T_Ke) (N := 5) hx hb hts wu_Ke hown hK hP 0 rfl rfl 3 (by decide) (hts _ wf_Ke_28) (fun _ h9 => h9) rfl d_Ke_maySee_5 ?_
  refine lv_iload_n hx hb d_Ke_maySee_8 rfl (lv_at hl 2 rfl) ?_
  obtain ⟨v1, e9, h⟩ := zo_b h
  refine ka_i (va_runV (As := [.int x2]) (rest := [.ref (A 2)]) S9 (c_Tg_labelOf l hl9 D A r _ σ x2 _ e9) (cwV 1 hts (tg_V wl_Ke_85 wm_Tg_labelOf we_Tg_labelOf wi_Tg wo_Tg_labelOf) rfl rfl rfl wq_Tg_labelOf ⟨Nat.le_of_ble_eq_true rfl, Nat.le_of_ble_eq_true rfl⟩) (ka_preV X9 hP hD hS 4 rfl rfl) rfl rfl hl.1 rfl (lv_room (Nat.le_of_ble_eq_true rfl)) d_Ke_maySee_9 ⟨Nat.le_of_ble_eq_true rfl, Nat.le_of_ble_eq_true rfl⟩) X9 hD hS rfl (fun H locs hP hD hS => ?_)
  refine lv_aload_n hx hb d_Ke_maySee_12 rfl (lv_at hl 0 rfl) ?_
  refine va_get (D := D) (ci := 4) (v := .ref (A 4)) (C := R_Ke) (T := T_Ke) (N := 5) hx hb hts wu_Ke hown hK hP 0 rfl rfl 3 (by decide) (hts _ wf_Ke_28) (fun _ h9 => h9) rfl d_Ke_maySee_13 ?_
  refine lv_iload_n hx hb d_Ke_maySee_16 rfl (lv_at hl 1 rfl) ?_
  obtain ⟨v2, e9, h⟩ := zo_b h
  refine ka_i (va_runV (As := [.int x1]) (rest := [.int v1, .ref (A 2)]) S9 (c_Tg_labelOf l hl9 D A r _ σ x1 _ e9) (cwV 1 hts (tg_V wl_Ke_85 wm_Tg_labelOf we_Tg_labelOf wi_Tg wo_Tg_labelOf) rfl rfl rfl wq_Tg_labelOf ⟨Nat.le_of_ble_eq_true rfl, Nat.le_of_ble_eq_true rfl⟩) (ka_preV X9 hP hD hS 4 rfl rfl) rfl rfl hl.1 rfl (lv_room (Nat.le_of_ble_eq_true rfl)) d_Ke_maySee_17 ⟨Nat.le_of_ble_eq_true rfl, Nat.le_of_ble_eq_true rfl⟩) X9 hD hS rfl (fun H locs hP hD hS => ?_)
  obtain ⟨v3, e9, h⟩ := zo_b h
  refine ka_i (va_runV (As := [.int v1, .int v2]) (rest := []) S9 (c_Lb_fitsHigh l hl9 D A r _ σ v1 v2 _ e9) (cwV 2 hts (tg_V wl_Ke_70 wm_Lb_fitsHigh we_Lb_fitsHigh wi_Lb wo_Lb_fitsHigh) rfl rfl rfl wq_Lb_fitsHigh ⟨Nat.le_of_ble_eq_true rfl, Nat.le_of_ble_eq_true rfl⟩) (ka_preV X9 hP hD hS 2 rfl rfl) rfl rfl hl.1 rfl (lv_room (Nat.le_of_ble_eq_true rfl)) d_Ke_maySee_20 ⟨Nat.le_of_ble_eq_true rfl, Nat.le_of_ble_eq_true rfl⟩) X9 hD hS rfl (fun H locs hP hD hS => ?_)
  obtain ⟨b9, h⟩ := zo_g h
  cases h
  exact W.zret hx hb hr (zo_nar b9) (fun t ht hW => ⟨⟨_, (), rfl, rfl, ka_at ht hP⟩, hS.F ht⟩) hS.2.2 d_Ke_maySee_23 hlk
def f_Ke_mayChange (σ : KS) (x1 x2 : Int32) : Option (Int32) := (f_Ke_maySee σ x1 x2).bind fun v1 => if v1 = 0 then (some 0) else ((f_Tg_labelOf σ x1).bind fun v3 => (f_Tg_labelOf σ x2).bind fun v4 => (f_Lb_fitsUnder σ v3 v4).bind fun v5 => if v5 = 0 then (some 0) else (some 1))
set_option maxRecDepth 100000 in
set_option maxHeartbeats 4000000 in
theorem c_Ke_mayChange (l : Launch) (hl9 : l.stackTraces = false) (D : va_G) (A : Nat → Nat) (r : va_W) (sz : Nat) (σ : KS) (x1 x2 : Int32) (z : Int32) (h : f_Ke_mayChange σ x1 x2 = some z) : Met l y_Ke_mayChange (Cond.code y_Ke_mayChange b_Ke_mayChange 3 (some .boolean) :: T0) ({ frames := 3, cells := 0, slots := 0, locals := 67 } : Room) (va_Pc [.ref (A 0), .int x1, .int x2] (ka_Wd D A (GW A σ r) sz)) (ka_Ri D z (GW A σ r) (va_A (GW A σ r) sz)) 0 0 (va_A (GW A σ r) sz) := by
  unfold f_Ke_mayChange at h
  refine ka_of (own := R_Ke) (fun A9 => ka_Ri D z (GW A σ r) A9) (by decide) rfl (Nat.le_of_ble_eq_true rfl) ?_
  intro p e s m below meth c A9 ls S9 hr hlk hex X9 hP hD hl
  obtain ⟨hx, hb, hml, hown, hts⟩ := id S9
  have hK := X9.2.1
  have hS : va_S A9 s.heap s.heap [] := va_S.rf
  replace hl : lv_has ls 3 [(0, .ref (A 0)), (1, .int x1), (2, .int x2)] := hl
  refine lv_aload_n hx hb d_Ke_mayChange_0 rfl (lv_at hl 0 rfl) ?_
  refine lv_iload_n hx hb d_Ke_mayChange_1 rfl (lv_at hl 1 rfl) ?_
  refine lv_iload_n hx hb d_Ke_mayChange_2 rfl (lv_at hl 2 rfl) ?_
  obtain ⟨v1, e9, h⟩ := zo_b h
  refine ka_i (va_runV (As := [.int x1, .int x2]) (rest := []) S9 (c_Ke_maySee l hl9 D A r _ σ x1 x2 _ e9) (cwV 2 hts (tg_V wl_Ke_130 wm_Ke_maySee we_Ke_maySee wi_Ke wo_Ke_maySee) rfl rfl rfl wq_Ke_maySee ⟨Nat.le_of_ble_eq_true rfl, Nat.le_of_ble_eq_true rfl⟩) (ka_preV X9 hP hD hS 0 rfl rfl) rfl rfl hl.1 rfl (lv_room (Nat.le_of_ble_eq_true rfl)) d_Ke_mayChange_3 ⟨Nat.le_of_ble_eq_true rfl, Nat.le_of_ble_eq_true rfl⟩) X9 hD hS rfl (fun H locs hP hD hS => ?_)
  refine lv_if_eq (tgt := 39) hx hb d_Ke_mayChange_6 (by decide) (fun c2 => ?_) (fun c2 => ?_)
  · replace h := zo_t c2 h
    refine lv_iconst (v := 0) hx hb d_Ke_mayChange_39 (by decide) ?_
    cases h
    exact W.zret hx hb hr (by decide) (fun t ht hW => ⟨⟨_, (), rfl, rfl, ka_at ht hP⟩, hS.F ht⟩) hS.2.2 d_Ke_mayChange_40 hlk
  replace h := zo_f c2 h
  refine lv_aload_n hx hb d_Ke_mayChange_9 rfl (lv_at hl 0 rfl) ?_
  refine va_get (D := D) (ci := 4) (v := .ref (A 2)) (C := R_Ke) (T := T_Ke) (N := 5) hx hb hts wu_Ke hown hK hP 0 rfl rfl 2 (by decide) (hts _ wf_Ke_23) (fun _ h9 => h9) rfl d_Ke_mayChange_10 ?_
  refine lv_aload_n hx hb d_Ke_mayChange_13 rfl (lv_at hl 0 rfl) ?_
  refine va_get (D := D) (ci := 4) (v := .ref (A 4)) (C := R_Ke) (T := T_Ke) (N := 5) hx hb hts wu_Ke hown hK hP 0 rfl rfl 3 (by decide) (hts _ wf_Ke_28) (fun _ h9 => h9) rfl d_Ke_mayChange_14 ?_
  refine lv_iload_n hx hb d_Ke_mayChange_17 rfl (lv_at hl 1 rfl) ?_
  obtain ⟨v3, e9, h⟩ := zo_b h
  refine ka_i (va_runV (As := [.int x1]) (rest := [.ref (A 2)]) S9 (c_Tg_labelOf l hl9 D A r _ σ x1 _ e9) (cwV 1 hts (tg_V wl_Ke_85 wm_Tg_labelOf we_Tg_labelOf wi_Tg wo_Tg_labelOf) rfl rfl rfl wq_Tg_labelOf ⟨Nat.le_of_ble_eq_true rfl, Nat.le_of_ble_eq_true rfl⟩) (ka_preV X9 hP hD hS 4 rfl rfl) rfl rfl hl.1 rfl (lv_room (Nat.le_of_ble_eq_true rfl)) d_Ke_mayChange_18 ⟨Nat.le_of_ble_eq_true rfl, Nat.le_of_ble_eq_true rfl⟩) X9 hD hS rfl (fun H locs hP hD hS => ?_)
  refine lv_aload_n hx hb d_Ke_mayChange_21 rfl (lv_at hl 0 rfl) ?_
  refine va_get (D := D) (ci := 4) (v := .ref (A 4)) (C := R_Ke) (T := T_Ke) (N := 5) hx hb hts wu_Ke hown hK hP 0 rfl rfl 3 (by decide) (hts _ wf_Ke_28) (fun _ h9 => h9) rfl d_Ke_mayChange_22 ?_
  refine lv_iload_n hx hb d_Ke_mayChange_25 rfl (lv_at hl 2 rfl) ?_
  obtain ⟨v4, e9, h⟩ := zo_b h
  refine ka_i (va_runV (As := [.int x2]) (rest := [.int v3, .ref (A 2)]) S9 (c_Tg_labelOf l hl9 D A r _ σ x2 _ e9) (cwV 1 hts (tg_V wl_Ke_85 wm_Tg_labelOf we_Tg_labelOf wi_Tg wo_Tg_labelOf) rfl rfl rfl wq_Tg_labelOf ⟨Nat.le_of_ble_eq_true rfl, Nat.le_of_ble_eq_true rfl⟩) (ka_preV X9 hP hD hS 4 rfl rfl) rfl rfl hl.1 rfl (lv_room (Nat.le_of_ble_eq_true rfl)) d_Ke_mayChange_26 ⟨Nat.le_of_ble_eq_true rfl, Nat.le_of_ble_eq_true rfl⟩) X9 hD hS rfl (fun H locs hP hD hS => ?_)
  obtain ⟨v5, e9, h⟩ := zo_b h
  refine ka_i (va_runV (As := [.int v3, .int v4]) (rest := []) S9 (c_Lb_fitsUnder l hl9 D A r _ σ v3 v4 _ e9) (cwV 2 hts (tg_V wl_Ke_74 wm_Lb_fitsUnder we_Lb_fitsUnder wi_Lb wo_Lb_fitsUnder) rfl rfl rfl wq_Lb_fitsUnder ⟨Nat.le_of_ble_eq_true rfl, Nat.le_of_ble_eq_true rfl⟩) (ka_preV X9 hP hD hS 2 rfl rfl) rfl rfl hl.1 rfl (lv_room (Nat.le_of_ble_eq_true rfl)) d_Ke_mayChange_29 ⟨Nat.le_of_ble_eq_true rfl, Nat.le_of_ble_eq_true rfl⟩) X9 hD hS rfl (fun H locs hP hD hS => ?_)
  refine lv_if_eq (tgt := 39) hx hb d_Ke_mayChange_32 (by decide) (fun c6 => ?_) (fun c6 => ?_)
  · replace h := zo_t c6 h
    refine lv_iconst (v := 0) hx hb d_Ke_mayChange_39 (by decide) ?_
    cases h
    exact W.zret hx hb hr (by decide) (fun t ht hW => ⟨⟨_, (), rfl, rfl, ka_at ht hP⟩, hS.F ht⟩) hS.2.2 d_Ke_mayChange_40 hlk
  replace h := zo_f c6 h
  refine lv_iconst (v := 1) hx hb d_Ke_mayChange_35 (by decide) ?_
  refine lv_goto (tgt := 40) hx hb d_Ke_mayChange_36 (by decide) ?_
  cases h
  exact W.zret hx hb hr (by decide) (fun t ht hW => ⟨⟨_, (), rfl, rfl, ka_at ht hP⟩, hS.F ht⟩) hS.2.2 d_Ke_mayChange_40 hlk
set_option maxRecDepth 100000 in
set_option maxHeartbeats 4000000 in
theorem c_Ke_needAllowed_ok (l : Launch) (hl9 : l.stackTraces = false) (D : va_G) (A : Nat → Nat) (w : va_W) (sz : Nat) (x0 : Int32) (h : ¬ x0 = 0) : Met l y_Ke_needAllowed (Cond.code y_Ke_needAllowed b_Ke_needAllowed 1 none :: T0) ({ frames := 0, cells := 0, slots := 0, locals := 0 } : Room) (va_Pc [.int x0] (ka_Wd D A (w) sz)) (ka_Rv D (w) (va_A (w) sz)) 0 0 (va_A (w) sz) := by
  refine ka_of (own := R_Ke) (fun A9 => ka_Rv D (w) A9) (by decide) rfl (Nat.le_of_ble_eq_true rfl) ?_
  intro p e s m below meth c A9 ls S9 hr hlk hex X9 hP hD hl
  obtain ⟨hx, hb, hml, hown, hts⟩ := id S9
  have hK := X9.2.1
  have hS : va_S A9 s.heap s.heap [] := va_S.rf
  replace hl : lv_has ls 1 [(0, .int x0)] := hl
  refine lv_iload_n hx hb d_Ke_needAllowed_0 rfl (lv_at hl 0 rfl) ?_
  refine lv_if_ne (tgt := 12) hx hb d_Ke_needAllowed_1 (by decide) (fun c9 => ?_) (fun c9 => ?_)
  · exact W.vret hx hb hr (fun t ht hW => ⟨⟨(), rfl, trivial, ka_at ht hP⟩, hS.F ht⟩) hS.2.2 d_Ke_needAllowed_12 hlk
  exact absurd c9 h
set_option maxRecDepth 100000 in
set_option maxHeartbeats 4000000 in
theorem c_Ke_needAllowed_err (l : Launch) (hl9 : l.stackTraces = false) (D : va_G) (A : Nat → Nat) (w : va_W) (sz : Nat) (x0 : Int32) (h : x0 = 0) : vx_Met l y_Ke_needAllowed (Cond.code y_Ke_needAllowed b_Ke_needAllowed 1 none :: T0) ({ frames := 6, cells := 1, slots := 6, locals := 81 } : Room) (va_Pc [.int x0] (ka_Wd D A (w) sz)) ka_No (ka_Xe D 3 (w) (va_A (w) sz)) 1 6 (va_A (w) sz) := by
  refine ka_ofX (own := R_Ke) (fun A9 => ka_Xe D 3 (w) A9) (by decide) rfl (Nat.le_of_ble_eq_true rfl) ?_
  intro p e s m below meth c A9 ls S9 hr hlk hex X9 hP hD hl
  obtain ⟨hx, hb, hml, hown, hts⟩ := id S9
  have hK := X9.2.1
  have hS : va_S A9 s.heap s.heap [] := va_S.rf
  replace hl : lv_has ls 1 [(0, .int x0)] := hl
  refine lv_iload_n hx hb d_Ke_needAllowed_0 rfl (lv_at hl 0 rfl) ?_
  refine lv_if_ne (tgt := 12) hx hb d_Ke_needAllowed_1 (by decide) (fun c9 => ?_) (fun c9 => ?_)
  · exact absurd h c9
  exact vx_throw0 hx hb hl9 (own := R_Ke) (cls := "java/lang/UnsupportedOperationException") (names := ["java/lang/RuntimeException", "java/lang/Exception"]) (ik := 274) (ic := 276) hown (by decide) (by decide) (hts _ wc_Ke_274) (hts _ wi_UnsupportedOperationException) (ka_hat_UnsupportedOperationException hts X9.2.2.2.2) ka_hg_UnsupportedOperationException X9.2.2.1 X9.2.2.2.1 hS (hml ▸ hl.1) d_Ke_needAllowed_4 d_Ke_needAllowed_7 d_Ke_needAllowed_8 d_Ke_needAllowed_11 (fun x hx9 => (hex x hx9).elim) (Nat.le_of_ble_eq_true rfl) (Nat.le_of_ble_eq_true rfl) (Nat.le_of_ble_eq_true rfl) (Nat.le_of_ble_eq_true rfl) hlk (fun t ha hz hk => ⟨(), trivial, ⟨rfl, hP.kept (fun k q hq => hk q.1 (hP k q hq).lt)⟩, hz, fun q h1 _ => hk q h1⟩) (fun z hz => by cases hz) (Nat.le_of_ble_eq_true rfl) (Nat.le_of_ble_eq_true rfl)
def f_Ke_mayBear (σ : KS) (x1 x2 : Int32) : Option (Int32) := (f_Tg_labelOf σ x1).bind fun v1 => (f_Lb_fitsUnder σ v1 x2).bind fun v2 => if v2 = 0 then (some 0) else ((f_Tg_clearanceOf σ x1).bind fun v4 => (f_Lb_fitsUnder σ x2 v4).bind fun v5 => if v5 = 0 then (some 0) else ((f_Lb_hasStarsOnlyOf σ x2 v1).bind fun v7 => if v7 = 0 then (some 0) else (some 1)))
set_option maxRecDepth 100000 in
set_option maxHeartbeats 4000000 in
theorem c_Ke_mayBear (l : Launch) (hl9 : l.stackTraces = false) (D : va_G) (A : Nat → Nat) (r : va_W) (sz : Nat) (σ : KS) (x1 x2 : Int32) (z : Int32) (h : f_Ke_mayBear σ x1 x2 = some z) : Met l y_Ke_mayBear (Cond.code y_Ke_mayBear b_Ke_mayBear 4 (some .boolean) :: T0) ({ frames := 2, cells := 0, slots := 0, locals := 45 } : Room) (va_Pc [.ref (A 0), .int x1, .int x2] (ka_Wd D A (GW A σ r) sz)) (ka_Ri D z (GW A σ r) (va_A (GW A σ r) sz)) 0 0 (va_A (GW A σ r) sz) := by
  unfold f_Ke_mayBear at h
  refine ka_of (own := R_Ke) (fun A9 => ka_Ri D z (GW A σ r) A9) (by decide) rfl (Nat.le_of_ble_eq_true rfl) ?_
  intro p e s m below meth c A9 ls S9 hr hlk hex X9 hP hD hl
  obtain ⟨hx, hb, hml, hown, hts⟩ := id S9
  have hK := X9.2.1
  have hS : va_S A9 s.heap s.heap [] := va_S.rf
  replace hl : lv_has ls 4 [(0, .ref (A 0)), (1, .int x1), (2, .int x2)] := hl
  refine lv_aload_n hx hb d_Ke_mayBear_0 rfl (lv_at hl 0 rfl) ?_
  refine va_get (D := D) (ci := 4) (v := .ref (A 4)) (C := R_Ke) (T := T_Ke) (N := 5) hx hb hts wu_Ke hown hK hP 0 rfl rfl 3 (by decide) (hts _ wf_Ke_28) (fun _ h9 => h9) rfl d_Ke_mayBear_1 ?_
  refine lv_iload_n hx hb d_Ke_mayBear_4 rfl (lv_at hl 1 rfl) ?_
  obtain ⟨v1, e9, h⟩ := zo_b h
  refine ka_i (va_runV (As := [.int x1]) (rest := []) S9 (c_Tg_labelOf l hl9 D A r _ σ x1 _ e9) (cwV 1 hts (tg_V wl_Ke_85 wm_Tg_labelOf we_Tg_labelOf wi_Tg wo_Tg_labelOf) rfl rfl rfl wq_Tg_labelOf ⟨Nat.le_of_ble_eq_true rfl, Nat.le_of_ble_eq_true rfl⟩) (ka_preV X9 hP hD hS 4 rfl rfl) rfl rfl hl.1 rfl (lv_room (Nat.le_of_ble_eq_true rfl)) d_Ke_mayBear_5 ⟨Nat.le_of_ble_eq_true rfl, Nat.le_of_ble_eq_true rfl⟩) X9 hD hS rfl (fun H locs hP hD hS => ?_)
  refine lv_istore_n (lv' := [(3, .int v1), (0, .ref (A 0)), (1, .int x1), (2, .int x2)]) hx hb d_Ke_mayBear_8 rfl hl (by decide) rfl (fun ls hl => ?_)
  refine lv_aload_n hx hb d_Ke_mayBear_9 rfl (lv_at hl 1 rfl) ?_
  refine va_get (D := D) (ci := 4) (v := .ref (A 2)) (C := R_Ke) (T := T_Ke) (N := 5) hx hb hts wu_Ke hown hK hP 0 rfl rfl 2 (by decide) (hts _ wf_Ke_23) (fun _ h9 => h9) rfl d_Ke_mayBear_10 ?_
  refine lv_iload_n hx hb d_Ke_mayBear_13 rfl (lv_at hl 0 rfl) ?_
  refine lv_iload_n hx hb d_Ke_mayBear_14 rfl (lv_at hl 3 rfl) ?_
  obtain ⟨v2, e9, h⟩ := zo_b h
  refine ka_i (va_runV (As := [.int v1, .int x2]) (rest := []) S9 (c_Lb_fitsUnder l hl9 D A r _ σ v1 x2 _ e9) (cwV 2 hts (tg_V wl_Ke_74 wm_Lb_fitsUnder we_Lb_fitsUnder wi_Lb wo_Lb_fitsUnder) rfl rfl rfl wq_Lb_fitsUnder ⟨Nat.le_of_ble_eq_true rfl, Nat.le_of_ble_eq_true rfl⟩) (ka_preV X9 hP hD hS 2 rfl rfl) rfl rfl hl.1 rfl (lv_room (Nat.le_of_ble_eq_true rfl)) d_Ke_mayBear_15 ⟨Nat.le_of_ble_eq_true rfl, Nat.le_of_ble_eq_true rfl⟩) X9 hD hS rfl (fun H locs hP hD hS => ?_)
  refine lv_if_eq (tgt := 56) hx hb d_Ke_mayBear_18 (by decide) (fun c3 => ?_) (fun c3 => ?_)
  · replace h := zo_t c3 h
    refine lv_iconst (v := 0) hx hb d_Ke_mayBear_56 (by decide) ?_
    cases h
    exact W.zret hx hb hr (by decide) (fun t ht hW => ⟨⟨_, (), rfl, rfl, ka_at ht hP⟩, hS.F ht⟩) hS.2.2 d_Ke_mayBear_57 hlk
  replace h := zo_f c3 h
  refine lv_aload_n hx hb d_Ke_mayBear_21 rfl (lv_at hl 1 rfl) ?_
  refine va_get (D := D) (ci := 4) (v := .ref (A 2)) (C := R_Ke) (T := T_Ke) (N := 5) hx hb hts wu_Ke hown hK hP 0 rfl rfl 2 (by decide) (hts _ wf_Ke_23) (fun _ h9 => h9) rfl d_Ke_mayBear_22 ?_
  refine lv_iload_n hx hb d_Ke_mayBear_25 rfl (lv_at hl 3 rfl) ?_
  refine lv_aload_n hx hb d_Ke_mayBear_26 rfl (lv_at hl 1 rfl) ?_
  refine va_get (D := D) (ci := 4) (v := .ref (A 4)) (C := R_Ke) (T := T_Ke) (N := 5) hx hb hts wu_Ke hown hK hP 0 rfl rfl 3 (by decide) (hts _ wf_Ke_28) (fun _ h9 => h9) rfl d_Ke_mayBear_27 ?_
  refine lv_iload_n hx hb d_Ke_mayBear_30 rfl (lv_at hl 2 rfl) ?_
  obtain ⟨v4, e9, h⟩ := zo_b h
  refine ka_i (va_runV (As := [.int x1]) (rest := [.int x2, .ref (A 2)]) S9 (c_Tg_clearanceOf l hl9 D A r _ σ x1 _ e9) (cwV 1 hts (tg_V wl_Ke_90 wm_Tg_clearanceOf we_Tg_clearanceOf wi_Tg wo_Tg_clearanceOf) rfl rfl rfl wq_Tg_clearanceOf ⟨Nat.le_of_ble_eq_true rfl, Nat.le_of_ble_eq_true rfl⟩) (ka_preV X9 hP hD hS 4 rfl rfl) rfl rfl hl.1 rfl (lv_room (Nat.le_of_ble_eq_true rfl)) d_Ke_mayBear_31 ⟨Nat.le_of_ble_eq_true rfl, Nat.le_of_ble_eq_true rfl⟩) X9 hD hS rfl (fun H locs hP hD hS => ?_)
  obtain ⟨v5, e9, h⟩ := zo_b h
  refine ka_i (va_runV (As := [.int x2, .int v4]) (rest := []) S9 (c_Lb_fitsUnder l hl9 D A r _ σ x2 v4 _ e9) (cwV 2 hts (tg_V wl_Ke_74 wm_Lb_fitsUnder we_Lb_fitsUnder wi_Lb wo_Lb_fitsUnder) rfl rfl rfl wq_Lb_fitsUnder ⟨Nat.le_of_ble_eq_true rfl, Nat.le_of_ble_eq_true rfl⟩) (ka_preV X9 hP hD hS 2 rfl rfl) rfl rfl hl.1 rfl (lv_room (Nat.le_of_ble_eq_true rfl)) d_Ke_mayBear_34 ⟨Nat.le_of_ble_eq_true rfl, Nat.le_of_ble_eq_true rfl⟩) X9 hD hS rfl (fun H locs hP hD hS => ?_)
  refine lv_if_eq (tgt := 56) hx hb d_Ke_mayBear_37 (by decide) (fun c6 => ?_) (fun c6 => ?_)
  · replace h := zo_t c6 h
    refine lv_iconst (v := 0) hx hb d_Ke_mayBear_56 (by decide) ?_
    cases h
    exact W.zret hx hb hr (by decide) (fun t ht hW => ⟨⟨_, (), rfl, rfl, ka_at ht hP⟩, hS.F ht⟩) hS.2.2 d_Ke_mayBear_57 hlk
  replace h := zo_f c6 h
  refine lv_aload_n hx hb d_Ke_mayBear_40 rfl (lv_at hl 1 rfl) ?_
  refine va_get (D := D) (ci := 4) (v := .ref (A 2)) (C := R_Ke) (T := T_Ke) (N := 5) hx hb hts wu_Ke hown hK hP 0 rfl rfl 2 (by decide) (hts _ wf_Ke_23) (fun _ h9 => h9) rfl d_Ke_mayBear_41 ?_
  refine lv_iload_n hx hb d_Ke_mayBear_44 rfl (lv_at hl 3 rfl) ?_
  refine lv_iload_n hx hb d_Ke_mayBear_45 rfl (lv_at hl 0 rfl) ?_
  obtain ⟨v7, e9, h⟩ := zo_b h
  refine ka_i (va_runV (As := [.int x2, .int v1]) (rest := []) S9 (c_Lb_hasStarsOnlyOf l hl9 D A r _ σ x2 v1 _ e9) (cwV 2 hts (tg_V wl_Ke_265 wm_Lb_hasStarsOnlyOf we_Lb_hasStarsOnlyOf wi_Lb wo_Lb_hasStarsOnlyOf) rfl rfl rfl wq_Lb_hasStarsOnlyOf ⟨Nat.le_of_ble_eq_true rfl, Nat.le_of_ble_eq_true rfl⟩) (ka_preV X9 hP hD hS 2 rfl rfl) rfl rfl hl.1 rfl (lv_room (Nat.le_of_ble_eq_true rfl)) d_Ke_mayBear_46 ⟨Nat.le_of_ble_eq_true rfl, Nat.le_of_ble_eq_true rfl⟩) X9 hD hS rfl (fun H locs hP hD hS => ?_)
  refine lv_if_eq (tgt := 56) hx hb d_Ke_mayBear_49 (by decide) (fun c8 => ?_) (fun c8 => ?_)
  · replace h := zo_t c8 h
    refine lv_iconst (v := 0) hx hb d_Ke_mayBear_56 (by decide) ?_
    cases h
    exact W.zret hx hb hr (by decide) (fun t ht hW => ⟨⟨_, (), rfl, rfl, ka_at ht hP⟩, hS.F ht⟩) hS.2.2 d_Ke_mayBear_57 hlk
  replace h := zo_f c8 h
  refine lv_iconst (v := 1) hx hb d_Ke_mayBear_52 (by decide) ?_
  refine lv_goto (tgt := 57) hx hb d_Ke_mayBear_53 (by decide) ?_
  cases h
  exact W.zret hx hb hr (by decide) (fun t ht hW => ⟨⟨_, (), rfl, rfl, ka_at ht hP⟩, hS.F ht⟩) hS.2.2 d_Ke_mayBear_57 hlk
def f_Ke_needMayMake (σ : KS) (x1 x2 x3 : Int32) : Option (Except Nat Unit × KS) := (f_Ke_mayChange σ x1 x2).bind fun v1 => if v1 = 0 then (some (.error 3, σ)) else ((f_Ke_mayBear σ x1 x3).bind fun v3 => if v3 = 0 then (some (.error 3, σ)) else (some (.ok (), σ)))
set_option maxRecDepth 100000 in
set_option maxHeartbeats 4000000 in
theorem c_Ke_needMayMake_ok (l : Launch) (hl9 : l.stackTraces = false) (D : va_G) (A : Nat → Nat) (r : va_W) (sz : Nat) (σ : KS) (x1 x2 x3 : Int32) (z9 : Unit) (z : KS) (h : f_Ke_needMayMake σ x1 x2 x3 = some (.ok z9, z)) : Met l y_Ke_needMayMake (Cond.code y_Ke_needMayMake b_Ke_needMayMake 4 none :: T0) ({ frames := 4, cells := 0, slots := 0, locals := 89 } : Room) (va_Pc [.ref (A 0), .int x1, .int x2, .int x3] (ka_Wd D A (GW A σ r) sz)) (ka_Rv D (GW A z r) (va_A (GW A σ r) sz)) 0 0 (va_A (GW A σ r) sz) := by
  unfold f_Ke_needMayMake at h
  refine ka_of (own := R_Ke) (fun A9 => ka_Rv D (GW A z r) A9) (by decide) rfl (Nat.le_of_ble_eq_true rfl) ?_
  intro p e s m below meth c A9 ls S9 hr hlk hex X9 hP hD hl
  obtain ⟨hx, hb, hml, hown, hts⟩ := id S9
  have hK := X9.2.1
  have hS : va_S A9 s.heap s.heap [] := va_S.rf
  replace hl : lv_has ls 4 [(0, .ref (A 0)), (1, .int x1), (2, .int x2), (3, .int x3)] := hl
  refine lv_aload_n hx hb d_Ke_needMayMake_0 rfl (lv_at hl 0 rfl) ?_
  refine lv_iload_n hx hb d_Ke_needMayMake_1 rfl (lv_at hl 1 rfl) ?_
  refine lv_iload_n hx hb d_Ke_needMayMake_2 rfl (lv_at hl 2 rfl) ?_
  obtain ⟨v1, e9, h⟩ := zo_b h
  refine ka_i (va_runV (As := [.int x1, .int x2]) (rest := []) S9 (c_Ke_mayChange l hl9 D A r _ σ x1 x2 _ e9) (cwV 2 hts (tg_V wl_Ke_136 wm_Ke_mayChange we_Ke_mayChange wi_Ke wo_Ke_mayChange) rfl rfl rfl wq_Ke_mayChange ⟨Nat.le_of_ble_eq_true rfl, Nat.le_of_ble_eq_true rfl⟩) (ka_preV X9 hP hD hS 0 rfl rfl) rfl rfl hl.1 rfl (lv_room (Nat.le_of_ble_eq_true rfl)) d_Ke_needMayMake_3 ⟨Nat.le_of_ble_eq_true rfl, Nat.le_of_ble_eq_true rfl⟩) X9 hD hS rfl (fun H locs hP hD hS => ?_)
  refine lv_if_eq (tgt := 22) hx hb d_Ke_needMayMake_6 (by decide) (fun c2 => ?_) (fun c2 => ?_)
  · replace h := zo_t c2 h
    refine lv_iconst (v := 0) hx hb d_Ke_needMayMake_22 (by decide) ?_
    cases h
  replace h := zo_f c2 h
  refine lv_aload_n hx hb d_Ke_needMayMake_9 rfl (lv_at hl 0 rfl) ?_
  refine lv_iload_n hx hb d_Ke_needMayMake_10 rfl (lv_at hl 1 rfl) ?_
  refine lv_iload_n hx hb d_Ke_needMayMake_11 rfl (lv_at hl 3 rfl) ?_
  obtain ⟨v3, e9, h⟩ := zo_b h
  refine ka_i (va_runV (As := [.int x1, .int x3]) (rest := []) S9 (c_Ke_mayBear l hl9 D A r _ σ x1 x3 _ e9) (cwV 2 hts (tg_V wl_Ke_157 wm_Ke_mayBear we_Ke_mayBear wi_Ke wo_Ke_mayBear) rfl rfl rfl wq_Ke_mayBear ⟨Nat.le_of_ble_eq_true rfl, Nat.le_of_ble_eq_true rfl⟩) (ka_preV X9 hP hD hS 0 rfl rfl) rfl rfl hl.1 rfl (lv_room (Nat.le_of_ble_eq_true rfl)) d_Ke_needMayMake_12 ⟨Nat.le_of_ble_eq_true rfl, Nat.le_of_ble_eq_true rfl⟩) X9 hD hS rfl (fun H locs hP hD hS => ?_)
  refine lv_if_eq (tgt := 22) hx hb d_Ke_needMayMake_15 (by decide) (fun c4 => ?_) (fun c4 => ?_)
  · replace h := zo_t c4 h
    refine lv_iconst (v := 0) hx hb d_Ke_needMayMake_22 (by decide) ?_
    cases h
  replace h := zo_f c4 h
  refine lv_iconst (v := 1) hx hb d_Ke_needMayMake_18 (by decide) ?_
  refine lv_goto (tgt := 23) hx hb d_Ke_needMayMake_19 (by decide) ?_
  refine ka_v (va_runS (As := [.int 1]) (rest := []) S9 (c_Ke_needAllowed_ok l hl9 D A (GW A σ r) _ 1 (by decide)) (cwS 1 hts (tg_S wl_Ke_123 ws_Ke_needAllowed wi_Ke wo_Ke_needAllowed) rfl rfl rfl wq_Ke_needAllowed ⟨Nat.le_of_ble_eq_true rfl, Nat.le_of_ble_eq_true rfl⟩) (ka_preS X9 hP hD hS) rfl rfl hl.1 rfl (lv_room (Nat.le_of_ble_eq_true rfl)) d_Ke_needMayMake_23 ⟨Nat.le_of_ble_eq_true rfl, Nat.le_of_ble_eq_true rfl⟩) X9 hD hS rfl (fun H locs hP hD hS => ?_)
  cases h
  exact W.vret hx hb hr (fun t ht hW => ⟨⟨(), rfl, trivial, ka_at ht hP⟩, hS.F ht⟩) hS.2.2 d_Ke_needMayMake_26 hlk
set_option maxRecDepth 100000 in
set_option maxHeartbeats 4000000 in
theorem c_Ke_needMayMake_err (l : Launch) (hl9 : l.stackTraces = false) (D : va_G) (A : Nat → Nat) (r : va_W) (sz : Nat) (σ : KS) (x1 x2 x3 : Int32) (k9 : Nat) (z : KS) (h : f_Ke_needMayMake σ x1 x2 x3 = some (.error k9, z)) : vx_Met l y_Ke_needMayMake (Cond.code y_Ke_needMayMake b_Ke_needMayMake 4 none :: T0) ({ frames := 7, cells := 1, slots := 6, locals := 101 } : Room) (va_Pc [.ref (A 0), .int x1, .int x2, .int x3] (ka_Wd D A (GW A σ r) sz)) ka_No (ka_Xe D k9 (GW A z r) (va_A (GW A σ r) sz)) 1 6 (va_A (GW A σ r) sz) := by
  unfold f_Ke_needMayMake at h
  refine ka_ofX (own := R_Ke) (fun A9 => ka_Xe D k9 (GW A z r) A9) (by decide) rfl (Nat.le_of_ble_eq_true rfl) ?_
  intro p e s m below meth c A9 ls S9 hr hlk hex X9 hP hD hl
  obtain ⟨hx, hb, hml, hown, hts⟩ := id S9
  have hK := X9.2.1
  have hS : va_S A9 s.heap s.heap [] := va_S.rf
  replace hl : lv_has ls 4 [(0, .ref (A 0)), (1, .int x1), (2, .int x2), (3, .int x3)] := hl
  refine lv_aload_n hx hb d_Ke_needMayMake_0 rfl (lv_at hl 0 rfl) ?_
  refine lv_iload_n hx hb d_Ke_needMayMake_1 rfl (lv_at hl 1 rfl) ?_
  refine lv_iload_n hx hb d_Ke_needMayMake_2 rfl (lv_at hl 2 rfl) ?_
  obtain ⟨v1, e9, h⟩ := zo_b h
  refine ka_i (va_runV (As := [.int x1, .int x2]) (rest := []) S9 (c_Ke_mayChange l hl9 D A r _ σ x1 x2 _ e9) (cwV 2 hts (tg_V wl_Ke_136 wm_Ke_mayChange we_Ke_mayChange wi_Ke wo_Ke_mayChange) rfl rfl rfl wq_Ke_mayChange ⟨Nat.le_of_ble_eq_true rfl, Nat.le_of_ble_eq_true rfl⟩) (ka_preV X9 hP hD hS 0 rfl rfl) rfl rfl hl.1 rfl (lv_room (Nat.le_of_ble_eq_true rfl)) d_Ke_needMayMake_3 ⟨Nat.le_of_ble_eq_true rfl, Nat.le_of_ble_eq_true rfl⟩) X9 hD hS rfl (fun H locs hP hD hS => ?_)
  refine lv_if_eq (tgt := 22) hx hb d_Ke_needMayMake_6 (by decide) (fun c2 => ?_) (fun c2 => ?_)
  · replace h := zo_t c2 h
    refine lv_iconst (v := 0) hx hb d_Ke_needMayMake_22 (by decide) ?_
    obtain ⟨rfl, rfl⟩ := zo_e h
    exact ka_err (vx_runS (As := [.int 0]) (rest := []) S9 (c_Ke_needAllowed_err l hl9 D A (GW A σ r) _ 0 rfl) (cwS 1 hts (tg_S wl_Ke_123 ws_Ke_needAllowed wi_Ke wo_Ke_needAllowed) rfl rfl rfl wq_Ke_needAllowed ⟨Nat.le_of_ble_eq_true rfl, Nat.le_of_ble_eq_true rfl⟩) (ka_preS X9 hP hD hS) rfl rfl hl.1 rfl (lv_room (Nat.le_of_ble_eq_true rfl)) d_Ke_needMayMake_23 ⟨Nat.le_of_ble_eq_true rfl, Nat.le_of_ble_eq_true rfl⟩) hlk hex X9 hD hS (Nat.le_of_ble_eq_true rfl) (Nat.le_of_ble_eq_true rfl)
  replace h := zo_f c2 h
  refine lv_aload_n hx hb d_Ke_needMayMake_9 rfl (lv_at hl 0 rfl) ?_
  refine lv_iload_n hx hb d_Ke_needMayMake_10 rfl (lv_at hl 1 rfl) ?_
  refine lv_iload_n hx hb d_Ke_needMayMake_11 rfl (lv_at hl 3 rfl) ?_
  obtain ⟨v3, e9, h⟩ := zo_b h
  refine ka_i (va_runV (As := [.int x1, .int x3]) (rest := []) S9 (c_Ke_mayBear l hl9 D A r _ σ x1 x3 _ e9) (cwV 2 hts (tg_V wl_Ke_157 wm_Ke_mayBear we_Ke_mayBear wi_Ke wo_Ke_mayBear) rfl rfl rfl wq_Ke_mayBear ⟨Nat.le_of_ble_eq_true rfl, Nat.le_of_ble_eq_true rfl⟩) (ka_preV X9 hP hD hS 0 rfl rfl) rfl rfl hl.1 rfl (lv_room (Nat.le_of_ble_eq_true rfl)) d_Ke_needMayMake_12 ⟨Nat.le_of_ble_eq_true rfl, Nat.le_of_ble_eq_true rfl⟩) X9 hD hS rfl (fun H locs hP hD hS => ?_)
  refine lv_if_eq (tgt := 22) hx hb d_Ke_needMayMake_15 (by decide) (fun c4 => ?_) (fun c4 => ?_)
  · replace h := zo_t c4 h
    refine lv_iconst (v := 0) hx hb d_Ke_needMayMake_22 (by decide) ?_
    obtain ⟨rfl, rfl⟩ := zo_e h
    exact ka_err (vx_runS (As := [.int 0]) (rest := []) S9 (c_Ke_needAllowed_err l hl9 D A (GW A σ r) _ 0 rfl) (cwS 1 hts (tg_S wl_Ke_123 ws_Ke_needAllowed wi_Ke wo_Ke_needAllowed) rfl rfl rfl wq_Ke_needAllowed ⟨Nat.le_of_ble_eq_true rfl, Nat.le_of_ble_eq_true rfl⟩) (ka_preS X9 hP hD hS) rfl rfl hl.1 rfl (lv_room (Nat.le_of_ble_eq_true rfl)) d_Ke_needMayMake_23 ⟨Nat.le_of_ble_eq_true rfl, Nat.le_of_ble_eq_true rfl⟩) hlk hex X9 hD hS (Nat.le_of_ble_eq_true rfl) (Nat.le_of_ble_eq_true rfl)
  replace h := zo_f c4 h
  refine lv_iconst (v := 1) hx hb d_Ke_needMayMake_18 (by decide) ?_
  refine lv_goto (tgt := 23) hx hb d_Ke_needMayMake_19 (by decide) ?_
  refine ka_v (va_runS (As := [.int 1]) (rest := []) S9 (c_Ke_needAllowed_ok l hl9 D A (GW A σ r) _ 1 (by decide)) (cwS 1 hts (tg_S wl_Ke_123 ws_Ke_needAllowed wi_Ke wo_Ke_needAllowed) rfl rfl rfl wq_Ke_needAllowed ⟨Nat.le_of_ble_eq_true rfl, Nat.le_of_ble_eq_true rfl⟩) (ka_preS X9 hP hD hS) rfl rfl hl.1 rfl (lv_room (Nat.le_of_ble_eq_true rfl)) d_Ke_needMayMake_23 ⟨Nat.le_of_ble_eq_true rfl, Nat.le_of_ble_eq_true rfl⟩) X9 hD hS rfl (fun H locs hP hD hS => ?_)
  cases h
