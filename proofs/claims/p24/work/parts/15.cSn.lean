def f_Sn_takeFrom_24_1 (σ : KS) : Option (KS) := (f_Lb_takeFrom_25_2 σ).bind fun v1 => (f_Tg_takeFrom_27_4 v1).bind fun v2 => (f_Us_takeFrom_39_16 v2).bind fun v3 => zl (sK_categories v3 (gN_categories v3)) fun u4 => some u4
set_option maxRecDepth 100000 in
set_option maxHeartbeats 4000000 in
theorem c_Sn_takeFrom_24_1 (l : Launch) (hl9 : l.stackTraces = false) (D : va_G) (A : Nat → Nat) (r : va_W) (sz : Nat) (σ : KS) (z : KS) (h : f_Sn_takeFrom_24_1 σ = some z) : Met l y_Sn_takeFrom (Cond.code y_Sn_takeFrom b_Sn_takeFrom 2 none :: T0) ({ frames := 2, cells := 0, slots := 0, locals := 81 } : Room) (va_Pc [.ref (A 24), .ref (A 1)] (ka_Wd D A (GW A σ r) sz)) (ka_Rv D (GW A z r) (va_A (GW A σ r) sz)) 0 0 (va_A (GW A σ r) sz) := by
  unfold f_Sn_takeFrom_24_1 at h
  refine ka_of (own := R_Sn) (fun A9 => ka_Rv D (GW A z r) A9) (by decide) rfl (Nat.le_of_ble_eq_true rfl) ?_
  intro p e s m below meth c A9 ls S9 hr hlk hex X9 hP hD hl
  obtain ⟨hx, hb, hml, hown, hts⟩ := id S9
  have hK := X9.2.1
  have hS : va_S A9 s.heap s.heap [] := va_S.rf
  replace hl : lv_has ls 2 [(0, .ref (A 24)), (1, .ref (A 1))] := hl
  refine lv_aload_n hx hb d_Sn_takeFrom_0 rfl (lv_at hl 0 rfl) ?_
  refine va_get (D := D) (ci := 1) (v := .ref (A 25)) (C := R_Sn) (T := T_Sn) (N := 4) hx hb hts wu_Sn hown hK hP 24 rfl rfl 0 (by decide) (hts _ wf_Sn_10) (fun _ h9 => h9) rfl d_Sn_takeFrom_1 ?_
  refine lv_aload_n hx hb d_Sn_takeFrom_4 rfl (lv_at hl 1 rfl) ?_
  refine va_get (D := D) (ci := 1) (v := .ref (A 2)) (C := R_Sn) (T := T_Sn) (N := 4) hx hb hts wu_Sn hown hK hP 1 rfl rfl 0 (by decide) (hts _ wf_Sn_10) (fun _ h9 => h9) rfl d_Sn_takeFrom_5 ?_
  obtain ⟨v1, e9, h⟩ := zo_b h
  refine ka_v (va_runV (As := [.ref (A 2)]) (rest := []) S9 (c_Lb_takeFrom_25_2 l hl9 D A r _ σ _ e9) (cwV 1 hts (tg_V wl_Sn_34 wm_Lb_takeFrom we_Lb_takeFrom wi_Lb wo_Lb_takeFrom) rfl rfl rfl wq_Lb_takeFrom ⟨Nat.le_of_ble_eq_true rfl, Nat.le_of_ble_eq_true rfl⟩) (ka_preV X9 hP hD hS 25 rfl rfl) rfl rfl hl.1 rfl (lv_room (Nat.le_of_ble_eq_true rfl)) d_Sn_takeFrom_8 ⟨Nat.le_of_ble_eq_true rfl, Nat.le_of_ble_eq_true rfl⟩) X9 hD hS rfl (fun H locs hP hD hS => ?_)
  refine lv_aload_n hx hb d_Sn_takeFrom_11 rfl (lv_at hl 0 rfl) ?_
  refine va_get (D := D) (ci := 1) (v := .ref (A 27)) (C := R_Sn) (T := T_Sn) (N := 4) hx hb hts wu_Sn hown hK hP 24 rfl rfl 1 (by decide) (hts _ wf_Sn_19) (fun _ h9 => h9) rfl d_Sn_takeFrom_12 ?_
  refine lv_aload_n hx hb d_Sn_takeFrom_15 rfl (lv_at hl 1 rfl) ?_
  refine va_get (D := D) (ci := 1) (v := .ref (A 4)) (C := R_Sn) (T := T_Sn) (N := 4) hx hb hts wu_Sn hown hK hP 1 rfl rfl 1 (by decide) (hts _ wf_Sn_19) (fun _ h9 => h9) rfl d_Sn_takeFrom_16 ?_
  obtain ⟨v2, e9, h⟩ := zo_b h
  refine ka_v (va_runV (As := [.ref (A 4)]) (rest := []) S9 (c_Tg_takeFrom_27_4 l hl9 D A r _ v1 _ e9) (cwV 1 hts (tg_V wl_Sn_38 wm_Tg_takeFrom we_Tg_takeFrom wi_Tg wo_Tg_takeFrom) rfl rfl rfl wq_Tg_takeFrom ⟨Nat.le_of_ble_eq_true rfl, Nat.le_of_ble_eq_true rfl⟩) (ka_preV X9 hP hD hS 27 rfl rfl) rfl rfl hl.1 rfl (lv_room (Nat.le_of_ble_eq_true rfl)) d_Sn_takeFrom_19 ⟨Nat.le_of_ble_eq_true rfl, Nat.le_of_ble_eq_true rfl⟩) X9 hD hS rfl (fun H locs hP hD hS => ?_)
  refine lv_aload_n hx hb d_Sn_takeFrom_22 rfl (lv_at hl 0 rfl) ?_
  refine va_get (D := D) (ci := 1) (v := .ref (A 39)) (C := R_Sn) (T := T_Sn) (N := 4) hx hb hts wu_Sn hown hK hP 24 rfl rfl 2 (by decide) (hts _ wf_Sn_26) (fun _ h9 => h9) rfl d_Sn_takeFrom_23 ?_
  refine lv_aload_n hx hb d_Sn_takeFrom_26 rfl (lv_at hl 1 rfl) ?_
  refine va_get (D := D) (ci := 1) (v := .ref (A 16)) (C := R_Sn) (T := T_Sn) (N := 4) hx hb hts wu_Sn hown hK hP 1 rfl rfl 2 (by decide) (hts _ wf_Sn_26) (fun _ h9 => h9) rfl d_Sn_takeFrom_27 ?_
  obtain ⟨v3, e9, h⟩ := zo_b h
  refine ka_v (va_runV (As := [.ref (A 16)]) (rest := []) S9 (c_Us_takeFrom_39_16 l hl9 D A r _ v2 _ e9) (cwV 1 hts (tg_V wl_Sn_41 wm_Us_takeFrom we_Us_takeFrom wi_Us wo_Us_takeFrom) rfl rfl rfl wq_Us_takeFrom ⟨Nat.le_of_ble_eq_true rfl, Nat.le_of_ble_eq_true rfl⟩) (ka_preV X9 hP hD hS 39 rfl rfl) rfl rfl hl.1 rfl (lv_room (Nat.le_of_ble_eq_true rfl)) d_Sn_takeFrom_30 ⟨Nat.le_of_ble_eq_true rfl, Nat.le_of_ble_eq_true rfl⟩) X9 hD hS rfl (fun H locs hP hD hS => ?_)
  refine lv_aload_n hx hb d_Sn_takeFrom_33 rfl (lv_at hl 0 rfl) ?_
  refine lv_aload_n hx hb d_Sn_takeFrom_34 rfl (lv_at hl 1 rfl) ?_
  refine va_get (D := D) (ci := 1) (v := .int (gN_categories v3)) (C := R_Sn) (T := T_Sn) (N := 4) hx hb hts wu_Sn hown hK hP 1 rfl rfl 3 (by decide) (hts _ wf_Sn_30) (fun _ h9 => h9) rfl d_Sn_takeFrom_35 ?_
  obtain ⟨u4, hu9, h⟩ := zo_l h
  refine va_put (D := D) (ci := 1) (v := .int (gN_categories v3)) (ty := .int) (C := R_Sn) (T := T_Sn) (N := 4) hx hb hts wu_Sn ft_Sn fk_Sn nm_Sn hown hK hP hD hS 24 rfl rfl 3 (by decide) (hts _ wf_Sn_30) (fun _ h9 => h9) rfl (by decide +kernel) rfl rfl (Nat.le_of_ble_eq_true rfl) d_Sn_takeFrom_38 (fun H locs hP hD hS => ?_)
  replace hP : va_P D vwCl (GW A u4 r) H := by rw [hu9]; exact hP
  replace hD : va_D A9 (GW A u4 r) := by rw [hu9]; exact hD
  cases h
  exact W.vret hx hb hr (fun t ht hW => ⟨⟨(), rfl, trivial, ka_at ht hP⟩, hS.F ht⟩) hS.2.2 d_Sn_takeFrom_41 hlk
def f_Sn_takeFrom_1_24 (σ : KS) : Option (KS) := (f_Lb_takeFrom_2_25 σ).bind fun v1 => (f_Tg_takeFrom_4_27 v1).bind fun v2 => (f_Us_takeFrom_16_39 v2).bind fun v3 => zl (sN_categories v3 (gK_categories v3)) fun u4 => some u4
set_option maxRecDepth 100000 in
set_option maxHeartbeats 4000000 in
theorem c_Sn_takeFrom_1_24 (l : Launch) (hl9 : l.stackTraces = false) (D : va_G) (A : Nat → Nat) (r : va_W) (sz : Nat) (σ : KS) (z : KS) (h : f_Sn_takeFrom_1_24 σ = some z) : Met l y_Sn_takeFrom (Cond.code y_Sn_takeFrom b_Sn_takeFrom 2 none :: T0) ({ frames := 2, cells := 0, slots := 0, locals := 81 } : Room) (va_Pc [.ref (A 1), .ref (A 24)] (ka_Wd D A (GW A σ r) sz)) (ka_Rv D (GW A z r) (va_A (GW A σ r) sz)) 0 0 (va_A (GW A σ r) sz) := by
  unfold f_Sn_takeFrom_1_24 at h
  refine ka_of (own := R_Sn) (fun A9 => ka_Rv D (GW A z r) A9) (by decide) rfl (Nat.le_of_ble_eq_true rfl) ?_
  intro p e s m below meth c A9 ls S9 hr hlk hex X9 hP hD hl
  obtain ⟨hx, hb, hml, hown, hts⟩ := id S9
  have hK := X9.2.1
  have hS : va_S A9 s.heap s.heap [] := va_S.rf
  replace hl : lv_has ls 2 [(0, .ref (A 1)), (1, .ref (A 24))] := hl
  refine lv_aload_n hx hb d_Sn_takeFrom_0 rfl (lv_at hl 0 rfl) ?_
  refine va_get (D := D) (ci := 1) (v := .ref (A 2)) (C := R_Sn) (T := T_Sn) (N := 4) hx hb hts wu_Sn hown hK hP 1 rfl rfl 0 (by decide) (hts _ wf_Sn_10) (fun _ h9 => h9) rfl d_Sn_takeFrom_1 ?_
  refine lv_aload_n hx hb d_Sn_takeFrom_4 rfl (lv_at hl 1 rfl) ?_
  refine va_get (D := D) (ci := 1) (v := .ref (A 25)) (C := R_Sn) (T := T_Sn) (N := 4) hx hb hts wu_Sn hown hK hP 24 rfl rfl 0 (by decide) (hts _ wf_Sn_10) (fun _ h9 => h9) rfl d_Sn_takeFrom_5 ?_
  obtain ⟨v1, e9, h⟩ := zo_b h
  refine ka_v (va_runV (As := [.ref (A 25)]) (rest := []) S9 (c_Lb_takeFrom_2_25 l hl9 D A r _ σ _ e9) (cwV 1 hts (tg_V wl_Sn_34 wm_Lb_takeFrom we_Lb_takeFrom wi_Lb wo_Lb_takeFrom) rfl rfl rfl wq_Lb_takeFrom ⟨Nat.le_of_ble_eq_true rfl, Nat.le_of_ble_eq_true rfl⟩) (ka_preV X9 hP hD hS 2 rfl rfl) rfl rfl hl.1 rfl (lv_room (Nat.le_of_ble_eq_true rfl)) d_Sn_takeFrom_8 ⟨Nat.le_of_ble_eq_true rfl, Nat.le_of_ble_eq_true rfl⟩) X9 hD hS rfl (fun H locs hP hD hS => ?_)
  refine lv_aload_n hx hb d_Sn_takeFrom_11 rfl (lv_at hl 0 rfl) ?_
  refine va_get (D := D) (ci := 1) (v := .ref (A 4)) (C := R_Sn) (T := T_Sn) (N := 4) hx hb hts wu_Sn hown hK hP 1 rfl rfl 1 (by decide) (hts _ wf_Sn_19) (fun _ h9 => h9) rfl d_Sn_takeFrom_12 ?_
  refine lv_aload_n hx hb d_Sn_takeFrom_15 rfl (lv_at hl 1 rfl) ?_
  refine va_get (D := D) (ci := 1) (v := .ref (A 27)) (C := R_Sn) (T := T_Sn) (N := 4) hx hb hts wu_Sn hown hK hP 24 rfl rfl 1 (by decide) (hts _ wf_Sn_19) (fun _ h9 => h9) rfl d_Sn_takeFrom_16 ?_
  obtain ⟨v2, e9, h⟩ := zo_b h
  refine ka_v (va_runV (As := [.ref (A 27)]) (rest := []) S9 (c_Tg_takeFrom_4_27 l hl9 D A r _ v1 _ e9) (cwV 1 hts (tg_V wl_Sn_38 wm_Tg_takeFrom we_Tg_takeFrom wi_Tg wo_Tg_takeFrom) rfl rfl rfl wq_Tg_takeFrom ⟨Nat.le_of_ble_eq_true rfl, Nat.le_of_ble_eq_true rfl⟩) (ka_preV X9 hP hD hS 4 rfl rfl) rfl rfl hl.1 rfl (lv_room (Nat.le_of_ble_eq_true rfl)) d_Sn_takeFrom_19 ⟨Nat.le_of_ble_eq_true rfl, Nat.le_of_ble_eq_true rfl⟩) X9 hD hS rfl (fun H locs hP hD hS => ?_)
  refine lv_aload_n hx hb d_Sn_takeFrom_22 rfl (lv_at hl 0 rfl) ?_
  refine va_get (D := D) (ci := 1) (v := .ref (A 16)) (C := R_Sn) (T := T_Sn) (N := 4) hx hb hts wu_Sn hown hK hP 1 rfl rfl 2 (by decide) (hts _ wf_Sn_26) (fun _ h9 => h9) rfl d_Sn_takeFrom_23 ?_
  refine lv_aload_n hx hb d_Sn_takeFrom_26 rfl (lv_at hl 1 rfl) ?_
  refine va_get (D := D) (ci := 1) (v := .ref (A 39)) (C := R_Sn) (T := T_Sn) (N := 4) hx hb hts wu_Sn hown hK hP 24 rfl rfl 2 (by decide) (hts _ wf_Sn_26) (fun _ h9 => h9) rfl d_Sn_takeFrom_27 ?_
  obtain ⟨v3, e9, h⟩ := zo_b h
  refine ka_v (va_runV (As := [.ref (A 39)]) (rest := []) S9 (c_Us_takeFrom_16_39 l hl9 D A r _ v2 _ e9) (cwV 1 hts (tg_V wl_Sn_41 wm_Us_takeFrom we_Us_takeFrom wi_Us wo_Us_takeFrom) rfl rfl rfl wq_Us_takeFrom ⟨Nat.le_of_ble_eq_true rfl, Nat.le_of_ble_eq_true rfl⟩) (ka_preV X9 hP hD hS 16 rfl rfl) rfl rfl hl.1 rfl (lv_room (Nat.le_of_ble_eq_true rfl)) d_Sn_takeFrom_30 ⟨Nat.le_of_ble_eq_true rfl, Nat.le_of_ble_eq_true rfl⟩) X9 hD hS rfl (fun H locs hP hD hS => ?_)
  refine lv_aload_n hx hb d_Sn_takeFrom_33 rfl (lv_at hl 0 rfl) ?_
  refine lv_aload_n hx hb d_Sn_takeFrom_34 rfl (lv_at hl 1 rfl) ?_
  refine va_get (D := D) (ci := 1) (v := .int (gK_categories v3)) (C := R_Sn) (T := T_Sn) (N := 4) hx hb hts wu_Sn hown hK hP 24 rfl rfl 3 (by decide) (hts _ wf_Sn_30) (fun _ h9 => h9) rfl d_Sn_takeFrom_35 ?_
  obtain ⟨u4, hu9, h⟩ := zo_l h
  refine va_put (D := D) (ci := 1) (v := .int (gK_categories v3)) (ty := .int) (C := R_Sn) (T := T_Sn) (N := 4) hx hb hts wu_Sn ft_Sn fk_Sn nm_Sn hown hK hP hD hS 1 rfl rfl 3 (by decide) (hts _ wf_Sn_30) (fun _ h9 => h9) rfl (by decide +kernel) rfl rfl (Nat.le_of_ble_eq_true rfl) d_Sn_takeFrom_38 (fun H locs hP hD hS => ?_)
  replace hP : va_P D vwCl (GW A u4 r) H := by rw [hu9]; exact hP
  replace hD : va_D A9 (GW A u4 r) := by rw [hu9]; exact hD
  cases h
  exact W.vret hx hb hr (fun t ht hW => ⟨⟨(), rfl, trivial, ka_at ht hP⟩, hS.F ht⟩) hS.2.2 d_Sn_takeFrom_41 hlk
