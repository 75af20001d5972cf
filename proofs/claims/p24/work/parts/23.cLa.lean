set_option maxRecDepth 100000 in
set_option maxHeartbeats 4000000 in
theorem c_La_label_ok (l : Launch) (hl9 : l.stackTraces = false) (D : va_G) (A : Nat → Nat) (r : va_W) (f : Nat → Int64) (sz : Nat) (σ : KS) (x1 x2 x3 : Int32) (v : Int32) (u : KS) (h : f_Ke_label σ x1 x2 x3 = some (.ok v, u)) : Met l y_La_label (Cond.codeWith y_La_label b_La_label 6 (some .int) hh_La_label :: T0) ({ frames := 3, cells := 0, slots := 0, locals := 68 } : Room) (va_Pc [.ref (A 0), .int x1, .int x2, .int x3, .ref (A 63)] (ka_Wc D A (GW A σ (ka_oc A f :: r)) sz)) (ka_Ri D 0 (GW A u (ka_oc A (vp_updL f 0 v.toInt64) :: r)) (va_A (GW A σ (ka_oc A f :: r)) sz)) 0 0 (va_A (GW A σ (ka_oc A f :: r)) sz) := by
  refine ka_ofT (own := R_La) (hh := hh_La_label) (fun A9 => ka_Ri D 0 (GW A u (ka_oc A (vp_updL f 0 v.toInt64) :: r)) A9) (by decide) rfl (Nat.le_of_ble_eq_true rfl) ?_
  intro p e s m below meth c A9 ls S9 hr hlk hex hC X9 hP hD hl
  obtain ⟨hx, hb, hml, hown, hts⟩ := id S9
  have hK := X9.2.1
  have hS : va_S A9 s.heap s.heap [] := va_S.rf
  replace hl : lv_has ls 6 [(0, .ref (A 0)), (1, .int x1), (2, .int x2), (3, .int x3), (4, .ref (A 63))] := hl
  refine lv_aload hx hb d_La_label_0 (lv_at hl 4 rfl) ?_
  refine lv_iconst (v := 0) hx hb d_La_label_2 (by decide) ?_
  refine lv_aload_n hx hb d_La_label_3 rfl (lv_at hl 0 rfl) ?_
  refine lv_iload_n hx hb d_La_label_4 rfl (lv_at hl 1 rfl) ?_
  refine lv_iload_n hx hb d_La_label_5 rfl (lv_at hl 2 rfl) ?_
  refine lv_iload_n hx hb d_La_label_6 rfl (lv_at hl 3 rfl) ?_
  refine ka_i (va_runV (As := [.int x1, .int x2, .int x3]) (rest := [.int 0, .ref (A 63)]) S9 (c_Ke_label_ok l hl9 D A (ka_oc A f :: r) _ σ x1 x2 x3 _ _ h) (cwV 3 hts (tg_V wl_La_7 wm_Ke_label we_Ke_label wi_Ke wo_Ke_label) rfl rfl rfl wq_Ke_label ⟨Nat.le_of_ble_eq_true rfl, Nat.le_of_ble_eq_true rfl⟩) (ka_preV X9 hP hD hS 0 rfl rfl) rfl rfl hl.1 rfl (lv_room (Nat.le_of_ble_eq_true rfl)) d_La_label_7 ⟨Nat.le_of_ble_eq_true rfl, Nat.le_of_ble_eq_true rfl⟩) X9 hD hS rfl (fun H locs hP hD hS => ?_)
  refine lv_i2l (v := v.toInt64) hx hb d_La_label_10 rfl ?_
  refine va_last hx hb hK hP hD hS 47 2 rfl rfl (by unfold vp_in; decide) d_La_label_11 (fun H locs hP hD hS => ?_)
  refine lv_goto (tgt := 31) hx hb d_La_label_12 (by decide) ?_
  refine lv_iconst (v := 0) hx hb d_La_label_31 (by decide) ?_
  exact W.iret hx hb hr (fun t ht hW => ⟨⟨_, (), rfl, rfl, ka_at ht hP⟩, hS.F ht⟩) hS.2.2 d_La_label_32 hlk
set_option maxRecDepth 100000 in
set_option maxHeartbeats 4000000 in
theorem c_La_label_err (l : Launch) (hl9 : l.stackTraces = false) (D : va_G) (A : Nat → Nat) (r : va_W) (f : Nat → Int64) (sz : Nat) (σ : KS) (x1 x2 x3 : Int32) (k : Nat) (hk : k = 1 ∨ k = 2 ∨ k = 3 ∨ k = 4) (u : KS) (h : f_Ke_label σ x1 x2 x3 = some (.error k, u)) : Met l y_La_label (Cond.codeWith y_La_label b_La_label 6 (some .int) hh_La_label :: T0) ({ frames := 8, cells := 1, slots := 6, locals := 125 } : Room) (va_Pc [.ref (A 0), .int x1, .int x2, .int x3, .ref (A 63)] (ka_Wc D A (GW A σ (ka_oc A f :: r)) sz)) (ka_Ri D (nI k) (GW A u (ka_oc A f :: r)) (va_A (GW A σ (ka_oc A f :: r)) sz)) 1 6 (va_A (GW A σ (ka_oc A f :: r)) sz) := by
  refine ka_ofT (own := R_La) (hh := hh_La_label) (fun A9 => ka_Ri D (nI k) (GW A u (ka_oc A f :: r)) A9) (by decide) rfl (Nat.le_of_ble_eq_true rfl) ?_
  intro p e s m below meth c A9 ls S9 hr hlk hex hC X9 hP hD hl
  obtain ⟨hx, hb, hml, hown, hts⟩ := id S9
  have hK := X9.2.1
  have hS : va_S A9 s.heap s.heap [] := va_S.rf
  replace hl : lv_has ls 6 [(0, .ref (A 0)), (1, .int x1), (2, .int x2), (3, .int x3), (4, .ref (A 63))] := hl
  refine lv_aload hx hb d_La_label_0 (lv_at hl 4 rfl) ?_
  refine lv_iconst (v := 0) hx hb d_La_label_2 (by decide) ?_
  refine lv_aload_n hx hb d_La_label_3 rfl (lv_at hl 0 rfl) ?_
  refine lv_iload_n hx hb d_La_label_4 rfl (lv_at hl 1 rfl) ?_
  refine lv_iload_n hx hb d_La_label_5 rfl (lv_at hl 2 rfl) ?_
  refine lv_iload_n hx hb d_La_label_6 rfl (lv_at hl 3 rfl) ?_
  rcases hk with rfl | rfl | rfl | rfl
  · refine ka_caught (vx_runV (As := [.int x1, .int x2, .int x3]) (rest := [.int 0, .ref (A 63)]) S9 (c_Ke_label_err l hl9 D A (ka_oc A f :: r) _ σ x1 x2 x3 _ _ h) (cwV 3 hts (tg_V wl_La_7 wm_Ke_label we_Ke_label wi_Ke wo_Ke_label) rfl rfl rfl wq_Ke_label ⟨Nat.le_of_ble_eq_true rfl, Nat.le_of_ble_eq_true rfl⟩) (ka_preV X9 hP hD hS 0 rfl rfl) rfl rfl hl.1 rfl (lv_room (Nat.le_of_ble_eq_true rfl)) d_La_label_7 ⟨Nat.le_of_ble_eq_true rfl, Nat.le_of_ble_eq_true rfl⟩) X9 hD hS rfl (fun ce q9 H locs hP hD hS hce hcv hcl => ?_)
    refine vx_catch (name := "java/lang/IllegalArgumentException") (E := "java/lang/IllegalArgumentException") hown (tableOf []) ⟨0, 12, 15, 13⟩ (tableOf [(0, 12, 19, 15), (0, 12, 23, 17), (0, 12, 27, 19)]) (hex.trans rfl) (fun z hz => by cases hz) (by decide) (by decide) (hts _ wc_La_13) (X9.2.2.2.2.use _ (by decide +kernel)) hce hcv hcl ?_
    refine lv_astore (lv' := (5, .ref q9) :: [(0, .ref (A 0)), (1, .int x1), (2, .int x2), (3, .int x3), (4, .ref (A 63))]) hx hb d_La_label_15 hl (by decide) rfl (fun ls hl => ?_)
    refine lv_iconst (v := 1) hx hb d_La_label_17 (by decide) ?_
    exact W.iret hx hb hr (fun t ht hW => ⟨⟨_, (), rfl, rfl, ka_at ht hP⟩, hS.F ht⟩) hS.2.2 d_La_label_18 hlk
  · refine ka_caught (vx_runV (As := [.int x1, .int x2, .int x3]) (rest := [.int 0, .ref (A 63)]) S9 (c_Ke_label_err l hl9 D A (ka_oc A f :: r) _ σ x1 x2 x3 _ _ h) (cwV 3 hts (tg_V wl_La_7 wm_Ke_label we_Ke_label wi_Ke wo_Ke_label) rfl rfl rfl wq_Ke_label ⟨Nat.le_of_ble_eq_true rfl, Nat.le_of_ble_eq_true rfl⟩) (ka_preV X9 hP hD hS 0 rfl rfl) rfl rfl hl.1 rfl (lv_room (Nat.le_of_ble_eq_true rfl)) d_La_label_7 ⟨Nat.le_of_ble_eq_true rfl, Nat.le_of_ble_eq_true rfl⟩) X9 hD hS rfl (fun ce q9 H locs hP hD hS hce hcv hcl => ?_)
    refine vx_catch (name := "java/util/NoSuchElementException") (E := "java/util/NoSuchElementException") hown (tableOf [(0, 12, 15, 13)]) ⟨0, 12, 19, 15⟩ (tableOf [(0, 12, 23, 17), (0, 12, 27, 19)]) (hex.trans rfl) (fun z hz => by
      simp only [tableOf, List.map_cons, List.map_nil, List.mem_cons, List.not_mem_nil, or_false] at hz
      subst hz
      exact Or.inr ⟨(by decide), _, hts _ wc_La_13, hC.1⟩) (by decide) (by decide) (hts _ wc_La_15) (X9.2.2.2.2.use _ (by decide +kernel)) hce hcv hcl ?_
    refine lv_astore (lv' := (5, .ref q9) :: [(0, .ref (A 0)), (1, .int x1), (2, .int x2), (3, .int x3), (4, .ref (A 63))]) hx hb d_La_label_19 hl (by decide) rfl (fun ls hl => ?_)
    refine lv_iconst (v := 2) hx hb d_La_label_21 (by decide) ?_
    exact W.iret hx hb hr (fun t ht hW => ⟨⟨_, (), rfl, rfl, ka_at ht hP⟩, hS.F ht⟩) hS.2.2 d_La_label_22 hlk
  · refine ka_caught (vx_runV (As := [.int x1, .int x2, .int x3]) (rest := [.int 0, .ref (A 63)]) S9 (c_Ke_label_err l hl9 D A (ka_oc A f :: r) _ σ x1 x2 x3 _ _ h) (cwV 3 hts (tg_V wl_La_7 wm_Ke_label we_Ke_label wi_Ke wo_Ke_label) rfl rfl rfl wq_Ke_label ⟨Nat.le_of_ble_eq_true rfl, Nat.le_of_ble_eq_true rfl⟩) (ka_preV X9 hP hD hS 0 rfl rfl) rfl rfl hl.1 rfl (lv_room (Nat.le_of_ble_eq_true rfl)) d_La_label_7 ⟨Nat.le_of_ble_eq_true rfl, Nat.le_of_ble_eq_true rfl⟩) X9 hD hS rfl (fun ce q9 H locs hP hD hS hce hcv hcl => ?_)
    refine vx_catch (name := "java/lang/UnsupportedOperationException") (E := "java/lang/UnsupportedOperationException") hown (tableOf [(0, 12, 15, 13), (0, 12, 19, 15)]) ⟨0, 12, 23, 17⟩ (tableOf [(0, 12, 27, 19)]) (hex.trans rfl) (fun z hz => by
      simp only [tableOf, List.map_cons, List.map_nil, List.mem_cons, List.not_mem_nil, or_false] at hz
      rcases hz with rfl | rfl
      · exact Or.inr ⟨(by decide), _, hts _ wc_La_13, hC.2.1⟩
      · exact Or.inr ⟨(by decide), _, hts _ wc_La_15, hC.2.2.1⟩) (by decide) (by decide) (hts _ wc_La_17) (X9.2.2.2.2.use _ (by decide +kernel)) hce hcv hcl ?_
    refine lv_astore (lv' := (5, .ref q9) :: [(0, .ref (A 0)), (1, .int x1), (2, .int x2), (3, .int x3), (4, .ref (A 63))]) hx hb d_La_label_23 hl (by decide) rfl (fun ls hl => ?_)
    refine lv_iconst (v := 3) hx hb d_La_label_25 (by decide) ?_
    exact W.iret hx hb hr (fun t ht hW => ⟨⟨_, (), rfl, rfl, ka_at ht hP⟩, hS.F ht⟩) hS.2.2 d_La_label_26 hlk
  · refine ka_caught (vx_runV (As := [.int x1, .int x2, .int x3]) (rest := [.int 0, .ref (A 63)]) S9 (c_Ke_label_err l hl9 D A (ka_oc A f :: r) _ σ x1 x2 x3 _ _ h) (cwV 3 hts (tg_V wl_La_7 wm_Ke_label we_Ke_label wi_Ke wo_Ke_label) rfl rfl rfl wq_Ke_label ⟨Nat.le_of_ble_eq_true rfl, Nat.le_of_ble_eq_true rfl⟩) (ka_preV X9 hP hD hS 0 rfl rfl) rfl rfl hl.1 rfl (lv_room (Nat.le_of_ble_eq_true rfl)) d_La_label_7 ⟨Nat.le_of_ble_eq_true rfl, Nat.le_of_ble_eq_true rfl⟩) X9 hD hS rfl (fun ce q9 H locs hP hD hS hce hcv hcl => ?_)
    refine vx_catch (name := "java/lang/IllegalStateException") (E := "java/lang/IllegalStateException") hown (tableOf [(0, 12, 15, 13), (0, 12, 19, 15), (0, 12, 23, 17)]) ⟨0, 12, 27, 19⟩ (tableOf []) (hex.trans rfl) (fun z hz => by
      simp only [tableOf, List.map_cons, List.map_nil, List.mem_cons, List.not_mem_nil, or_false] at hz
      rcases hz with rfl | rfl | rfl
      · exact Or.inr ⟨(by decide), _, hts _ wc_La_13, hC.2.2.2.1⟩
      · exact Or.inr ⟨(by decide), _, hts _ wc_La_15, hC.2.2.2.2.1⟩
      · exact Or.inr ⟨(by decide), _, hts _ wc_La_17, hC.2.2.2.2.2⟩) (by decide) (by decide) (hts _ wc_La_19) (X9.2.2.2.2.use _ (by decide +kernel)) hce hcv hcl ?_
    refine lv_astore (lv' := (5, .ref q9) :: [(0, .ref (A 0)), (1, .int x1), (2, .int x2), (3, .int x3), (4, .ref (A 63))]) hx hb d_La_label_27 hl (by decide) rfl (fun ls hl => ?_)
    refine lv_iconst (v := 4) hx hb d_La_label_29 (by decide) ?_
    exact W.iret hx hb hr (fun t ht hW => ⟨⟨_, (), rfl, rfl, ka_at ht hP⟩, hS.F ht⟩) hS.2.2 d_La_label_30 hlk
set_option maxRecDepth 100000 in
set_option maxHeartbeats 4000000 in
theorem c_La_level_ok (l : Launch) (hl9 : l.stackTraces = false) (D : va_G) (A : Nat → Nat) (r : va_W) (f : Nat → Int64) (sz : Nat) (σ : KS) (x1 x2 : Int32) (v : Int32) (u : KS) (h : f_Ke_level σ x1 x2 = some (.ok v, u)) : Met l y_La_level (Cond.codeWith y_La_level b_La_level 5 (some .int) hh_La_level :: T0) ({ frames := 2, cells := 0, slots := 0, locals := 44 } : Room) (va_Pc [.ref (A 0), .int x1, .int x2, .ref (A 63)] (ka_Wc D A (GW A σ (ka_oc A f :: r)) sz)) (ka_Ri D 0 (GW A u (ka_oc A (vp_updL f 0 v.toInt64) :: r)) (va_A (GW A σ (ka_oc A f :: r)) sz)) 0 0 (va_A (GW A σ (ka_oc A f :: r)) sz) := by
  refine ka_ofT (own := R_La) (hh := hh_La_level) (fun A9 => ka_Ri D 0 (GW A u (ka_oc A (vp_updL f 0 v.toInt64) :: r)) A9) (by decide) rfl (Nat.le_of_ble_eq_true rfl) ?_
  intro p e s m below meth c A9 ls S9 hr hlk hex hC X9 hP hD hl
  obtain ⟨hx, hb, hml, hown, hts⟩ := id S9
  have hK := X9.2.1
  have hS : va_S A9 s.heap s.heap [] := va_S.rf
  replace hl : lv_has ls 5 [(0, .ref (A 0)), (1, .int x1), (2, .int x2), (3, .ref (A 63))] := hl
  refine lv_aload_n hx hb d_La_level_0 rfl (lv_at hl 3 rfl) ?_
  refine lv_iconst (v := 0) hx hb d_La_level_1 (by decide) ?_
  refine lv_aload_n hx hb d_La_level_2 rfl (lv_at hl 0 rfl) ?_
  refine lv_iload_n hx hb d_La_level_3 rfl (lv_at hl 1 rfl) ?_
  refine lv_iload_n hx hb d_La_level_4 rfl (lv_at hl 2 rfl) ?_
  refine ka_i (va_runV (As := [.int x1, .int x2]) (rest := [.int 0, .ref (A 63)]) S9 (c_Ke_level_ok l hl9 D A (ka_oc A f :: r) _ σ x1 x2 _ _ h) (cwV 2 hts (tg_V wl_La_21 wm_Ke_level we_Ke_level wi_Ke wo_Ke_level) rfl rfl rfl wq_Ke_level ⟨Nat.le_of_ble_eq_true rfl, Nat.le_of_ble_eq_true rfl⟩) (ka_preV X9 hP hD hS 0 rfl rfl) rfl rfl hl.1 rfl (lv_room (Nat.le_of_ble_eq_true rfl)) d_La_level_5 ⟨Nat.le_of_ble_eq_true rfl, Nat.le_of_ble_eq_true rfl⟩) X9 hD hS rfl (fun H locs hP hD hS => ?_)
  refine lv_i2l (v := v.toInt64) hx hb d_La_level_8 rfl ?_
  refine va_last hx hb hK hP hD hS 47 2 rfl rfl (by unfold vp_in; decide) d_La_level_9 (fun H locs hP hD hS => ?_)
  refine lv_goto (tgt := 29) hx hb d_La_level_10 (by decide) ?_
  refine lv_iconst (v := 0) hx hb d_La_level_29 (by decide) ?_
  exact W.iret hx hb hr (fun t ht hW => ⟨⟨_, (), rfl, rfl, ka_at ht hP⟩, hS.F ht⟩) hS.2.2 d_La_level_30 hlk
set_option maxRecDepth 100000 in
set_option maxHeartbeats 4000000 in
theorem c_La_level_err (l : Launch) (hl9 : l.stackTraces = false) (D : va_G) (A : Nat → Nat) (r : va_W) (f : Nat → Int64) (sz : Nat) (σ : KS) (x1 x2 : Int32) (k : Nat) (hk : k = 1 ∨ k = 2 ∨ k = 3 ∨ k = 4) (u : KS) (h : f_Ke_level σ x1 x2 = some (.error k, u)) : Met l y_La_level (Cond.codeWith y_La_level b_La_level 5 (some .int) hh_La_level :: T0) ({ frames := 8, cells := 1, slots := 6, locals := 123 } : Room) (va_Pc [.ref (A 0), .int x1, .int x2, .ref (A 63)] (ka_Wc D A (GW A σ (ka_oc A f :: r)) sz)) (ka_Ri D (nI k) (GW A u (ka_oc A f :: r)) (va_A (GW A σ (ka_oc A f :: r)) sz)) 1 6 (va_A (GW A σ (ka_oc A f :: r)) sz) := by
  refine ka_ofT (own := R_La) (hh := hh_La_level) (fun A9 => ka_Ri D (nI k) (GW A u (ka_oc A f :: r)) A9) (by decide) rfl (Nat.le_of_ble_eq_true rfl) ?_
  intro p e s m below meth c A9 ls S9 hr hlk hex hC X9 hP hD hl
  obtain ⟨hx, hb, hml, hown, hts⟩ := id S9
  have hK := X9.2.1
  have hS : va_S A9 s.heap s.heap [] := va_S.rf
  replace hl : lv_has ls 5 [(0, .ref (A 0)), (1, .int x1), (2, .int x2), (3, .ref (A 63))] := hl
  refine lv_aload_n hx hb d_La_level_0 rfl (lv_at hl 3 rfl) ?_
  refine lv_iconst (v := 0) hx hb d_La_level_1 (by decide) ?_
  refine lv_aload_n hx hb d_La_level_2 rfl (lv_at hl 0 rfl) ?_
  refine lv_iload_n hx hb d_La_level_3 rfl (lv_at hl 1 rfl) ?_
  refine lv_iload_n hx hb d_La_level_4 rfl (lv_at hl 2 rfl) ?_
  rcases hk with rfl | rfl | rfl | rfl
  · refine ka_caught (vx_runV (As := [.int x1, .int x2]) (rest := [.int 0, .ref (A 63)]) S9 (c_Ke_level_err l hl9 D A (ka_oc A f :: r) _ σ x1 x2 _ _ h) (cwV 2 hts (tg_V wl_La_21 wm_Ke_level we_Ke_level wi_Ke wo_Ke_level) rfl rfl rfl wq_Ke_level ⟨Nat.le_of_ble_eq_true rfl, Nat.le_of_ble_eq_true rfl⟩) (ka_preV X9 hP hD hS 0 rfl rfl) rfl rfl hl.1 rfl (lv_room (Nat.le_of_ble_eq_true rfl)) d_La_level_5 ⟨Nat.le_of_ble_eq_true rfl, Nat.le_of_ble_eq_true rfl⟩) X9 hD hS rfl (fun ce q9 H locs hP hD hS hce hcv hcl => ?_)
    refine vx_catch (name := "java/lang/IllegalArgumentException") (E := "java/lang/IllegalArgumentException") hown (tableOf []) ⟨0, 10, 13, 13⟩ (tableOf [(0, 10, 17, 15), (0, 10, 21, 17), (0, 10, 25, 19)]) (hex.trans rfl) (fun z hz => by cases hz) (by decide) (by decide) (hts _ wc_La_13) (X9.2.2.2.2.use _ (by decide +kernel)) hce hcv hcl ?_
    refine lv_astore (lv' := (4, .ref q9) :: [(0, .ref (A 0)), (1, .int x1), (2, .int x2), (3, .ref (A 63))]) hx hb d_La_level_13 hl (by decide) rfl (fun ls hl => ?_)
    refine lv_iconst (v := 1) hx hb d_La_level_15 (by decide) ?_
    exact W.iret hx hb hr (fun t ht hW => ⟨⟨_, (), rfl, rfl, ka_at ht hP⟩, hS.F ht⟩) hS.2.2 d_La_level_16 hlk
  · refine ka_caught (vx_runV (As := [.int x1, .int x2]) (rest := [.int 0, .ref (A 63)]) S9 (c_Ke_level_err l hl9 D A (ka_oc A f :: r) _ σ x1 x2 _ _ h) (cwV 2 hts (tg_V wl_La_21 wm_Ke_level we_Ke_level wi_Ke wo_Ke_level) rfl rfl rfl wq_Ke_level ⟨Nat.le_of_ble_eq_true rfl, Nat.le_of_ble_eq_true rfl⟩) (ka_preV X9 hP hD hS 0 rfl rfl) rfl rfl hl.1 rfl (lv_room (Nat.le_of_ble_eq_true rfl)) d_La_level_5 ⟨Nat.le_of_ble_eq_true rfl, Nat.le_of_ble_eq_true rfl⟩) X9 hD hS rfl (fun ce q9 H locs hP hD hS hce hcv hcl => ?_)
    refine vx_catch (name := "java/util/NoSuchElementException") (E := "java/util/NoSuchElementException") hown (tableOf [(0, 10, 13, 13)]) ⟨0, 10, 17, 15⟩ (tableOf [(0, 10, 21, 17), (0, 10, 25, 19)]) (hex.trans rfl) (fun z hz => by
      simp only [tableOf, List.map_cons, List.map_nil, List.mem_cons, List.not_mem_nil, or_false] at hz
      subst hz
      exact Or.inr ⟨(by decide), _, hts _ wc_La_13, hC.1⟩) (by decide) (by decide) (hts _ wc_La_15) (X9.2.2.2.2.use _ (by decide +kernel)) hce hcv hcl ?_
    refine lv_astore (lv' := (4, .ref q9) :: [(0, .ref (A 0)), (1, .int x1), (2, .int x2), (3, .ref (A 63))]) hx hb d_La_level_17 hl (by decide) rfl (fun ls hl => ?_)
    refine lv_iconst (v := 2) hx hb d_La_level_19 (by decide) ?_
    exact W.iret hx hb hr (fun t ht hW => ⟨⟨_, (), rfl, rfl, ka_at ht hP⟩, hS.F ht⟩) hS.2.2 d_La_level_20 hlk
  · refine ka_caught (vx_runV (As := [.int x1, .int x2]) (rest := [.int 0, .ref (A 63)]) S9 (c_Ke_level_err l hl9 D A (ka_oc A f :: r) _ σ x1 x2 _ _ h) (cwV 2 hts (tg_V wl_La_21 wm_Ke_level we_Ke_level wi_Ke wo_Ke_level) rfl rfl rfl wq_Ke_level ⟨Nat.le_of_ble_eq_true rfl, Nat.le_of_ble_eq_true rfl⟩) (ka_preV X9 hP hD hS 0 rfl rfl) rfl rfl hl.1 rfl (lv_room (Nat.le_of_ble_eq_true rfl)) d_La_level_5 ⟨Nat.le_of_ble_eq_true rfl, Nat.le_of_ble_eq_true rfl⟩) X9 hD hS rfl (fun ce q9 H locs hP hD hS hce hcv hcl => ?_)
    refine vx_catch (name := "java/lang/UnsupportedOperationException") (E := "java/lang/UnsupportedOperationException") hown (tableOf [(0, 10, 13, 13), (0, 10, 17, 15)]) ⟨0, 10, 21, 17⟩ (tableOf [(0, 10, 25, 19)]) (hex.trans rfl) (fun z hz => by
      simp only [tableOf, List.map_cons, List.map_nil, List.mem_cons, List.not_mem_nil, or_false] at hz
      rcases hz with rfl | rfl
      · exact Or.inr ⟨(by decide), _, hts _ wc_La_13, hC.2.1⟩
      · exact Or.inr ⟨(by decide), _, hts _ wc_La_15, hC.2.2.1⟩) (by decide) (by decide) (hts _ wc_La_17) (X9.2.2.2.2.use _ (by decide +kernel)) hce hcv hcl ?_
    refine lv_astore (lv' := (4, .ref q9) :: [(0, .ref (A 0)), (1, .int x1), (2, .int x2), (3, .ref (A 63))]) hx hb d_La_level_21 hl (by decide) rfl (fun ls hl => ?_)
    refine lv_iconst (v := 3) hx hb d_La_level_23 (by decide) ?_
    exact W.iret hx hb hr (fun t ht hW => ⟨⟨_, (), rfl, rfl, ka_at ht hP⟩, hS.F ht⟩) hS.2.2 d_La_level_24 hlk
  · refine ka_caught (vx_runV (As := [.int x1, .int x2]) (rest := [.int 0, .ref (A 63)]) S9 (c_Ke_level_err l hl9 D A (ka_oc A f :: r) _ σ x1 x2 _ _ h) (cwV 2 hts (tg_V wl_La_21 wm_Ke_level we_Ke_level wi_Ke wo_Ke_level) rfl rfl rfl wq_Ke_level ⟨Nat.le_of_ble_eq_true rfl, Nat.le_of_ble_eq_true rfl⟩) (ka_preV X9 hP hD hS 0 rfl rfl) rfl rfl hl.1 rfl (lv_room (Nat.le_of_ble_eq_true rfl)) d_La_level_5 ⟨Nat.le_of_ble_eq_true rfl, Nat.le_of_ble_eq_true rfl⟩) X9 hD hS rfl (fun ce q9 H locs hP hD hS hce hcv hcl => ?_)
    refine vx_catch (name := "java/lang/IllegalStateException") (E := "java/lang/IllegalStateException") hown (tableOf [(0, 10, 13, 13), (0, 10, 17, 15), (0, 10, 21, 17)]) ⟨0, 10, 25, 19⟩ (tableOf []) (hex.trans rfl) (fun z hz => by
      simp only [tableOf, List.map_cons, List.map_nil, List.mem_cons, List.not_mem_nil, or_false] at hz
      rcases hz with rfl | rfl | rfl
      · exact Or.inr ⟨(by decide), _, hts _ wc_La_13, hC.2.2.2.1⟩
      · exact Or.inr ⟨(by decide), _, hts _ wc_La_15, hC.2.2.2.2.1⟩
      · exact Or.inr ⟨(by decide), _, hts _ wc_La_17, hC.2.2.2.2.2⟩) (by decide) (by decide) (hts _ wc_La_19) (X9.2.2.2.2.use _ (by decide +kernel)) hce hcv hcl ?_
    refine lv_astore (lv' := (4, .ref q9) :: [(0, .ref (A 0)), (1, .int x1), (2, .int x2), (3, .ref (A 63))]) hx hb d_La_level_25 hl (by decide) rfl (fun ls hl => ?_)
    refine lv_iconst (v := 4) hx hb d_La_level_27 (by decide) ?_
    exact W.iret hx hb hr (fun t ht hW => ⟨⟨_, (), rfl, rfl, ka_at ht hP⟩, hS.F ht⟩) hS.2.2 d_La_level_28 hlk
set_option maxRecDepth 100000 in
set_option maxHeartbeats 4000000 in
theorem c_La_fits_ok (l : Launch) (hl9 : l.stackTraces = false) (D : va_G) (A : Nat → Nat) (r : va_W) (f : Nat → Int64) (sz : Nat) (σ : KS) (x1 x2 x3 : Int32) (v : Int32) (u : KS) (h : f_Ke_fits σ x1 x2 x3 = some (.ok v, u)) : Met l y_La_fits (Cond.codeWith y_La_fits b_La_fits 6 (some .int) hh_La_fits :: T0) ({ frames := 3, cells := 0, slots := 0, locals := 68 } : Room) (va_Pc [.ref (A 0), .int x1, .int x2, .int x3, .ref (A 63)] (ka_Wc D A (GW A σ (ka_oc A f :: r)) sz)) (ka_Ri D 0 (GW A u (ka_oc A (vp_updL f 0 (if v = 0 then 0 else 1)) :: r)) (va_A (GW A σ (ka_oc A f :: r)) sz)) 0 0 (va_A (GW A σ (ka_oc A f :: r)) sz) := by
  refine ka_ofT (own := R_La) (hh := hh_La_fits) (fun A9 => ka_Ri D 0 (GW A u (ka_oc A (vp_updL f 0 (if v = 0 then 0 else 1)) :: r)) A9) (by decide) rfl (Nat.le_of_ble_eq_true rfl) ?_
  intro p e s m below meth c A9 ls S9 hr hlk hex hC X9 hP hD hl
  obtain ⟨hx, hb, hml, hown, hts⟩ := id S9
  have hK := X9.2.1
  have hS : va_S A9 s.heap s.heap [] := va_S.rf
  replace hl : lv_has ls 6 [(0, .ref (A 0)), (1, .int x1), (2, .int x2), (3, .int x3), (4, .ref (A 63))] := hl
  refine lv_aload hx hb d_La_fits_0 (lv_at hl 4 rfl) ?_
  refine lv_iconst (v := 0) hx hb d_La_fits_2 (by decide) ?_
  refine lv_aload_n hx hb d_La_fits_3 rfl (lv_at hl 0 rfl) ?_
  refine lv_iload_n hx hb d_La_fits_4 rfl (lv_at hl 1 rfl) ?_
  refine lv_iload_n hx hb d_La_fits_5 rfl (lv_at hl 2 rfl) ?_
  refine lv_iload_n hx hb d_La_fits_6 rfl (lv_at hl 3 rfl) ?_
  refine ka_i (va_runV (As := [.int x1, .int x2, .int x3]) (rest := [.int 0, .ref (A 63)]) S9 (c_Ke_fits_ok l hl9 D A (ka_oc A f :: r) _ σ x1 x2 x3 _ _ h) (cwV 3 hts (tg_V wl_La_25 wm_Ke_fits we_Ke_fits wi_Ke wo_Ke_fits) rfl rfl rfl wq_Ke_fits ⟨Nat.le_of_ble_eq_true rfl, Nat.le_of_ble_eq_true rfl⟩) (ka_preV X9 hP hD hS 0 rfl rfl) rfl rfl hl.1 rfl (lv_room (Nat.le_of_ble_eq_true rfl)) d_La_fits_7 ⟨Nat.le_of_ble_eq_true rfl, Nat.le_of_ble_eq_true rfl⟩) X9 hD hS rfl (fun H locs hP hD hS => ?_)
  refine lv_if_eq (tgt := 17) hx hb d_La_fits_10 (by decide) (fun c9 => ?_) (fun c9 => ?_)
  · rw [if_pos c9]
    refine lv_lconst (v := 0) hx hb d_La_fits_17 (by decide) ?_
    refine va_last hx hb hK hP hD hS 47 2 rfl rfl (by unfold vp_in; decide) d_La_fits_18 (fun H locs hP hD hS => ?_)
    refine lv_goto (tgt := 38) hx hb d_La_fits_19 (by decide) ?_
    refine lv_iconst (v := 0) hx hb d_La_fits_38 (by decide) ?_
    exact W.iret hx hb hr (fun t ht hW => ⟨⟨_, (), rfl, rfl, ka_at ht hP⟩, hS.F ht⟩) hS.2.2 d_La_fits_39 hlk
  rw [if_neg c9]
  refine lv_lconst (v := 1) hx hb d_La_fits_13 (by decide) ?_
  refine lv_goto (tgt := 18) hx hb d_La_fits_14 (by decide) ?_
  refine va_last hx hb hK hP hD hS 47 2 rfl rfl (by unfold vp_in; decide) d_La_fits_18 (fun H locs hP hD hS => ?_)
  refine lv_goto (tgt := 38) hx hb d_La_fits_19 (by decide) ?_
  refine lv_iconst (v := 0) hx hb d_La_fits_38 (by decide) ?_
  exact W.iret hx hb hr (fun t ht hW => ⟨⟨_, (), rfl, rfl, ka_at ht hP⟩, hS.F ht⟩) hS.2.2 d_La_fits_39 hlk
set_option maxRecDepth 100000 in
set_option maxHeartbeats 4000000 in
theorem c_La_fits_err (l : Launch) (hl9 : l.stackTraces = false) (D : va_G) (A : Nat → Nat) (r : va_W) (f : Nat → Int64) (sz : Nat) (σ : KS) (x1 x2 x3 : Int32) (k : Nat) (hk : k = 1 ∨ k = 2 ∨ k = 3 ∨ k = 4) (u : KS) (h : f_Ke_fits σ x1 x2 x3 = some (.error k, u)) : Met l y_La_fits (Cond.codeWith y_La_fits b_La_fits 6 (some .int) hh_La_fits :: T0) ({ frames := 8, cells := 1, slots := 6, locals := 124 } : Room) (va_Pc [.ref (A 0), .int x1, .int x2, .int x3, .ref (A 63)] (ka_Wc D A (GW A σ (ka_oc A f :: r)) sz)) (ka_Ri D (nI k) (GW A u (ka_oc A f :: r)) (va_A (GW A σ (ka_oc A f :: r)) sz)) 1 6 (va_A (GW A σ (ka_oc A f :: r)) sz) := by
  refine ka_ofT (own := R_La) (hh := hh_La_fits) (fun A9 => ka_Ri D (nI k) (GW A u (ka_oc A f :: r)) A9) (by decide) rfl (Nat.le_of_ble_eq_true rfl) ?_
  intro p e s m below meth c A9 ls S9 hr hlk hex hC X9 hP hD hl
  obtain ⟨hx, hb, hml, hown, hts⟩ := id S9
  have hK := X9.2.1
  have hS : va_S A9 s.heap s.heap [] := va_S.rf
  replace hl : lv_has ls 6 [(0, .ref (A 0)), (1, .int x1), (2, .int x2), (3, .int x3), (4, .ref (A 63))] := hl
  refine lv_aload hx hb d_La_fits_0 (lv_at hl 4 rfl) ?_
  refine lv_iconst (v := 0) hx hb d_La_fits_2 (by decide) ?_
  refine lv_aload_n hx hb d_La_fits_3 rfl (lv_at hl 0 rfl) ?_
  refine lv_iload_n hx hb d_La_fits_4 rfl (lv_at hl 1 rfl) ?_
  refine lv_iload_n hx hb d_La_fits_5 rfl (lv_at hl 2 rfl) ?_
  refine lv_iload_n hx hb d_La_fits_6 rfl (lv_at hl 3 rfl) ?_
  rcases hk with rfl | rfl | rfl | rfl
  · refine ka_caught (vx_runV (As := [.int x1, .int x2, .int x3]) (rest := [.int 0, .ref (A 63)]) S9 (c_Ke_fits_err l hl9 D A (ka_oc A f :: r) _ σ x1 x2 x3 _ _ h) (cwV 3 hts (tg_V wl_La_25 wm_Ke_fits we_Ke_fits wi_Ke wo_Ke_fits) rfl rfl rfl wq_Ke_fits ⟨Nat.le_of_ble_eq_true rfl, Nat.le_of_ble_eq_true rfl⟩) (ka_preV X9 hP hD hS 0 rfl rfl) rfl rfl hl.1 rfl (lv_room (Nat.le_of_ble_eq_true rfl)) d_La_fits_7 ⟨Nat.le_of_ble_eq_true rfl, Nat.le_of_ble_eq_true rfl⟩) X9 hD hS rfl (fun ce q9 H locs hP hD hS hce hcv hcl => ?_)
    refine vx_catch (name := "java/lang/IllegalArgumentException") (E := "java/lang/IllegalArgumentException") hown (tableOf []) ⟨0, 19, 22, 13⟩ (tableOf [(0, 19, 26, 15), (0, 19, 30, 17), (0, 19, 34, 19)]) (hex.trans rfl) (fun z hz => by cases hz) (by decide) (by decide) (hts _ wc_La_13) (X9.2.2.2.2.use _ (by decide +kernel)) hce hcv hcl ?_
    refine lv_astore (lv' := (5, .ref q9) :: [(0, .ref (A 0)), (1, .int x1), (2, .int x2), (3, .int x3), (4, .ref (A 63))]) hx hb d_La_fits_22 hl (by decide) rfl (fun ls hl => ?_)
    refine lv_iconst (v := 1) hx hb d_La_fits_24 (by decide) ?_
    exact W.iret hx hb hr (fun t ht hW => ⟨⟨_, (), rfl, rfl, ka_at ht hP⟩, hS.F ht⟩) hS.2.2 d_La_fits_25 hlk
  · refine ka_caught (vx_runV (As := [.int x1, .int x2, .int x3]) (rest := [.int 0, .ref (A 63)]) S9 (c_Ke_fits_err l hl9 D A (ka_oc A f :: r) _ σ x1 x2 x3 _ _ h) (cwV 3 hts (tg_V wl_La_25 wm_Ke_fits we_Ke_fits wi_Ke wo_Ke_fits) rfl rfl rfl wq_Ke_fits ⟨Nat.le_of_ble_eq_true rfl, Nat.le_of_ble_eq_true rfl⟩) (ka_preV X9 hP hD hS 0 rfl rfl) rfl rfl hl.1 rfl (lv_room (Nat.le_of_ble_eq_true rfl)) d_La_fits_7 ⟨Nat.le_of_ble_eq_true rfl, Nat.le_of_ble_eq_true rfl⟩) X9 hD hS rfl (fun ce q9 H locs hP hD hS hce hcv hcl => ?_)
    refine vx_catch (name := "java/util/NoSuchElementException") (E := "java/util/NoSuchElementException") hown (tableOf [(0, 19, 22, 13)]) ⟨0, 19, 26, 15⟩ (tableOf [(0, 19, 30, 17), (0, 19, 34, 19)]) (hex.trans rfl) (fun z hz => by
      simp only [tableOf, List.map_cons, List.map_nil, List.mem_cons, List.not_mem_nil, or_false] at hz
      subst hz
      exact Or.inr ⟨(by decide), _, hts _ wc_La_13, hC.1⟩) (by decide) (by decide) (hts _ wc_La_15) (X9.2.2.2.2.use _ (by decide +kernel)) hce hcv hcl ?_
    refine lv_astore (lv' := (5, .ref q9) :: [(0, .ref (A 0)), (1, .int x1), (2, .int x2), (3, .int x3), (4, .ref (A 63))]) hx hb d_La_fits_26 hl (by decide) rfl (fun ls hl => ?_)
    refine lv_iconst (v := 2) hx hb d_La_fits_28 (by decide) ?_
    exact W.iret hx hb hr (fun t ht hW => ⟨⟨_, (), rfl, rfl, ka_at ht hP⟩, hS.F ht⟩) hS.2.2 d_La_fits_29 hlk
  · refine ka_caught (vx_runV (As := [.int x1, .int x2, .int x3]) (rest := [.int 0, .ref (A 63)]) S9 (c_Ke_fits_err l hl9 D A (ka_oc A f :: r) _ σ x1 x2 x3 _ _ h) (cwV 3 hts (tg_V wl_La_25 wm_Ke_fits we_Ke_fits wi_Ke wo_Ke_fits) rfl rfl rfl wq_Ke_fits ⟨Nat.le_of_ble_eq_true rfl, Nat.le_of_ble_eq_true rfl⟩) (ka_preV X9 hP hD hS 0 rfl rfl) rfl rfl hl.1 rfl (lv_room (Nat.le_of_ble_eq_true rfl)) d_La_fits_7 ⟨Nat.le_of_ble_eq_true rfl, Nat.le_of_ble_eq_true rfl⟩) X9 hD hS rfl (fun ce q9 H locs hP hD hS hce hcv hcl => ?_)
    refine vx_catch (name := "java/lang/UnsupportedOperationException") (E := "java/lang/UnsupportedOperationException") hown (tableOf [(0, 19, 22, 13), (0, 19, 26, 15)]) ⟨0, 19, 30, 17⟩ (tableOf [(0, 19, 34, 19)]) (hex.trans rfl) (fun z hz => by
      simp only [tableOf, List.map_cons, List.map_nil, List.mem_cons, List.not_mem_nil, or_false] at hz
      rcases hz with rfl | rfl
      · exact Or.inr ⟨(by decide), _, hts _ wc_La_13, hC.2.1⟩
      · exact Or.inr ⟨(by decide), _, hts _ wc_La_15, hC.2.2.1⟩) (by decide) (by decide) (hts _ wc_La_17) (X9.2.2.2.2.use _ (by decide +kernel)) hce hcv hcl ?_
    refine lv_astore (lv' := (5, .ref q9) :: [(0, .ref (A 0)), (1, .int x1), (2, .int x2), (3, .int x3), (4, .ref (A 63))]) hx hb d_La_fits_30 hl (by decide) rfl (fun ls hl => ?_)
    refine lv_iconst (v := 3) hx hb d_La_fits_32 (by decide) ?_
    exact W.iret hx hb hr (fun t ht hW => ⟨⟨_, (), rfl, rfl, ka_at ht hP⟩, hS.F ht⟩) hS.2.2 d_La_fits_33 hlk
  · refine ka_caught (vx_runV (As := [.int x1, .int x2, .int x3]) (rest := [.int 0, .ref (A 63)]) S9 (c_Ke_fits_err l hl9 D A (ka_oc A f :: r) _ σ x1 x2 x3 _ _ h) (cwV 3 hts (tg_V wl_La_25 wm_Ke_fits we_Ke_fits wi_Ke wo_Ke_fits) rfl rfl rfl wq_Ke_fits ⟨Nat.le_of_ble_eq_true rfl, Nat.le_of_ble_eq_true rfl⟩) (ka_preV X9 hP hD hS 0 rfl rfl) rfl rfl hl.1 rfl (lv_room (Nat.le_of_ble_eq_true rfl)) d_La_fits_7 ⟨Nat.le_of_ble_eq_true rfl, Nat.le_of_ble_eq_true rfl⟩) X9 hD hS rfl (fun ce q9 H locs hP hD hS hce hcv hcl => ?_)
    refine vx_catch (name := "java/lang/IllegalStateException") (E := "java/lang/IllegalStateException") hown (tableOf [(0, 19, 22, 13), (0, 19, 26, 15), (0, 19, 30, 17)]) ⟨0, 19, 34, 19⟩ (tableOf []) (hex.trans rfl) (fun z hz => by
      simp only [tableOf, List.map_cons, List.map_nil, List.mem_cons, List.not_mem_nil, or_false] at hz
      rcases hz with rfl | rfl | rfl
      · exact Or.inr ⟨(by decide), _, hts _ wc_La_13, hC.2.2.2.1⟩
      · exact Or.inr ⟨(by decide), _, hts _ wc_La_15, hC.2.2.2.2.1⟩
      · exact Or.inr ⟨(by decide), _, hts _ wc_La_17, hC.2.2.2.2.2⟩) (by decide) (by decide) (hts _ wc_La_19) (X9.2.2.2.2.use _ (by decide +kernel)) hce hcv hcl ?_
    refine lv_astore (lv' := (5, .ref q9) :: [(0, .ref (A 0)), (1, .int x1), (2, .int x2), (3, .int x3), (4, .ref (A 63))]) hx hb d_La_fits_34 hl (by decide) rfl (fun ls hl => ?_)
    refine lv_iconst (v := 4) hx hb d_La_fits_36 (by decide) ?_
    exact W.iret hx hb hr (fun t ht hW => ⟨⟨_, (), rfl, rfl, ka_at ht hP⟩, hS.F ht⟩) hS.2.2 d_La_fits_37 hlk
set_option maxRecDepth 100000 in
set_option maxHeartbeats 4000000 in
theorem c_La_category_ok (l : Launch) (hl9 : l.stackTraces = false) (D : va_G) (A : Nat → Nat) (r : va_W) (f : Nat → Int64) (sz : Nat) (σ : KS) (x1 : Int32) (v : Int32) (u : KS) (h : f_Ke_category σ x1 = some (.ok v, u)) : Met l y_La_category (Cond.codeWith y_La_category b_La_category 4 (some .int) hh_La_category :: T0) ({ frames := 3, cells := 0, slots := 0, locals := 68 } : Room) (va_Pc [.ref (A 0), .int x1, .ref (A 63)] (ka_Wc D A (GW A σ (ka_oc A f :: r)) sz)) (ka_Ri D 0 (GW A u (ka_oc A (vp_updL f 0 v.toInt64) :: r)) (va_A (GW A σ (ka_oc A f :: r)) sz)) 0 0 (va_A (GW A σ (ka_oc A f :: r)) sz) := by
  refine ka_ofT (own := R_La) (hh := hh_La_category) (fun A9 => ka_Ri D 0 (GW A u (ka_oc A (vp_updL f 0 v.toInt64) :: r)) A9) (by decide) rfl (Nat.le_of_ble_eq_true rfl) ?_
  intro p e s m below meth c A9 ls S9 hr hlk hex hC X9 hP hD hl
  obtain ⟨hx, hb, hml, hown, hts⟩ := id S9
  have hK := X9.2.1
  have hS : va_S A9 s.heap s.heap [] := va_S.rf
  replace hl : lv_has ls 4 [(0, .ref (A 0)), (1, .int x1), (2, .ref (A 63))] := hl
  refine lv_aload_n hx hb d_La_category_0 rfl (lv_at hl 2 rfl) ?_
  refine lv_iconst (v := 0) hx hb d_La_category_1 (by decide) ?_
  refine lv_aload_n hx hb d_La_category_2 rfl (lv_at hl 0 rfl) ?_
  refine lv_iload_n hx hb d_La_category_3 rfl (lv_at hl 1 rfl) ?_
  refine ka_i (va_runV (As := [.int x1]) (rest := [.int 0, .ref (A 63)]) S9 (c_Ke_category_ok l hl9 D A (ka_oc A f :: r) _ σ x1 _ _ h) (cwV 1 hts (tg_V wl_La_29 wm_Ke_category we_Ke_category wi_Ke wo_Ke_category) rfl rfl rfl wq_Ke_category ⟨Nat.le_of_ble_eq_true rfl, Nat.le_of_ble_eq_true rfl⟩) (ka_preV X9 hP hD hS 0 rfl rfl) rfl rfl hl.1 rfl (lv_room (Nat.le_of_ble_eq_true rfl)) d_La_category_4 ⟨Nat.le_of_ble_eq_true rfl, Nat.le_of_ble_eq_true rfl⟩) X9 hD hS rfl (fun H locs hP hD hS => ?_)
  refine lv_i2l (v := v.toInt64) hx hb d_La_category_7 rfl ?_
  refine va_last hx hb hK hP hD hS 47 2 rfl rfl (by unfold vp_in; decide) d_La_category_8 (fun H locs hP hD hS => ?_)
  refine lv_goto (tgt := 24) hx hb d_La_category_9 (by decide) ?_
  refine lv_iconst (v := 0) hx hb d_La_category_24 (by decide) ?_
  exact W.iret hx hb hr (fun t ht hW => ⟨⟨_, (), rfl, rfl, ka_at ht hP⟩, hS.F ht⟩) hS.2.2 d_La_category_25 hlk
set_option maxRecDepth 100000 in
set_option maxHeartbeats 4000000 in
theorem c_La_category_err (l : Launch) (hl9 : l.stackTraces = false) (D : va_G) (A : Nat → Nat) (r : va_W) (f : Nat → Int64) (sz : Nat) (σ : KS) (x1 : Int32) (k : Nat) (hk : k = 1 ∨ k = 2 ∨ k = 3 ∨ k = 4) (u : KS) (h : f_Ke_category σ x1 = some (.error k, u)) : Met l y_La_category (Cond.codeWith y_La_category b_La_category 4 (some .int) hh_La_category :: T0) ({ frames := 9, cells := 1, slots := 6, locals := 146 } : Room) (va_Pc [.ref (A 0), .int x1, .ref (A 63)] (ka_Wc D A (GW A σ (ka_oc A f :: r)) sz)) (ka_Ri D (nI k) (GW A u (ka_oc A f :: r)) (va_A (GW A σ (ka_oc A f :: r)) sz)) 1 6 (va_A (GW A σ (ka_oc A f :: r)) sz) := by
  refine ka_ofT (own := R_La) (hh := hh_La_category) (fun A9 => ka_Ri D (nI k) (GW A u (ka_oc A f :: r)) A9) (by decide) rfl (Nat.le_of_ble_eq_true rfl) ?_
  intro p e s m below meth c A9 ls S9 hr hlk hex hC X9 hP hD hl
  obtain ⟨hx, hb, hml, hown, hts⟩ := id S9
  have hK := X9.2.1
  have hS : va_S A9 s.heap s.heap [] := va_S.rf
  replace hl : lv_has ls 4 [(0, .ref (A 0)), (1, .int x1), (2, .ref (A 63))] := hl
  refine lv_aload_n hx hb d_La_category_0 rfl (lv_at hl 2 rfl) ?_
  refine lv_iconst (v := 0) hx hb d_La_category_1 (by decide) ?_
  refine lv_aload_n hx hb d_La_category_2 rfl (lv_at hl 0 rfl) ?_
  refine lv_iload_n hx hb d_La_category_3 rfl (lv_at hl 1 rfl) ?_
  rcases hk with rfl | rfl | rfl | rfl
  · refine ka_caught (vx_runV (As := [.int x1]) (rest := [.int 0, .ref (A 63)]) S9 (c_Ke_category_err l hl9 D A (ka_oc A f :: r) _ σ x1 _ _ h) (cwV 1 hts (tg_V wl_La_29 wm_Ke_category we_Ke_category wi_Ke wo_Ke_category) rfl rfl rfl wq_Ke_category ⟨Nat.le_of_ble_eq_true rfl, Nat.le_of_ble_eq_true rfl⟩) (ka_preV X9 hP hD hS 0 rfl rfl) rfl rfl hl.1 rfl (lv_room (Nat.le_of_ble_eq_true rfl)) d_La_category_4 ⟨Nat.le_of_ble_eq_true rfl, Nat.le_of_ble_eq_true rfl⟩) X9 hD hS rfl (fun ce q9 H locs hP hD hS hce hcv hcl => ?_)
    refine vx_catch (name := "java/lang/IllegalArgumentException") (E := "java/lang/IllegalArgumentException") hown (tableOf []) ⟨0, 9, 12, 13⟩ (tableOf [(0, 9, 15, 15), (0, 9, 18, 17), (0, 9, 21, 19)]) (hex.trans rfl) (fun z hz => by cases hz) (by decide) (by decide) (hts _ wc_La_13) (X9.2.2.2.2.use _ (by decide +kernel)) hce hcv hcl ?_
    refine lv_astore_n (lv' := (3, .ref q9) :: [(0, .ref (A 0)), (1, .int x1), (2, .ref (A 63))]) hx hb d_La_category_12 rfl hl (by decide) rfl (fun ls hl => ?_)
    refine lv_iconst (v := 1) hx hb d_La_category_13 (by decide) ?_
    exact W.iret hx hb hr (fun t ht hW => ⟨⟨_, (), rfl, rfl, ka_at ht hP⟩, hS.F ht⟩) hS.2.2 d_La_category_14 hlk
  · refine ka_caught (vx_runV (As := [.int x1]) (rest := [.int 0, .ref (A 63)]) S9 (c_Ke_category_err l hl9 D A (ka_oc A f :: r) _ σ x1 _ _ h) (cwV 1 hts (tg_V wl_La_29 wm_Ke_category we_Ke_category wi_Ke wo_Ke_category) rfl rfl rfl wq_Ke_category ⟨Nat.le_of_ble_eq_true rfl, Nat.le_of_ble_eq_true rfl⟩) (ka_preV X9 hP hD hS 0 rfl rfl) rfl rfl hl.1 rfl (lv_room (Nat.le_of_ble_eq_true rfl)) d_La_category_4 ⟨Nat.le_of_ble_eq_true rfl, Nat.le_of_ble_eq_true rfl⟩) X9 hD hS rfl (fun ce q9 H locs hP hD hS hce hcv hcl => ?_)
    refine vx_catch (name := "java/util/NoSuchElementException") (E := "java/util/NoSuchElementException") hown (tableOf [(0, 9, 12, 13)]) ⟨0, 9, 15, 15⟩ (tableOf [(0, 9, 18, 17), (0, 9, 21, 19)]) (hex.trans rfl) (fun z hz => by
      simp only [tableOf, List.map_cons, List.map_nil, List.mem_cons, List.not_mem_nil, or_false] at hz
      subst hz
      exact Or.inr ⟨(by decide), _, hts _ wc_La_13, hC.1⟩) (by decide) (by decide) (hts _ wc_La_15) (X9.2.2.2.2.use _ (by decide +kernel)) hce hcv hcl ?_
    refine lv_astore_n (lv' := (3, .ref q9) :: [(0, .ref (A 0)), (1, .int x1), (2, .ref (A 63))]) hx hb d_La_category_15 rfl hl (by decide) rfl (fun ls hl => ?_)
    refine lv_iconst (v := 2) hx hb d_La_category_16 (by decide) ?_
    exact W.iret hx hb hr (fun t ht hW => ⟨⟨_, (), rfl, rfl, ka_at ht hP⟩, hS.F ht⟩) hS.2.2 d_La_category_17 hlk
  · refine ka_caught (vx_runV (As := [.int x1]) (rest := [.int 0, .ref (A 63)]) S9 (c_Ke_category_err l hl9 D A (ka_oc A f :: r) _ σ x1 _ _ h) (cwV 1 hts (tg_V wl_La_29 wm_Ke_category we_Ke_category wi_Ke wo_Ke_category) rfl rfl rfl wq_Ke_category ⟨Nat.le_of_ble_eq_true rfl, Nat.le_of_ble_eq_true rfl⟩) (ka_preV X9 hP hD hS 0 rfl rfl) rfl rfl hl.1 rfl (lv_room (Nat.le_of_ble_eq_true rfl)) d_La_category_4 ⟨Nat.le_of_ble_eq_true rfl, Nat.le_of_ble_eq_true rfl⟩) X9 hD hS rfl (fun ce q9 H locs hP hD hS hce hcv hcl => ?_)
    refine vx_catch (name := "java/lang/UnsupportedOperationException") (E := "java/lang/UnsupportedOperationException") hown (tableOf [(0, 9, 12, 13), (0, 9, 15, 15)]) ⟨0, 9, 18, 17⟩ (tableOf [(0, 9, 21, 19)]) (hex.trans rfl) (fun z hz => by
      simp only [tableOf, List.map_cons, List.map_nil, List.mem_cons, List.not_mem_nil, or_false] at hz
      rcases hz with rfl | rfl
      · exact Or.inr ⟨(by decide), _, hts _ wc_La_13, hC.2.1⟩
      · exact Or.inr ⟨(by decide), _, hts _ wc_La_15, hC.2.2.1⟩) (by decide) (by decide) (hts _ wc_La_17) (X9.2.2.2.2.use _ (by decide +kernel)) hce hcv hcl ?_
    refine lv_astore_n (lv' := (3, .ref q9) :: [(0, .ref (A 0)), (1, .int x1), (2, .ref (A 63))]) hx hb d_La_category_18 rfl hl (by decide) rfl (fun ls hl => ?_)
    refine lv_iconst (v := 3) hx hb d_La_category_19 (by decide) ?_
    exact W.iret hx hb hr (fun t ht hW => ⟨⟨_, (), rfl, rfl, ka_at ht hP⟩, hS.F ht⟩) hS.2.2 d_La_category_20 hlk
  · refine ka_caught (vx_runV (As := [.int x1]) (rest := [.int 0, .ref (A 63)]) S9 (c_Ke_category_err l hl9 D A (ka_oc A f :: r) _ σ x1 _ _ h) (cwV 1 hts (tg_V wl_La_29 wm_Ke_category we_Ke_category wi_Ke wo_Ke_category) rfl rfl rfl wq_Ke_category ⟨Nat.le_of_ble_eq_true rfl, Nat.le_of_ble_eq_true rfl⟩) (ka_preV X9 hP hD hS 0 rfl rfl) rfl rfl hl.1 rfl (lv_room (Nat.le_of_ble_eq_true rfl)) d_La_category_4 ⟨Nat.le_of_ble_eq_true rfl, Nat.le_of_ble_eq_true rfl⟩) X9 hD hS rfl (fun ce q9 H locs hP hD hS hce hcv hcl => ?_)
    refine vx_catch (name := "java/lang/IllegalStateException") (E := "java/lang/IllegalStateException") hown (tableOf [(0, 9, 12, 13), (0, 9, 15, 15), (0, 9, 18, 17)]) ⟨0, 9, 21, 19⟩ (tableOf []) (hex.trans rfl) (fun z hz => by
      simp only [tableOf, List.map_cons, List.map_nil, List.mem_cons, List.not_mem_nil, or_false] at hz
      rcases hz with rfl | rfl | rfl
      · exact Or.inr ⟨(by decide), _, hts _ wc_La_13, hC.2.2.2.1⟩
      · exact Or.inr ⟨(by decide), _, hts _ wc_La_15, hC.2.2.2.2.1⟩
      · exact Or.inr ⟨(by decide), _, hts _ wc_La_17, hC.2.2.2.2.2⟩) (by decide) (by decide) (hts _ wc_La_19) (X9.2.2.2.2.use _ (by decide +kernel)) hce hcv hcl ?_
    refine lv_astore_n (lv' := (3, .ref q9) :: [(0, .ref (A 0)), (1, .int x1), (2, .ref (A 63))]) hx hb d_La_category_21 rfl hl (by decide) rfl (fun ls hl => ?_)
    refine lv_iconst (v := 4) hx hb d_La_category_22 (by decide) ?_
    exact W.iret hx hb hr (fun t ht hW => ⟨⟨_, (), rfl, rfl, ka_at ht hP⟩, hS.F ht⟩) hS.2.2 d_La_category_23 hlk
set_option maxRecDepth 100000 in
set_option maxHeartbeats 4000000 in
theorem c_La_container_ok (l : Launch) (hl9 : l.stackTraces = false) (D : va_G) (A : Nat → Nat) (r : va_W) (f : Nat → Int64) (sz : Nat) (σ : KS) (x1 x2 x3 x4 : Int32) (v : Int32) (u : KS) (h : f_Ke_container σ x1 x2 x3 x4 = some (.ok v, u)) : Met l y_La_container (Cond.codeWith y_La_container b_La_container 7 (some .int) hh_La_container :: T0) ({ frames := 6, cells := 0, slots := 0, locals := 136 } : Room) (va_Pc [.ref (A 0), .int x1, .int x2, .int x3, .int x4, .ref (A 63)] (ka_Wc D A (GW A σ (ka_oc A f :: r)) sz)) (ka_Ri D 0 (GW A u (ka_oc A (vp_updL f 0 v.toInt64) :: r)) (va_A (GW A σ (ka_oc A f :: r)) sz)) 0 0 (va_A (GW A σ (ka_oc A f :: r)) sz) := by
  refine ka_ofT (own := R_La) (hh := hh_La_container) (fun A9 => ka_Ri D 0 (GW A u (ka_oc A (vp_updL f 0 v.toInt64) :: r)) A9) (by decide) rfl (Nat.le_of_ble_eq_true rfl) ?_
  intro p e s m below meth c A9 ls S9 hr hlk hex hC X9 hP hD hl
  obtain ⟨hx, hb, hml, hown, hts⟩ := id S9
  have hK := X9.2.1
  have hS : va_S A9 s.heap s.heap [] := va_S.rf
  replace hl : lv_has ls 7 [(0, .ref (A 0)), (1, .int x1), (2, .int x2), (3, .int x3), (4, .int x4), (5, .ref (A 63))] := hl
  refine lv_aload hx hb d_La_container_0 (lv_at hl 5 rfl) ?_
  refine lv_iconst (v := 0) hx hb d_La_container_2 (by decide) ?_
  refine lv_aload_n hx hb d_La_container_3 rfl (lv_at hl 0 rfl) ?_
  refine lv_iload_n hx hb d_La_container_4 rfl (lv_at hl 1 rfl) ?_
  refine lv_iload_n hx hb d_La_container_5 rfl (lv_at hl 2 rfl) ?_
  refine lv_iload_n hx hb d_La_container_6 rfl (lv_at hl 3 rfl) ?_
  refine lv_iload hx hb d_La_container_7 (lv_at hl 4 rfl) ?_
  refine ka_i (va_runV (As := [.int x1, .int x2, .int x3, .int x4]) (rest := [.int 0, .ref (A 63)]) S9 (c_Ke_container_ok l hl9 D A (ka_oc A f :: r) _ σ x1 x2 x3 x4 _ _ h) (cwV 4 hts (tg_V wl_La_33 wm_Ke_container we_Ke_container wi_Ke wo_Ke_container) rfl rfl rfl wq_Ke_container ⟨Nat.le_of_ble_eq_true rfl, Nat.le_of_ble_eq_true rfl⟩) (ka_preV X9 hP hD hS 0 rfl rfl) rfl rfl hl.1 rfl (lv_room (Nat.le_of_ble_eq_true rfl)) d_La_container_9 ⟨Nat.le_of_ble_eq_true rfl, Nat.le_of_ble_eq_true rfl⟩) X9 hD hS rfl (fun H locs hP hD hS => ?_)
  refine lv_i2l (v := v.toInt64) hx hb d_La_container_12 rfl ?_
  refine va_last hx hb hK hP hD hS 47 2 rfl rfl (by unfold vp_in; decide) d_La_container_13 (fun H locs hP hD hS => ?_)
  refine lv_goto (tgt := 33) hx hb d_La_container_14 (by decide) ?_
  refine lv_iconst (v := 0) hx hb d_La_container_33 (by decide) ?_
  exact W.iret hx hb hr (fun t ht hW => ⟨⟨_, (), rfl, rfl, ka_at ht hP⟩, hS.F ht⟩) hS.2.2 d_La_container_34 hlk
set_option maxRecDepth 100000 in
set_option maxHeartbeats 4000000 in
theorem c_La_container_err (l : Launch) (hl9 : l.stackTraces = false) (D : va_G) (A : Nat → Nat) (r : va_W) (f : Nat → Int64) (sz : Nat) (σ : KS) (x1 x2 x3 x4 : Int32) (k : Nat) (hk : k = 1 ∨ k = 2 ∨ k = 3 ∨ k = 4) (u : KS) (h : f_Ke_container σ x1 x2 x3 x4 = some (.error k, u)) : Met l y_La_container (Cond.codeWith y_La_container b_La_container 7 (some .int) hh_La_container :: T0) ({ frames := 9, cells := 1, slots := 6, locals := 148 } : Room) (va_Pc [.ref (A 0), .int x1, .int x2, .int x3, .int x4, .ref (A 63)] (ka_Wc D A (GW A σ (ka_oc A f :: r)) sz)) (ka_Ri D (nI k) (GW A u (ka_oc A f :: r)) (va_A (GW A σ (ka_oc A f :: r)) sz)) 1 6 (va_A (GW A σ (ka_oc A f :: r)) sz) := by
  refine ka_ofT (own := R_La) (hh := hh_La_container) (fun A9 => ka_Ri D (nI k) (GW A u (ka_oc A f :: r)) A9) (by decide) rfl (Nat.le_of_ble_eq_true rfl) ?_
  intro p e s m below meth c A9 ls S9 hr hlk hex hC X9 hP hD hl
  obtain ⟨hx, hb, hml, hown, hts⟩ := id S9
  have hK := X9.2.1
  have hS : va_S A9 s.heap s.heap [] := va_S.rf
  replace hl : lv_has ls 7 [(0, .ref (A 0)), (1, .int x1), (2, .int x2), (3, .int x3), (4, .int x4), (5, .ref (A 63))] := hl
  refine lv_aload hx hb d_La_container_0 (lv_at hl 5 rfl) ?_
  refine lv_iconst (v := 0) hx hb d_La_container_2 (by decide) ?_
  refine lv_aload_n hx hb d_La_container_3 rfl (lv_at hl 0 rfl) ?_
  refine lv_iload_n hx hb d_La_container_4 rfl (lv_at hl 1 rfl) ?_
  refine lv_iload_n hx hb d_La_container_5 rfl (lv_at hl 2 rfl) ?_
  refine lv_iload_n hx hb d_La_container_6 rfl (lv_at hl 3 rfl) ?_
  refine lv_iload hx hb d_La_container_7 (lv_at hl 4 rfl) ?_
  rcases hk with rfl | rfl | rfl | rfl
  · refine ka_caught (vx_runV (As := [.int x1, .int x2, .int x3, .int x4]) (rest := [.int 0, .ref (A 63)]) S9 (c_Ke_container_err l hl9 D A (ka_oc A f :: r) _ σ x1 x2 x3 x4 _ _ h) (cwV 4 hts (tg_V wl_La_33 wm_Ke_container we_Ke_container wi_Ke wo_Ke_container) rfl rfl rfl wq_Ke_container ⟨Nat.le_of_ble_eq_true rfl, Nat.le_of_ble_eq_true rfl⟩) (ka_preV X9 hP hD hS 0 rfl rfl) rfl rfl hl.1 rfl (lv_room (Nat.le_of_ble_eq_true rfl)) d_La_container_9 ⟨Nat.le_of_ble_eq_true rfl, Nat.le_of_ble_eq_true rfl⟩) X9 hD hS rfl (fun ce q9 H locs hP hD hS hce hcv hcl => ?_)
    refine vx_catch (name := "java/lang/IllegalArgumentException") (E := "java/lang/IllegalArgumentException") hown (tableOf []) ⟨0, 14, 17, 13⟩ (tableOf [(0, 14, 21, 15), (0, 14, 25, 17), (0, 14, 29, 19)]) (hex.trans rfl) (fun z hz => by cases hz) (by decide) (by decide) (hts _ wc_La_13) (X9.2.2.2.2.use _ (by decide +kernel)) hce hcv hcl ?_
    refine lv_astore (lv' := (6, .ref q9) :: [(0, .ref (A 0)), (1, .int x1), (2, .int x2), (3, .int x3), (4, .int x4), (5, .ref (A 63))]) hx hb d_La_container_17 hl (by decide) rfl (fun ls hl => ?_)
    refine lv_iconst (v := 1) hx hb d_La_container_19 (by decide) ?_
    exact W.iret hx hb hr (fun t ht hW => ⟨⟨_, (), rfl, rfl, ka_at ht hP⟩, hS.F ht⟩) hS.2.2 d_La_container_20 hlk
  · refine ka_caught (vx_runV (As := [.int x1, .int x2, .int x3, .int x4]) (rest := [.int 0, .ref (A 63)]) S9 (c_Ke_container_err l hl9 D A (ka_oc A f :: r) _ σ x1 x2 x3 x4 _ _ h) (cwV 4 hts (tg_V wl_La_33 wm_Ke_container we_Ke_container wi_Ke wo_Ke_container) rfl rfl rfl wq_Ke_container ⟨Nat.le_of_ble_eq_true rfl, Nat.le_of_ble_eq_true rfl⟩) (ka_preV X9 hP hD hS 0 rfl rfl) rfl rfl hl.1 rfl (lv_room (Nat.le_of_ble_eq_true rfl)) d_La_container_9 ⟨Nat.le_of_ble_eq_true rfl, Nat.le_of_ble_eq_true rfl⟩) X9 hD hS rfl (fun ce q9 H locs hP hD hS hce hcv hcl => ?_)
    refine vx_catch (name := "java/util/NoSuchElementException") (E := "java/util/NoSuchElementException") hown (tableOf [(0, 14, 17, 13)]) ⟨0, 14, 21, 15⟩ (tableOf [(0, 14, 25, 17), (0, 14, 29, 19)]) (hex.trans rfl) (fun z hz => by
      simp only [tableOf, List.map_cons, List.map_nil, List.mem_cons, List.not_mem_nil, or_false] at hz
      subst hz
      exact Or.inr ⟨(by decide), _, hts _ wc_La_13, hC.1⟩) (by decide) (by decide) (hts _ wc_La_15) (X9.2.2.2.2.use _ (by decide +kernel)) hce hcv hcl ?_
    refine lv_astore (lv' := (6, .ref q9) :: [(0, .ref (A 0)), (1, .int x1), (2, .int x2), (3, .int x3), (4, .int x4), (5, .ref (A 63))]) hx hb d_La_container_21 hl (by decide) rfl (fun ls hl => ?_)
    refine lv_iconst (v := 2) hx hb d_La_container_23 (by decide) ?_
    exact W.iret hx hb hr (fun t ht hW => ⟨⟨_, (), rfl, rfl, ka_at ht hP⟩, hS.F ht⟩) hS.2.2 d_La_container_24 hlk
  · refine ka_caught (vx_runV (As := [.int x1, .int x2, .int x3, .int x4]) (rest := [.int 0, .ref (A 63)]) S9 (c_Ke_container_err l hl9 D A (ka_oc A f :: r) _ σ x1 x2 x3 x4 _ _ h) (cwV 4 hts (tg_V wl_La_33 wm_Ke_container we_Ke_container wi_Ke wo_Ke_container) rfl rfl rfl wq_Ke_container ⟨Nat.le_of_ble_eq_true rfl, Nat.le_of_ble_eq_true rfl⟩) (ka_preV X9 hP hD hS 0 rfl rfl) rfl rfl hl.1 rfl (lv_room (Nat.le_of_ble_eq_true rfl)) d_La_container_9 ⟨Nat.le_of_ble_eq_true rfl, Nat.le_of_ble_eq_true rfl⟩) X9 hD hS rfl (fun ce q9 H locs hP hD hS hce hcv hcl => ?_)
    refine vx_catch (name := "java/lang/UnsupportedOperationException") (E := "java/lang/UnsupportedOperationException") hown (tableOf [(0, 14, 17, 13), (0, 14, 21, 15)]) ⟨0, 14, 25, 17⟩ (tableOf [(0, 14, 29, 19)]) (hex.trans rfl) (fun z hz => by
      simp only [tableOf, List.map_cons, List.map_nil, List.mem_cons, List.not_mem_nil, or_false] at hz
      rcases hz with rfl | rfl
      · exact Or.inr ⟨(by decide), _, hts _ wc_La_13, hC.2.1⟩
      · exact Or.inr ⟨(by decide), _, hts _ wc_La_15, hC.2.2.1⟩) (by decide) (by decide) (hts _ wc_La_17) (X9.2.2.2.2.use _ (by decide +kernel)) hce hcv hcl ?_
    refine lv_astore (lv' := (6, .ref q9) :: [(0, .ref (A 0)), (1, .int x1), (2, .int x2), (3, .int x3), (4, .int x4), (5, .ref (A 63))]) hx hb d_La_container_25 hl (by decide) rfl (fun ls hl => ?_)
    refine lv_iconst (v := 3) hx hb d_La_container_27 (by decide) ?_
    exact W.iret hx hb hr (fun t ht hW => ⟨⟨_, (), rfl, rfl, ka_at ht hP⟩, hS.F ht⟩) hS.2.2 d_La_container_28 hlk
  · refine ka_caught (vx_runV (As := [.int x1, .int x2, .int x3, .int x4]) (rest := [.int 0, .ref (A 63)]) S9 (c_Ke_container_err l hl9 D A (ka_oc A f :: r) _ σ x1 x2 x3 x4 _ _ h) (cwV 4 hts (tg_V wl_La_33 wm_Ke_container we_Ke_container wi_Ke wo_Ke_container) rfl rfl rfl wq_Ke_container ⟨Nat.le_of_ble_eq_true rfl, Nat.le_of_ble_eq_true rfl⟩) (ka_preV X9 hP hD hS 0 rfl rfl) rfl rfl hl.1 rfl (lv_room (Nat.le_of_ble_eq_true rfl)) d_La_container_9 ⟨Nat.le_of_ble_eq_true rfl, Nat.le_of_ble_eq_true rfl⟩) X9 hD hS rfl (fun ce q9 H locs hP hD hS hce hcv hcl => ?_)
    refine vx_catch (name := "java/lang/IllegalStateException") (E := "java/lang/IllegalStateException") hown (tableOf [(0, 14, 17, 13), (0, 14, 21, 15), (0, 14, 25, 17)]) ⟨0, 14, 29, 19⟩ (tableOf []) (hex.trans rfl) (fun z hz => by
      simp only [tableOf, List.map_cons, List.map_nil, List.mem_cons, List.not_mem_nil, or_false] at hz
      rcases hz with rfl | rfl | rfl
      · exact Or.inr ⟨(by decide), _, hts _ wc_La_13, hC.2.2.2.1⟩
      · exact Or.inr ⟨(by decide), _, hts _ wc_La_15, hC.2.2.2.2.1⟩
      · exact Or.inr ⟨(by decide), _, hts _ wc_La_17, hC.2.2.2.2.2⟩) (by decide) (by decide) (hts _ wc_La_19) (X9.2.2.2.2.use _ (by decide +kernel)) hce hcv hcl ?_
    refine lv_astore (lv' := (6, .ref q9) :: [(0, .ref (A 0)), (1, .int x1), (2, .int x2), (3, .int x3), (4, .int x4), (5, .ref (A 63))]) hx hb d_La_container_29 hl (by decide) rfl (fun ls hl => ?_)
    refine lv_iconst (v := 4) hx hb d_La_container_31 (by decide) ?_
    exact W.iret hx hb hr (fun t ht hW => ⟨⟨_, (), rfl, rfl, ka_at ht hP⟩, hS.F ht⟩) hS.2.2 d_La_container_32 hlk
set_option maxRecDepth 100000 in
set_option maxHeartbeats 4000000 in
theorem c_La_segment_ok (l : Launch) (hl9 : l.stackTraces = false) (D : va_G) (A : Nat → Nat) (r : va_W) (f : Nat → Int64) (sz : Nat) (σ : KS) (x1 x2 x3 x4 : Int32) (v : Int32) (u : KS) (h : f_Ke_segment σ x1 x2 x3 x4 = some (.ok v, u)) : Met l y_La_segment (Cond.codeWith y_La_segment b_La_segment 7 (some .int) hh_La_segment :: T0) ({ frames := 6, cells := 0, slots := 0, locals := 137 } : Room) (va_Pc [.ref (A 0), .int x1, .int x2, .int x3, .int x4, .ref (A 63)] (ka_Wc D A (GW A σ (ka_oc A f :: r)) sz)) (ka_Ri D 0 (GW A u (ka_oc A (vp_updL f 0 v.toInt64) :: r)) (va_A (GW A σ (ka_oc A f :: r)) sz)) 0 0 (va_A (GW A σ (ka_oc A f :: r)) sz) := by
  refine ka_ofT (own := R_La) (hh := hh_La_segment) (fun A9 => ka_Ri D 0 (GW A u (ka_oc A (vp_updL f 0 v.toInt64) :: r)) A9) (by decide) rfl (Nat.le_of_ble_eq_true rfl) ?_
  intro p e s m below meth c A9 ls S9 hr hlk hex hC X9 hP hD hl
  obtain ⟨hx, hb, hml, hown, hts⟩ := id S9
  have hK := X9.2.1
  have hS : va_S A9 s.heap s.heap [] := va_S.rf
  replace hl : lv_has ls 7 [(0, .ref (A 0)), (1, .int x1), (2, .int x2), (3, .int x3), (4, .int x4), (5, .ref (A 63))] := hl
  refine lv_aload hx hb d_La_segment_0 (lv_at hl 5 rfl) ?_
  refine lv_iconst (v := 0) hx hb d_La_segment_2 (by decide) ?_
  refine lv_aload_n hx hb d_La_segment_3 rfl (lv_at hl 0 rfl) ?_
  refine lv_iload_n hx hb d_La_segment_4 rfl (lv_at hl 1 rfl) ?_
  refine lv_iload_n hx hb d_La_segment_5 rfl (lv_at hl 2 rfl) ?_
  refine lv_iload_n hx hb d_La_segment_6 rfl (lv_at hl 3 rfl) ?_
  refine lv_iload hx hb d_La_segment_7 (lv_at hl 4 rfl) ?_
  refine ka_i (va_runV (As := [.int x1, .int x2, .int x3, .int x4]) (rest := [.int 0, .ref (A 63)]) S9 (c_Ke_segment_ok l hl9 D A (ka_oc A f :: r) _ σ x1 x2 x3 x4 _ _ h) (cwV 4 hts (tg_V wl_La_37 wm_Ke_segment we_Ke_segment wi_Ke wo_Ke_segment) rfl rfl rfl wq_Ke_segment ⟨Nat.le_of_ble_eq_true rfl, Nat.le_of_ble_eq_true rfl⟩) (ka_preV X9 hP hD hS 0 rfl rfl) rfl rfl hl.1 rfl (lv_room (Nat.le_of_ble_eq_true rfl)) d_La_segment_9 ⟨Nat.le_of_ble_eq_true rfl, Nat.le_of_ble_eq_true rfl⟩) X9 hD hS rfl (fun H locs hP hD hS => ?_)
  refine lv_i2l (v := v.toInt64) hx hb d_La_segment_12 rfl ?_
  refine va_last hx hb hK hP hD hS 47 2 rfl rfl (by unfold vp_in; decide) d_La_segment_13 (fun H locs hP hD hS => ?_)
  refine lv_goto (tgt := 33) hx hb d_La_segment_14 (by decide) ?_
  refine lv_iconst (v := 0) hx hb d_La_segment_33 (by decide) ?_
  exact W.iret hx hb hr (fun t ht hW => ⟨⟨_, (), rfl, rfl, ka_at ht hP⟩, hS.F ht⟩) hS.2.2 d_La_segment_34 hlk
set_option maxRecDepth 100000 in
set_option maxHeartbeats 4000000 in
theorem c_La_segment_err (l : Launch) (hl9 : l.stackTraces = false) (D : va_G) (A : Nat → Nat) (r : va_W) (f : Nat → Int64) (sz : Nat) (σ : KS) (x1 x2 x3 x4 : Int32) (k : Nat) (hk : k = 1 ∨ k = 2 ∨ k = 3 ∨ k = 4) (u : KS) (h : f_Ke_segment σ x1 x2 x3 x4 = some (.error k, u)) : Met l y_La_segment (Cond.codeWith y_La_segment b_La_segment 7 (some .int) hh_La_segment :: T0) ({ frames := 9, cells := 1, slots := 6, locals := 149 } : Room) (va_Pc [.ref (A 0), .int x1, .int x2, .int x3, .int x4, .ref (A 63)] (ka_Wc D A (GW A σ (ka_oc A f :: r)) sz)) (ka_Ri D (nI k) (GW A u (ka_oc A f :: r)) (va_A (GW A σ (ka_oc A f :: r)) sz)) 1 6 (va_A (GW A σ (ka_oc A f :: r)) sz) := by
  refine ka_ofT (own := R_La) (hh := hh_La_segment) (fun A9 => ka_Ri D (nI k) (GW A u (ka_oc A f :: r)) A9) (by decide) rfl (Nat.le_of_ble_eq_true rfl) ?_
  intro p e s m below meth c A9 ls S9 hr hlk hex hC X9 hP hD hl
  obtain ⟨hx, hb, hml, hown, hts⟩ := id S9
  have hK := X9.2.1
  have hS : va_S A9 s.heap s.heap [] := va_S.rf
  replace hl : lv_has ls 7 [(0, .ref (A 0)), (1, .int x1), (2, .int x2), (3, .int x3), (4, .int x4), (5, .ref (A 63))] := hl
  refine lv_aload hx hb d_La_segment_0 (lv_at hl 5 rfl) ?_
  refine lv_iconst (v := 0) hx hb d_La_segment_2 (by decide) ?_
  refine lv_aload_n hx hb d_La_segment_3 rfl (lv_at hl 0 rfl) ?_
  refine lv_iload_n hx hb d_La_segment_4 rfl (lv_at hl 1 rfl) ?_
  refine lv_iload_n hx hb d_La_segment_5 rfl (lv_at hl 2 rfl) ?_
  refine lv_iload_n hx hb d_La_segment_6 rfl (lv_at hl 3 rfl) ?_
  refine lv_iload hx hb d_La_segment_7 (lv_at hl 4 rfl) ?_
  rcases hk with rfl | rfl | rfl | rfl
  · refine ka_caught (vx_runV (As := [.int x1, .int x2, .int x3, .int x4]) (rest := [.int 0, .ref (A 63)]) S9 (c_Ke_segment_err l hl9 D A (ka_oc A f :: r) _ σ x1 x2 x3 x4 _ _ h) (cwV 4 hts (tg_V wl_La_37 wm_Ke_segment we_Ke_segment wi_Ke wo_Ke_segment) rfl rfl rfl wq_Ke_segment ⟨Nat.le_of_ble_eq_true rfl, Nat.le_of_ble_eq_true rfl⟩) (ka_preV X9 hP hD hS 0 rfl rfl) rfl rfl hl.1 rfl (lv_room (Nat.le_of_ble_eq_true rfl)) d_La_segment_9 ⟨Nat.le_of_ble_eq_true rfl, Nat.le_of_ble_eq_true rfl⟩) X9 hD hS rfl (fun ce q9 H locs hP hD hS hce hcv hcl => ?_)
    refine vx_catch (name := "java/lang/IllegalArgumentException") (E := "java/lang/IllegalArgumentException") hown (tableOf []) ⟨0, 14, 17, 13⟩ (tableOf [(0, 14, 21, 15), (0, 14, 25, 17), (0, 14, 29, 19)]) (hex.trans rfl) (fun z hz => by cases hz) (by decide) (by decide) (hts _ wc_La_13) (X9.2.2.2.2.use _ (by decide +kernel)) hce hcv hcl ?_
    refine lv_astore (lv' := (6, .ref q9) :: [(0, .ref (A 0)), (1, .int x1), (2, .int x2), (3, .int x3), (4, .int x4), (5, .ref (A 63))]) hx hb d_La_segment_17 hl (by decide) rfl (fun ls hl => ?_)
    refine lv_iconst (v := 1) hx hb d_La_segment_19 (by decide) ?_
    exact W.iret hx hb hr (fun t ht hW => ⟨⟨_, (), rfl, rfl, ka_at ht hP⟩, hS.F ht⟩) hS.2.2 d_La_segment_20 hlk
  · refine ka_caught (vx_runV (As := [.int x1, .int x2, .int x3, .int x4]) (rest := [.int 0, .ref (A 63)]) S9 (c_Ke_segment_err l hl9 D A (ka_oc A f :: r) _ σ x1 x2 x3 x4 _ _ h) (cwV 4 hts (tg_V wl_La_37 wm_Ke_segment we_Ke_segment wi_Ke wo_Ke_segment) rfl rfl rfl wq_Ke_segment ⟨Nat.le_of_ble_eq_true rfl, Nat.le_of_ble_eq_true rfl⟩) (ka_preV X9 hP hD hS 0 rfl rfl) rfl rfl hl.1 rfl (lv_room (Nat.le_of_ble_eq_true rfl)) d_La_segment_9 ⟨Nat.le_of_ble_eq_true rfl, Nat.le_of_ble_eq_true rfl⟩) X9 hD hS rfl (fun ce q9 H locs hP hD hS hce hcv hcl => ?_)
    refine vx_catch (name := "java/util/NoSuchElementException") (E := "java/util/NoSuchElementException") hown (tableOf [(0, 14, 17, 13)]) ⟨0, 14, 21, 15⟩ (tableOf [(0, 14, 25, 17), (0, 14, 29, 19)]) (hex.trans rfl) (fun z hz => by
      simp only [tableOf, List.map_cons, List.map_nil, List.mem_cons, List.not_mem_nil, or_false] at hz
      subst hz
      exact Or.inr ⟨(by decide), _, hts _ wc_La_13, hC.1⟩) (by decide) (by decide) (hts _ wc_La_15) (X9.2.2.2.2.use _ (by decide +kernel)) hce hcv hcl ?_
    refine lv_astore (lv' := (6, .ref q9) :: [(0, .ref (A 0)), (1, .int x1), (2, .int x2), (3, .int x3), (4, .int x4), (5, .ref (A 63))]) hx hb d_La_segment_21 hl (by decide) rfl (fun ls hl => ?_)
    refine lv_iconst (v := 2) hx hb d_La_segment_23 (by decide) ?_
    exact W.iret hx hb hr (fun t ht hW => ⟨⟨_, (), rfl, rfl, ka_at ht hP⟩, hS.F ht⟩) hS.2.2 d_La_segment_24 hlk
  · refine ka_caught (vx_runV (As := [.int x1, .int x2, .int x3, .int x4]) (rest := [.int 0, .ref (A 63)]) S9 (c_Ke_segment_err l hl9 D A (ka_oc A f :: r) _ σ x1 x2 x3 x4 _ _ h) (cwV 4 hts (tg_V wl_La_37 wm_Ke_segment we_Ke_segment wi_Ke wo_Ke_segment) rfl rfl rfl wq_Ke_segment ⟨Nat.le_of_ble_eq_true rfl, Nat.le_of_ble_eq_true rfl⟩) (ka_preV X9 hP hD hS 0 rfl rfl) rfl rfl hl.1 rfl (lv_room (Nat.le_of_ble_eq_true rfl)) d_La_segment_9 ⟨Nat.le_of_ble_eq_true rfl, Nat.le_of_ble_eq_true rfl⟩) X9 hD hS rfl (fun ce q9 H locs hP hD hS hce hcv hcl => ?_)
    refine vx_catch (name := "java/lang/UnsupportedOperationException") (E := "java/lang/UnsupportedOperationException") hown (tableOf [(0, 14, 17, 13), (0, 14, 21, 15)]) ⟨0, 14, 25, 17⟩ (tableOf [(0, 14, 29, 19)]) (hex.trans rfl) (fun z hz => by
      simp only [tableOf, List.map_cons, List.map_nil, List.mem_cons, List.not_mem_nil, or_false] at hz
      rcases hz with rfl | rfl
      · exact Or.inr ⟨(by decide), _, hts _ wc_La_13, hC.2.1⟩
      · exact Or.inr ⟨(by decide), _, hts _ wc_La_15, hC.2.2.1⟩) (by decide) (by decide) (hts _ wc_La_17) (X9.2.2.2.2.use _ (by decide +kernel)) hce hcv hcl ?_
    refine lv_astore (lv' := (6, .ref q9) :: [(0, .ref (A 0)), (1, .int x1), (2, .int x2), (3, .int x3), (4, .int x4), (5, .ref (A 63))]) hx hb d_La_segment_25 hl (by decide) rfl (fun ls hl => ?_)
    refine lv_iconst (v := 3) hx hb d_La_segment_27 (by decide) ?_
    exact W.iret hx hb hr (fun t ht hW => ⟨⟨_, (), rfl, rfl, ka_at ht hP⟩, hS.F ht⟩) hS.2.2 d_La_segment_28 hlk
  · refine ka_caught (vx_runV (As := [.int x1, .int x2, .int x3, .int x4]) (rest := [.int 0, .ref (A 63)]) S9 (c_Ke_segment_err l hl9 D A (ka_oc A f :: r) _ σ x1 x2 x3 x4 _ _ h) (cwV 4 hts (tg_V wl_La_37 wm_Ke_segment we_Ke_segment wi_Ke wo_Ke_segment) rfl rfl rfl wq_Ke_segment ⟨Nat.le_of_ble_eq_true rfl, Nat.le_of_ble_eq_true rfl⟩) (ka_preV X9 hP hD hS 0 rfl rfl) rfl rfl hl.1 rfl (lv_room (Nat.le_of_ble_eq_true rfl)) d_La_segment_9 ⟨Nat.le_of_ble_eq_true rfl, Nat.le_of_ble_eq_true rfl⟩) X9 hD hS rfl (fun ce q9 H locs hP hD hS hce hcv hcl => ?_)
    refine vx_catch (name := "java/lang/IllegalStateException") (E := "java/lang/IllegalStateException") hown (tableOf [(0, 14, 17, 13), (0, 14, 21, 15), (0, 14, 25, 17)]) ⟨0, 14, 29, 19⟩ (tableOf []) (hex.trans rfl) (fun z hz => by
      simp only [tableOf, List.map_cons, List.map_nil, List.mem_cons, List.not_mem_nil, or_false] at hz
      rcases hz with rfl | rfl | rfl
      · exact Or.inr ⟨(by decide), _, hts _ wc_La_13, hC.2.2.2.1⟩
      · exact Or.inr ⟨(by decide), _, hts _ wc_La_15, hC.2.2.2.2.1⟩
      · exact Or.inr ⟨(by decide), _, hts _ wc_La_17, hC.2.2.2.2.2⟩) (by decide) (by decide) (hts _ wc_La_19) (X9.2.2.2.2.use _ (by decide +kernel)) hce hcv hcl ?_
    refine lv_astore (lv' := (6, .ref q9) :: [(0, .ref (A 0)), (1, .int x1), (2, .int x2), (3, .int x3), (4, .int x4), (5, .ref (A 63))]) hx hb d_La_segment_29 hl (by decide) rfl (fun ls hl => ?_)
    refine lv_iconst (v := 4) hx hb d_La_segment_31 (by decide) ?_
    exact W.iret hx hb hr (fun t ht hW => ⟨⟨_, (), rfl, rfl, ka_at ht hP⟩, hS.F ht⟩) hS.2.2 d_La_segment_32 hlk
set_option maxRecDepth 100000 in
set_option maxHeartbeats 4000000 in
theorem c_La_gate_ok (l : Launch) (hl9 : l.stackTraces = false) (D : va_G) (A : Nat → Nat) (r : va_W) (f : Nat → Int64) (sz : Nat) (σ : KS) (x1 x2 x3 x4 x5 : Int32) (v : Int32) (u : KS) (h : f_Ke_gate σ x1 x2 x3 x4 x5 = some (.ok v, u)) : Met l y_La_gate (Cond.codeWith y_La_gate b_La_gate 8 (some .int) hh_La_gate :: T0) ({ frames := 6, cells := 0, slots := 0, locals := 138 } : Room) (va_Pc [.ref (A 0), .int x1, .int x2, .int x3, .int x4, .int x5, .ref (A 63)] (ka_Wc D A (GW A σ (ka_oc A f :: r)) sz)) (ka_Ri D 0 (GW A u (ka_oc A (vp_updL f 0 v.toInt64) :: r)) (va_A (GW A σ (ka_oc A f :: r)) sz)) 0 0 (va_A (GW A σ (ka_oc A f :: r)) sz) := by
  refine ka_ofT (own := R_La) (hh := hh_La_gate) (fun A9 => ka_Ri D 0 (GW A u (ka_oc A (vp_updL f 0 v.toInt64) :: r)) A9) (by decide) rfl (Nat.le_of_ble_eq_true rfl) ?_
  intro p e s m below meth c A9 ls S9 hr hlk hex hC X9 hP hD hl
  obtain ⟨hx, hb, hml, hown, hts⟩ := id S9
  have hK := X9.2.1
  have hS : va_S A9 s.heap s.heap [] := va_S.rf
  replace hl : lv_has ls 8 [(0, .ref (A 0)), (1, .int x1), (2, .int x2), (3, .int x3), (4, .int x4), (5, .int x5), (6, .ref (A 63))] := hl
  refine lv_aload hx hb d_La_gate_0 (lv_at hl 6 rfl) ?_
  refine lv_iconst (v := 0) hx hb d_La_gate_2 (by decide) ?_
  refine lv_aload_n hx hb d_La_gate_3 rfl (lv_at hl 0 rfl) ?_
  refine lv_iload_n hx hb d_La_gate_4 rfl (lv_at hl 1 rfl) ?_
  refine lv_iload_n hx hb d_La_gate_5 rfl (lv_at hl 2 rfl) ?_
  refine lv_iload_n hx hb d_La_gate_6 rfl (lv_at hl 3 rfl) ?_
  refine lv_iload hx hb d_La_gate_7 (lv_at hl 4 rfl) ?_
  refine lv_iload hx hb d_La_gate_9 (lv_at hl 5 rfl) ?_
  refine ka_i (va_runV (As := [.int x1, .int x2, .int x3, .int x4, .int x5]) (rest := [.int 0, .ref (A 63)]) S9 (c_Ke_gate_ok l hl9 D A (ka_oc A f :: r) _ σ x1 x2 x3 x4 x5 _ _ h) (cwV 5 hts (tg_V wl_La_40 wm_Ke_gate we_Ke_gate wi_Ke wo_Ke_gate) rfl rfl rfl wq_Ke_gate ⟨Nat.le_of_ble_eq_true rfl, Nat.le_of_ble_eq_true rfl⟩) (ka_preV X9 hP hD hS 0 rfl rfl) rfl rfl hl.1 rfl (lv_room (Nat.le_of_ble_eq_true rfl)) d_La_gate_11 ⟨Nat.le_of_ble_eq_true rfl, Nat.le_of_ble_eq_true rfl⟩) X9 hD hS rfl (fun H locs hP hD hS => ?_)
  refine lv_i2l (v := v.toInt64) hx hb d_La_gate_14 rfl ?_
  refine va_last hx hb hK hP hD hS 47 2 rfl rfl (by unfold vp_in; decide) d_La_gate_15 (fun H locs hP hD hS => ?_)
  refine lv_goto (tgt := 35) hx hb d_La_gate_16 (by decide) ?_
  refine lv_iconst (v := 0) hx hb d_La_gate_35 (by decide) ?_
  exact W.iret hx hb hr (fun t ht hW => ⟨⟨_, (), rfl, rfl, ka_at ht hP⟩, hS.F ht⟩) hS.2.2 d_La_gate_36 hlk
set_option maxRecDepth 100000 in
set_option maxHeartbeats 4000000 in
theorem c_La_gate_err (l : Launch) (hl9 : l.stackTraces = false) (D : va_G) (A : Nat → Nat) (r : va_W) (f : Nat → Int64) (sz : Nat) (σ : KS) (x1 x2 x3 x4 x5 : Int32) (k : Nat) (hk : k = 1 ∨ k = 2 ∨ k = 3 ∨ k = 4) (u : KS) (h : f_Ke_gate σ x1 x2 x3 x4 x5 = some (.error k, u)) : Met l y_La_gate (Cond.codeWith y_La_gate b_La_gate 8 (some .int) hh_La_gate :: T0) ({ frames := 9, cells := 1, slots := 6, locals := 150 } : Room) (va_Pc [.ref (A 0), .int x1, .int x2, .int x3, .int x4, .int x5, .ref (A 63)] (ka_Wc D A (GW A σ (ka_oc A f :: r)) sz)) (ka_Ri D (nI k) (GW A u (ka_oc A f :: r)) (va_A (GW A σ (ka_oc A f :: r)) sz)) 1 6 (va_A (GW A σ (ka_oc A f :: r)) sz) := by
  refine ka_ofT (own := R_La) (hh := hh_La_gate) (fun A9 => ka_Ri D (nI k) (GW A u (ka_oc A f :: r)) A9) (by decide) rfl (Nat.le_of_ble_eq_true rfl) ?_
  intro p e s m below meth c A9 ls S9 hr hlk hex hC X9 hP hD hl
  obtain ⟨hx, hb, hml, hown, hts⟩ := id S9
  have hK := X9.2.1
  have hS : va_S A9 s.heap s.heap [] := va_S.rf
  replace hl : lv_has ls 8 [(0, .ref (A 0)), (1, .int x1), (2, .int x2), (3, .int x3), (4, .int x4), (5, .int x5), (6, .ref (A 63))] := hl
  refine lv_aload hx hb d_La_gate_0 (lv_at hl 6 rfl) ?_
  refine lv_iconst (v := 0) hx hb d_La_gate_2 (by decide) ?_
  refine lv_aload_n hx hb d_La_gate_3 rfl (lv_at hl 0 rfl) ?_
  refine lv_iload_n hx hb d_La_gate_4 rfl (lv_at hl 1 rfl) ?_
  refine lv_iload_n hx hb d_La_gate_5 rfl (lv_at hl 2 rfl) ?_
  refine lv_iload_n hx hb d_La_gate_6 rfl (lv_at hl 3 rfl) ?_
  refine lv_iload hx hb d_La_gate_7 (lv_at hl 4 rfl) ?_
  refine lv_iload hx hb d_La_gate_9 (lv_at hl 5 rfl) ?_
  rcases hk with rfl | rfl | rfl | rfl
  · refine ka_caught (vx_runV (As := [.int x1, .int x2, .int x3, .int x4, .int x5]) (rest := [.int 0, .ref (A 63)]) S9 (c_Ke_gate_err l hl9 D A (ka_oc A f :: r) _ σ x1 x2 x3 x4 x5 _ _ h) (cwV 5 hts (tg_V wl_La_40 wm_Ke_gate we_Ke_gate wi_Ke wo_Ke_gate) rfl rfl rfl wq_Ke_gate ⟨Nat.le_of_ble_eq_true rfl, Nat.le_of_ble_eq_true rfl⟩) (ka_preV X9 hP hD hS 0 rfl rfl) rfl rfl hl.1 rfl (lv_room (Nat.le_of_ble_eq_true rfl)) d_La_gate_11 ⟨Nat.le_of_ble_eq_true rfl, Nat.le_of_ble_eq_true rfl⟩) X9 hD hS rfl (fun ce q9 H locs hP hD hS hce hcv hcl => ?_)
    refine vx_catch (name := "java/lang/IllegalArgumentException") (E := "java/lang/IllegalArgumentException") hown (tableOf []) ⟨0, 16, 19, 13⟩ (tableOf [(0, 16, 23, 15), (0, 16, 27, 17), (0, 16, 31, 19)]) (hex.trans rfl) (fun z hz => by cases hz) (by decide) (by decide) (hts _ wc_La_13) (X9.2.2.2.2.use _ (by decide +kernel)) hce hcv hcl ?_
    refine lv_astore (lv' := (7, .ref q9) :: [(0, .ref (A 0)), (1, .int x1), (2, .int x2), (3, .int x3), (4, .int x4), (5, .int x5), (6, .ref (A 63))]) hx hb d_La_gate_19 hl (by decide) rfl (fun ls hl => ?_)
    refine lv_iconst (v := 1) hx hb d_La_gate_21 (by decide) ?_
    exact W.iret hx hb hr (fun t ht hW => ⟨⟨_, (), rfl, rfl, ka_at ht hP⟩, hS.F ht⟩) hS.2.2 d_La_gate_22 hlk
  · refine ka_caught (vx_runV (As := [.int x1, .int x2, .int x3, .int x4, .int x5]) (rest := [.int 0, .ref (A 63)]) S9 (c_Ke_gate_err l hl9 D A (ka_oc A f :: r) _ σ x1 x2 x3 x4 x5 _ _ h) (cwV 5 hts (tg_V wl_La_40 wm_Ke_gate we_Ke_gate wi_Ke wo_Ke_gate) rfl rfl rfl wq_Ke_gate ⟨Nat.le_of_ble_eq_true rfl, Nat.le_of_ble_eq_true rfl⟩) (ka_preV X9 hP hD hS 0 rfl rfl) rfl rfl hl.1 rfl (lv_room (Nat.le_of_ble_eq_true rfl)) d_La_gate_11 ⟨Nat.le_of_ble_eq_true rfl, Nat.le_of_ble_eq_true rfl⟩) X9 hD hS rfl (fun ce q9 H locs hP hD hS hce hcv hcl => ?_)
    refine vx_catch (name := "java/util/NoSuchElementException") (E := "java/util/NoSuchElementException") hown (tableOf [(0, 16, 19, 13)]) ⟨0, 16, 23, 15⟩ (tableOf [(0, 16, 27, 17), (0, 16, 31, 19)]) (hex.trans rfl) (fun z hz => by
      simp only [tableOf, List.map_cons, List.map_nil, List.mem_cons, List.not_mem_nil, or_false] at hz
      subst hz
      exact Or.inr ⟨(by decide), _, hts _ wc_La_13, hC.1⟩) (by decide) (by decide) (hts _ wc_La_15) (X9.2.2.2.2.use _ (by decide +kernel)) hce hcv hcl ?_
    refine lv_astore (lv' := (7, .ref q9) :: [(0, .ref (A 0)), (1, .int x1), (2, .int x2), (3, .int x3), (4, .int x4), (5, .int x5), (6, .ref (A 63))]) hx hb d_La_gate_23 hl (by decide) rfl (fun ls hl => ?_)
    refine lv_iconst (v := 2) hx hb d_La_gate_25 (by decide) ?_
    exact W.iret hx hb hr (fun t ht hW => ⟨⟨_, (), rfl, rfl, ka_at ht hP⟩, hS.F ht⟩) hS.2.2 d_La_gate_26 hlk
  · refine ka_caught (vx_runV (As := [.int x1, .int x2, .int x3, .int x4, .int x5]) (rest := [.int 0, .ref (A 63)]) S9 (c_Ke_gate_err l hl9 D A (ka_oc A f :: r) _ σ x1 x2 x3 x4 x5 _ _ h) (cwV 5 hts (tg_V wl_La_40 wm_Ke_gate we_Ke_gate wi_Ke wo_Ke_gate) rfl rfl rfl wq_Ke_gate ⟨Nat.le_of_ble_eq_true rfl, Nat.le_of_ble_eq_true rfl⟩) (ka_preV X9 hP hD hS 0 rfl rfl) rfl rfl hl.1 rfl (lv_room (Nat.le_of_ble_eq_true rfl)) d_La_gate_11 ⟨Nat.le_of_ble_eq_true rfl, Nat.le_of_ble_eq_true rfl⟩) X9 hD hS rfl (fun ce q9 H locs hP hD hS hce hcv hcl => ?_)
    refine vx_catch (name := "java/lang/UnsupportedOperationException") (E := "java/lang/UnsupportedOperationException") hown (tableOf [(0, 16, 19, 13), (0, 16, 23, 15)]) ⟨0, 16, 27, 17⟩ (tableOf [(0, 16, 31, 19)]) (hex.trans rfl) (fun z hz => by
      simp only [tableOf, List.map_cons, List.map_nil, List.mem_cons, List.not_mem_nil, or_false] at hz
      rcases hz with rfl | rfl
      · exact Or.inr ⟨(by decide), _, hts _ wc_La_13, hC.2.1⟩
      · exact Or.inr ⟨(by decide), _, hts _ wc_La_15, hC.2.2.1⟩) (by decide) (by decide) (hts _ wc_La_17) (X9.2.2.2.2.use _ (by decide +kernel)) hce hcv hcl ?_
    refine lv_astore (lv' := (7, .ref q9) :: [(0, .ref (A 0)), (1, .int x1), (2, .int x2), (3, .int x3), (4, .int x4), (5, .int x5), (6, .ref (A 63))]) hx hb d_La_gate_27 hl (by decide) rfl (fun ls hl => ?_)
    refine lv_iconst (v := 3) hx hb d_La_gate_29 (by decide) ?_
    exact W.iret hx hb hr (fun t ht hW => ⟨⟨_, (), rfl, rfl, ka_at ht hP⟩, hS.F ht⟩) hS.2.2 d_La_gate_30 hlk
  · refine ka_caught (vx_runV (As := [.int x1, .int x2, .int x3, .int x4, .int x5]) (rest := [.int 0, .ref (A 63)]) S9 (c_Ke_gate_err l hl9 D A (ka_oc A f :: r) _ σ x1 x2 x3 x4 x5 _ _ h) (cwV 5 hts (tg_V wl_La_40 wm_Ke_gate we_Ke_gate wi_Ke wo_Ke_gate) rfl rfl rfl wq_Ke_gate ⟨Nat.le_of_ble_eq_true rfl, Nat.le_of_ble_eq_true rfl⟩) (ka_preV X9 hP hD hS 0 rfl rfl) rfl rfl hl.1 rfl (lv_room (Nat.le_of_ble_eq_true rfl)) d_La_gate_11 ⟨Nat.le_of_ble_eq_true rfl, Nat.le_of_ble_eq_true rfl⟩) X9 hD hS rfl (fun ce q9 H locs hP hD hS hce hcv hcl => ?_)
    refine vx_catch (name := "java/lang/IllegalStateException") (E := "java/lang/IllegalStateException") hown (tableOf [(0, 16, 19, 13), (0, 16, 23, 15), (0, 16, 27, 17)]) ⟨0, 16, 31, 19⟩ (tableOf []) (hex.trans rfl) (fun z hz => by
      simp only [tableOf, List.map_cons, List.map_nil, List.mem_cons, List.not_mem_nil, or_false] at hz
      rcases hz with rfl | rfl | rfl
      · exact Or.inr ⟨(by decide), _, hts _ wc_La_13, hC.2.2.2.1⟩
      · exact Or.inr ⟨(by decide), _, hts _ wc_La_15, hC.2.2.2.2.1⟩
      · exact Or.inr ⟨(by decide), _, hts _ wc_La_17, hC.2.2.2.2.2⟩) (by decide) (by decide) (hts _ wc_La_19) (X9.2.2.2.2.use _ (by decide +kernel)) hce hcv hcl ?_
    refine lv_astore (lv' := (7, .ref q9) :: [(0, .ref (A 0)), (1, .int x1), (2, .int x2), (3, .int x3), (4, .int x4), (5, .int x5), (6, .ref (A 63))]) hx hb d_La_gate_31 hl (by decide) rfl (fun ls hl => ?_)
    refine lv_iconst (v := 4) hx hb d_La_gate_33 (by decide) ?_
    exact W.iret hx hb hr (fun t ht hW => ⟨⟨_, (), rfl, rfl, ka_at ht hP⟩, hS.F ht⟩) hS.2.2 d_La_gate_34 hlk
set_option maxRecDepth 100000 in
set_option maxHeartbeats 4000000 in
theorem c_La_thread_ok (l : Launch) (hl9 : l.stackTraces = false) (D : va_G) (A : Nat → Nat) (r : va_W) (f : Nat → Int64) (sz : Nat) (σ : KS) (x1 x2 x3 x4 : Int32) (v : Int32) (u : KS) (h : f_Ke_thread σ x1 x2 x3 x4 = some (.ok v, u)) : Met l y_La_thread (Cond.codeWith y_La_thread b_La_thread 7 (some .int) hh_La_thread :: T0) ({ frames := 6, cells := 0, slots := 0, locals := 137 } : Room) (va_Pc [.ref (A 0), .int x1, .int x2, .int x3, .int x4, .ref (A 63)] (ka_Wc D A (GW A σ (ka_oc A f :: r)) sz)) (ka_Ri D 0 (GW A u (ka_oc A (vp_updL f 0 v.toInt64) :: r)) (va_A (GW A σ (ka_oc A f :: r)) sz)) 0 0 (va_A (GW A σ (ka_oc A f :: r)) sz) := by
  refine ka_ofT (own := R_La) (hh := hh_La_thread) (fun A9 => ka_Ri D 0 (GW A u (ka_oc A (vp_updL f 0 v.toInt64) :: r)) A9) (by decide) rfl (Nat.le_of_ble_eq_true rfl) ?_
  intro p e s m below meth c A9 ls S9 hr hlk hex hC X9 hP hD hl
  obtain ⟨hx, hb, hml, hown, hts⟩ := id S9
  have hK := X9.2.1
  have hS : va_S A9 s.heap s.heap [] := va_S.rf
  replace hl : lv_has ls 7 [(0, .ref (A 0)), (1, .int x1), (2, .int x2), (3, .int x3), (4, .int x4), (5, .ref (A 63))] := hl
  refine lv_aload hx hb d_La_thread_0 (lv_at hl 5 rfl) ?_
  refine lv_iconst (v := 0) hx hb d_La_thread_2 (by decide) ?_
  refine lv_aload_n hx hb d_La_thread_3 rfl (lv_at hl 0 rfl) ?_
  refine lv_iload_n hx hb d_La_thread_4 rfl (lv_at hl 1 rfl) ?_
  refine lv_iload_n hx hb d_La_thread_5 rfl (lv_at hl 2 rfl) ?_
  refine lv_iload_n hx hb d_La_thread_6 rfl (lv_at hl 3 rfl) ?_
  refine lv_iload hx hb d_La_thread_7 (lv_at hl 4 rfl) ?_
  refine ka_i (va_runV (As := [.int x1, .int x2, .int x3, .int x4]) (rest := [.int 0, .ref (A 63)]) S9 (c_Ke_thread_ok l hl9 D A (ka_oc A f :: r) _ σ x1 x2 x3 x4 _ _ h) (cwV 4 hts (tg_V wl_La_44 wm_Ke_thread we_Ke_thread wi_Ke wo_Ke_thread) rfl rfl rfl wq_Ke_thread ⟨Nat.le_of_ble_eq_true rfl, Nat.le_of_ble_eq_true rfl⟩) (ka_preV X9 hP hD hS 0 rfl rfl) rfl rfl hl.1 rfl (lv_room (Nat.le_of_ble_eq_true rfl)) d_La_thread_9 ⟨Nat.le_of_ble_eq_true rfl, Nat.le_of_ble_eq_true rfl⟩) X9 hD hS rfl (fun H locs hP hD hS => ?_)
  refine lv_i2l (v := v.toInt64) hx hb d_La_thread_12 rfl ?_
  refine va_last hx hb hK hP hD hS 47 2 rfl rfl (by unfold vp_in; decide) d_La_thread_13 (fun H locs hP hD hS => ?_)
  refine lv_goto (tgt := 33) hx hb d_La_thread_14 (by decide) ?_
  refine lv_iconst (v := 0) hx hb d_La_thread_33 (by decide) ?_
  exact W.iret hx hb hr (fun t ht hW => ⟨⟨_, (), rfl, rfl, ka_at ht hP⟩, hS.F ht⟩) hS.2.2 d_La_thread_34 hlk
set_option maxRecDepth 100000 in
set_option maxHeartbeats 4000000 in
theorem c_La_thread_err (l : Launch) (hl9 : l.stackTraces = false) (D : va_G) (A : Nat → Nat) (r : va_W) (f : Nat → Int64) (sz : Nat) (σ : KS) (x1 x2 x3 x4 : Int32) (k : Nat) (hk : k = 1 ∨ k = 2 ∨ k = 3 ∨ k = 4) (u : KS) (h : f_Ke_thread σ x1 x2 x3 x4 = some (.error k, u)) : Met l y_La_thread (Cond.codeWith y_La_thread b_La_thread 7 (some .int) hh_La_thread :: T0) ({ frames := 9, cells := 1, slots := 6, locals := 149 } : Room) (va_Pc [.ref (A 0), .int x1, .int x2, .int x3, .int x4, .ref (A 63)] (ka_Wc D A (GW A σ (ka_oc A f :: r)) sz)) (ka_Ri D (nI k) (GW A u (ka_oc A f :: r)) (va_A (GW A σ (ka_oc A f :: r)) sz)) 1 6 (va_A (GW A σ (ka_oc A f :: r)) sz) := by
  refine ka_ofT (own := R_La) (hh := hh_La_thread) (fun A9 => ka_Ri D (nI k) (GW A u (ka_oc A f :: r)) A9) (by decide) rfl (Nat.le_of_ble_eq_true rfl) ?_
  intro p e s m below meth c A9 ls S9 hr hlk hex hC X9 hP hD hl
  obtain ⟨hx, hb, hml, hown, hts⟩ := id S9
  have hK := X9.2.1
  have hS : va_S A9 s.heap s.heap [] := va_S.rf
  replace hl : lv_has ls 7 [(0, .ref (A 0)), (1, .int x1), (2, .int x2), (3, .int x3), (4, .int x4), (5, .ref (A 63))] := hl
  refine lv_aload hx hb d_La_thread_0 (lv_at hl 5 rfl) ?_
  refine lv_iconst (v := 0) hx hb d_La_thread_2 (by decide) ?_
  refine lv_aload_n hx hb d_La_thread_3 rfl (lv_at hl 0 rfl) ?_
  refine lv_iload_n hx hb d_La_thread_4 rfl (lv_at hl 1 rfl) ?_
  refine lv_iload_n hx hb d_La_thread_5 rfl (lv_at hl 2 rfl) ?_
  refine lv_iload_n hx hb d_La_thread_6 rfl (lv_at hl 3 rfl) ?_
  refine lv_iload hx hb d_La_thread_7 (lv_at hl 4 rfl) ?_
  rcases hk with rfl | rfl | rfl | rfl
  · refine ka_caught (vx_runV (As := [.int x1, .int x2, .int x3, .int x4]) (rest := [.int 0, .ref (A 63)]) S9 (c_Ke_thread_err l hl9 D A (ka_oc A f :: r) _ σ x1 x2 x3 x4 _ _ h) (cwV 4 hts (tg_V wl_La_44 wm_Ke_thread we_Ke_thread wi_Ke wo_Ke_thread) rfl rfl rfl wq_Ke_thread ⟨Nat.le_of_ble_eq_true rfl, Nat.le_of_ble_eq_true rfl⟩) (ka_preV X9 hP hD hS 0 rfl rfl) rfl rfl hl.1 rfl (lv_room (Nat.le_of_ble_eq_true rfl)) d_La_thread_9 ⟨Nat.le_of_ble_eq_true rfl, Nat.le_of_ble_eq_true rfl⟩) X9 hD hS rfl (fun ce q9 H locs hP hD hS hce hcv hcl => ?_)
    refine vx_catch (name := "java/lang/IllegalArgumentException") (E := "java/lang/IllegalArgumentException") hown (tableOf []) ⟨0, 14, 17, 13⟩ (tableOf [(0, 14, 21, 15), (0, 14, 25, 17), (0, 14, 29, 19)]) (hex.trans rfl) (fun z hz => by cases hz) (by decide) (by decide) (hts _ wc_La_13) (X9.2.2.2.2.use _ (by decide +kernel)) hce hcv hcl ?_
    refine lv_astore (lv' := (6, .ref q9) :: [(0, .ref (A 0)), (1, .int x1), (2, .int x2), (3, .int x3), (4, .int x4), (5, .ref (A 63))]) hx hb d_La_thread_17 hl (by decide) rfl (fun ls hl => ?_)
    refine lv_iconst (v := 1) hx hb d_La_thread_19 (by decide) ?_
    exact W.iret hx hb hr (fun t ht hW => ⟨⟨_, (), rfl, rfl, ka_at ht hP⟩, hS.F ht⟩) hS.2.2 d_La_thread_20 hlk
  · refine ka_caught (vx_runV (As := [.int x1, .int x2, .int x3, .int x4]) (rest := [.int 0, .ref (A 63)]) S9 (c_Ke_thread_err l hl9 D A (ka_oc A f :: r) _ σ x1 x2 x3 x4 _ _ h) (cwV 4 hts (tg_V wl_La_44 wm_Ke_thread we_Ke_thread wi_Ke wo_Ke_thread) rfl rfl rfl wq_Ke_thread ⟨Nat.le_of_ble_eq_true rfl, Nat.le_of_ble_eq_true rfl⟩) (ka_preV X9 hP hD hS 0 rfl rfl) rfl rfl hl.1 rfl (lv_room (Nat.le_of_ble_eq_true rfl)) d_La_thread_9 ⟨Nat.le_of_ble_eq_true rfl, Nat.le_of_ble_eq_true rfl⟩) X9 hD hS rfl (fun ce q9 H locs hP hD hS hce hcv hcl => ?_)
    refine vx_catch (name := "java/util/NoSuchElementException") (E := "java/util/NoSuchElementException") hown (tableOf [(0, 14, 17, 13)]) ⟨0, 14, 21, 15⟩ (tableOf [(0, 14, 25, 17), (0, 14, 29, 19)]) (hex.trans rfl) (fun z hz => by
      simp only [tableOf, List.map_cons, List.map_nil, List.mem_cons, List.not_mem_nil, or_false] at hz
      subst hz
      exact Or.inr ⟨(by decide), _, hts _ wc_La_13, hC.1⟩) (by decide) (by decide) (hts _ wc_La_15) (X9.2.2.2.2.use _ (by decide +kernel)) hce hcv hcl ?_
    refine lv_astore (lv' := (6, .ref q9) :: [(0, .ref (A 0)), (1, .int x1), (2, .int x2), (3, .int x3), (4, .int x4), (5, .ref (A 63))]) hx hb d_La_thread_21 hl (by decide) rfl (fun ls hl => ?_)
    refine lv_iconst (v := 2) hx hb d_La_thread_23 (by decide) ?_
    exact W.iret hx hb hr (fun t ht hW => ⟨⟨_, (), rfl, rfl, ka_at ht hP⟩, hS.F ht⟩) hS.2.2 d_La_thread_24 hlk
  · refine ka_caught (vx_runV (As := [.int x1, .int x2, .int x3, .int x4]) (rest := [.int 0, .ref (A 63)]) S9 (c_Ke_thread_err l hl9 D A (ka_oc A f :: r) _ σ x1 x2 x3 x4 _ _ h) (cwV 4 hts (tg_V wl_La_44 wm_Ke_thread we_Ke_thread wi_Ke wo_Ke_thread) rfl rfl rfl wq_Ke_thread ⟨Nat.le_of_ble_eq_true rfl, Nat.le_of_ble_eq_true rfl⟩) (ka_preV X9 hP hD hS 0 rfl rfl) rfl rfl hl.1 rfl (lv_room (Nat.le_of_ble_eq_true rfl)) d_La_thread_9 ⟨Nat.le_of_ble_eq_true rfl, Nat.le_of_ble_eq_true rfl⟩) X9 hD hS rfl (fun ce q9 H locs hP hD hS hce hcv hcl => ?_)
    refine vx_catch (name := "java/lang/UnsupportedOperationException") (E := "java/lang/UnsupportedOperationException") hown (tableOf [(0, 14, 17, 13), (0, 14, 21, 15)]) ⟨0, 14, 25, 17⟩ (tableOf [(0, 14, 29, 19)]) (hex.trans rfl) (fun z hz => by
      simp only [tableOf, List.map_cons, List.map_nil, List.mem_cons, List.not_mem_nil, or_false] at hz
      rcases hz with rfl | rfl
      · exact Or.inr ⟨(by decide), _, hts _ wc_La_13, hC.2.1⟩
      · exact Or.inr ⟨(by decide), _, hts _ wc_La_15, hC.2.2.1⟩) (by decide) (by decide) (hts _ wc_La_17) (X9.2.2.2.2.use _ (by decide +kernel)) hce hcv hcl ?_
    refine lv_astore (lv' := (6, .ref q9) :: [(0, .ref (A 0)), (1, .int x1), (2, .int x2), (3, .int x3), (4, .int x4), (5, .ref (A 63))]) hx hb d_La_thread_25 hl (by decide) rfl (fun ls hl => ?_)
    refine lv_iconst (v := 3) hx hb d_La_thread_27 (by decide) ?_
    exact W.iret hx hb hr (fun t ht hW => ⟨⟨_, (), rfl, rfl, ka_at ht hP⟩, hS.F ht⟩) hS.2.2 d_La_thread_28 hlk
  · refine ka_caught (vx_runV (As := [.int x1, .int x2, .int x3, .int x4]) (rest := [.int 0, .ref (A 63)]) S9 (c_Ke_thread_err l hl9 D A (ka_oc A f :: r) _ σ x1 x2 x3 x4 _ _ h) (cwV 4 hts (tg_V wl_La_44 wm_Ke_thread we_Ke_thread wi_Ke wo_Ke_thread) rfl rfl rfl wq_Ke_thread ⟨Nat.le_of_ble_eq_true rfl, Nat.le_of_ble_eq_true rfl⟩) (ka_preV X9 hP hD hS 0 rfl rfl) rfl rfl hl.1 rfl (lv_room (Nat.le_of_ble_eq_true rfl)) d_La_thread_9 ⟨Nat.le_of_ble_eq_true rfl, Nat.le_of_ble_eq_true rfl⟩) X9 hD hS rfl (fun ce q9 H locs hP hD hS hce hcv hcl => ?_)
    refine vx_catch (name := "java/lang/IllegalStateException") (E := "java/lang/IllegalStateException") hown (tableOf [(0, 14, 17, 13), (0, 14, 21, 15), (0, 14, 25, 17)]) ⟨0, 14, 29, 19⟩ (tableOf []) (hex.trans rfl) (fun z hz => by
      simp only [tableOf, List.map_cons, List.map_nil, List.mem_cons, List.not_mem_nil, or_false] at hz
      rcases hz with rfl | rfl | rfl
      · exact Or.inr ⟨(by decide), _, hts _ wc_La_13, hC.2.2.2.1⟩
      · exact Or.inr ⟨(by decide), _, hts _ wc_La_15, hC.2.2.2.2.1⟩
      · exact Or.inr ⟨(by decide), _, hts _ wc_La_17, hC.2.2.2.2.2⟩) (by decide) (by decide) (hts _ wc_La_19) (X9.2.2.2.2.use _ (by decide +kernel)) hce hcv hcl ?_
    refine lv_astore (lv' := (6, .ref q9) :: [(0, .ref (A 0)), (1, .int x1), (2, .int x2), (3, .int x3), (4, .int x4), (5, .ref (A 63))]) hx hb d_La_thread_29 hl (by decide) rfl (fun ls hl => ?_)
    refine lv_iconst (v := 4) hx hb d_La_thread_31 (by decide) ?_
    exact W.iret hx hb hr (fun t ht hW => ⟨⟨_, (), rfl, rfl, ka_at ht hP⟩, hS.F ht⟩) hS.2.2 d_La_thread_32 hlk
set_option maxRecDepth 100000 in
set_option maxHeartbeats 4000000 in
theorem c_La_read_ok (l : Launch) (hl9 : l.stackTraces = false) (D : va_G) (A : Nat → Nat) (r : va_W) (f : Nat → Int64) (sz : Nat) (σ : KS) (x1 x2 x3 x4 : Int32) (v : Int32) (u : KS) (h : f_Ke_read σ x1 x2 x3 x4 = some (.ok v, u)) : Met l y_La_read (Cond.codeWith y_La_read b_La_read 7 (some .int) hh_La_read :: T0) ({ frames := 4, cells := 0, slots := 0, locals := 92 } : Room) (va_Pc [.ref (A 0), .int x1, .int x2, .int x3, .int x4, .ref (A 63)] (ka_Wc D A (GW A σ (ka_oc A f :: r)) sz)) (ka_Ri D 0 (GW A u (ka_oc A (vp_updL f 0 v.toInt64) :: r)) (va_A (GW A σ (ka_oc A f :: r)) sz)) 0 0 (va_A (GW A σ (ka_oc A f :: r)) sz) := by
  refine ka_ofT (own := R_La) (hh := hh_La_read) (fun A9 => ka_Ri D 0 (GW A u (ka_oc A (vp_updL f 0 v.toInt64) :: r)) A9) (by decide) rfl (Nat.le_of_ble_eq_true rfl) ?_
  intro p e s m below meth c A9 ls S9 hr hlk hex hC X9 hP hD hl
  obtain ⟨hx, hb, hml, hown, hts⟩ := id S9
  have hK := X9.2.1
  have hS : va_S A9 s.heap s.heap [] := va_S.rf
  replace hl : lv_has ls 7 [(0, .ref (A 0)), (1, .int x1), (2, .int x2), (3, .int x3), (4, .int x4), (5, .ref (A 63))] := hl
  refine lv_aload hx hb d_La_read_0 (lv_at hl 5 rfl) ?_
  refine lv_iconst (v := 0) hx hb d_La_read_2 (by decide) ?_
  refine lv_aload_n hx hb d_La_read_3 rfl (lv_at hl 0 rfl) ?_
  refine lv_iload_n hx hb d_La_read_4 rfl (lv_at hl 1 rfl) ?_
  refine lv_iload_n hx hb d_La_read_5 rfl (lv_at hl 2 rfl) ?_
  refine lv_iload_n hx hb d_La_read_6 rfl (lv_at hl 3 rfl) ?_
  refine lv_iload hx hb d_La_read_7 (lv_at hl 4 rfl) ?_
  refine ka_i (va_runV (As := [.int x1, .int x2, .int x3, .int x4]) (rest := [.int 0, .ref (A 63)]) S9 (c_Ke_read_ok l hl9 D A (ka_oc A f :: r) _ σ x1 x2 x3 x4 _ _ h) (cwV 4 hts (tg_V wl_La_47 wm_Ke_read we_Ke_read wi_Ke wo_Ke_read) rfl rfl rfl wq_Ke_read ⟨Nat.le_of_ble_eq_true rfl, Nat.le_of_ble_eq_true rfl⟩) (ka_preV X9 hP hD hS 0 rfl rfl) rfl rfl hl.1 rfl (lv_room (Nat.le_of_ble_eq_true rfl)) d_La_read_9 ⟨Nat.le_of_ble_eq_true rfl, Nat.le_of_ble_eq_true rfl⟩) X9 hD hS rfl (fun H locs hP hD hS => ?_)
  refine lv_i2l (v := v.toInt64) hx hb d_La_read_12 rfl ?_
  refine va_last hx hb hK hP hD hS 47 2 rfl rfl (by unfold vp_in; decide) d_La_read_13 (fun H locs hP hD hS => ?_)
  refine lv_goto (tgt := 33) hx hb d_La_read_14 (by decide) ?_
  refine lv_iconst (v := 0) hx hb d_La_read_33 (by decide) ?_
  exact W.iret hx hb hr (fun t ht hW => ⟨⟨_, (), rfl, rfl, ka_at ht hP⟩, hS.F ht⟩) hS.2.2 d_La_read_34 hlk
set_option maxRecDepth 100000 in
set_option maxHeartbeats 4000000 in
theorem c_La_read_err (l : Launch) (hl9 : l.stackTraces = false) (D : va_G) (A : Nat → Nat) (r : va_W) (f : Nat → Int64) (sz : Nat) (σ : KS) (x1 x2 x3 x4 : Int32) (k : Nat) (hk : k = 1 ∨ k = 2 ∨ k = 3 ∨ k = 4) (u : KS) (h : f_Ke_read σ x1 x2 x3 x4 = some (.error k, u)) : Met l y_La_read (Cond.codeWith y_La_read b_La_read 7 (some .int) hh_La_read :: T0) ({ frames := 10, cells := 1, slots := 6, locals := 172 } : Room) (va_Pc [.ref (A 0), .int x1, .int x2, .int x3, .int x4, .ref (A 63)] (ka_Wc D A (GW A σ (ka_oc A f :: r)) sz)) (ka_Ri D (nI k) (GW A u (ka_oc A f :: r)) (va_A (GW A σ (ka_oc A f :: r)) sz)) 1 6 (va_A (GW A σ (ka_oc A f :: r)) sz) := by
  refine ka_ofT (own := R_La) (hh := hh_La_read) (fun A9 => ka_Ri D (nI k) (GW A u (ka_oc A f :: r)) A9) (by decide) rfl (Nat.le_of_ble_eq_true rfl) ?_
  intro p e s m below meth c A9 ls S9 hr hlk hex hC X9 hP hD hl
  obtain ⟨hx, hb, hml, hown, hts⟩ := id S9
  have hK := X9.2.1
  have hS : va_S A9 s.heap s.heap [] := va_S.rf
  replace hl : lv_has ls 7 [(0, .ref (A 0)), (1, .int x1), (2, .int x2), (3, .int x3), (4, .int x4), (5, .ref (A 63))] := hl
  refine lv_aload hx hb d_La_read_0 (lv_at hl 5 rfl) ?_
  refine lv_iconst (v := 0) hx hb d_La_read_2 (by decide) ?_
  refine lv_aload_n hx hb d_La_read_3 rfl (lv_at hl 0 rfl) ?_
  refine lv_iload_n hx hb d_La_read_4 rfl (lv_at hl 1 rfl) ?_
  refine lv_iload_n hx hb d_La_read_5 rfl (lv_at hl 2 rfl) ?_
  refine lv_iload_n hx hb d_La_read_6 rfl (lv_at hl 3 rfl) ?_
  refine lv_iload hx hb d_La_read_7 (lv_at hl 4 rfl) ?_
  rcases hk with rfl | rfl | rfl | rfl
  · refine ka_caught (vx_runV (As := [.int x1, .int x2, .int x3, .int x4]) (rest := [.int 0, .ref (A 63)]) S9 (c_Ke_read_err l hl9 D A (ka_oc A f :: r) _ σ x1 x2 x3 x4 _ _ h) (cwV 4 hts (tg_V wl_La_47 wm_Ke_read we_Ke_read wi_Ke wo_Ke_read) rfl rfl rfl wq_Ke_read ⟨Nat.le_of_ble_eq_true rfl, Nat.le_of_ble_eq_true rfl⟩) (ka_preV X9 hP hD hS 0 rfl rfl) rfl rfl hl.1 rfl (lv_room (Nat.le_of_ble_eq_true rfl)) d_La_read_9 ⟨Nat.le_of_ble_eq_true rfl, Nat.le_of_ble_eq_true rfl⟩) X9 hD hS rfl (fun ce q9 H locs hP hD hS hce hcv hcl => ?_)
    refine vx_catch (name := "java/lang/IllegalArgumentException") (E := "java/lang/IllegalArgumentException") hown (tableOf []) ⟨0, 14, 17, 13⟩ (tableOf [(0, 14, 21, 15), (0, 14, 25, 17), (0, 14, 29, 19)]) (hex.trans rfl) (fun z hz => by cases hz) (by decide) (by decide) (hts _ wc_La_13) (X9.2.2.2.2.use _ (by decide +kernel)) hce hcv hcl ?_
    refine lv_astore (lv' := (6, .ref q9) :: [(0, .ref (A 0)), (1, .int x1), (2, .int x2), (3, .int x3), (4, .int x4), (5, .ref (A 63))]) hx hb d_La_read_17 hl (by decide) rfl (fun ls hl => ?_)
    refine lv_iconst (v := 1) hx hb d_La_read_19 (by decide) ?_
    exact W.iret hx hb hr (fun t ht hW => ⟨⟨_, (), rfl, rfl, ka_at ht hP⟩, hS.F ht⟩) hS.2.2 d_La_read_20 hlk
  · refine ka_caught (vx_runV (As := [.int x1, .int x2, .int x3, .int x4]) (rest := [.int 0, .ref (A 63)]) S9 (c_Ke_read_err l hl9 D A (ka_oc A f :: r) _ σ x1 x2 x3 x4 _ _ h) (cwV 4 hts (tg_V wl_La_47 wm_Ke_read we_Ke_read wi_Ke wo_Ke_read) rfl rfl rfl wq_Ke_read ⟨Nat.le_of_ble_eq_true rfl, Nat.le_of_ble_eq_true rfl⟩) (ka_preV X9 hP hD hS 0 rfl rfl) rfl rfl hl.1 rfl (lv_room (Nat.le_of_ble_eq_true rfl)) d_La_read_9 ⟨Nat.le_of_ble_eq_true rfl, Nat.le_of_ble_eq_true rfl⟩) X9 hD hS rfl (fun ce q9 H locs hP hD hS hce hcv hcl => ?_)
    refine vx_catch (name := "java/util/NoSuchElementException") (E := "java/util/NoSuchElementException") hown (tableOf [(0, 14, 17, 13)]) ⟨0, 14, 21, 15⟩ (tableOf [(0, 14, 25, 17), (0, 14, 29, 19)]) (hex.trans rfl) (fun z hz => by
      simp only [tableOf, List.map_cons, List.map_nil, List.mem_cons, List.not_mem_nil, or_false] at hz
      subst hz
      exact Or.inr ⟨(by decide), _, hts _ wc_La_13, hC.1⟩) (by decide) (by decide) (hts _ wc_La_15) (X9.2.2.2.2.use _ (by decide +kernel)) hce hcv hcl ?_
    refine lv_astore (lv' := (6, .ref q9) :: [(0, .ref (A 0)), (1, .int x1), (2, .int x2), (3, .int x3), (4, .int x4), (5, .ref (A 63))]) hx hb d_La_read_21 hl (by decide) rfl (fun ls hl => ?_)
    refine lv_iconst (v := 2) hx hb d_La_read_23 (by decide) ?_
    exact W.iret hx hb hr (fun t ht hW => ⟨⟨_, (), rfl, rfl, ka_at ht hP⟩, hS.F ht⟩) hS.2.2 d_La_read_24 hlk
  · refine ka_caught (vx_runV (As := [.int x1, .int x2, .int x3, .int x4]) (rest := [.int 0, .ref (A 63)]) S9 (c_Ke_read_err l hl9 D A (ka_oc A f :: r) _ σ x1 x2 x3 x4 _ _ h) (cwV 4 hts (tg_V wl_La_47 wm_Ke_read we_Ke_read wi_Ke wo_Ke_read) rfl rfl rfl wq_Ke_read ⟨Nat.le_of_ble_eq_true rfl, Nat.le_of_ble_eq_true rfl⟩) (ka_preV X9 hP hD hS 0 rfl rfl) rfl rfl hl.1 rfl (lv_room (Nat.le_of_ble_eq_true rfl)) d_La_read_9 ⟨Nat.le_of_ble_eq_true rfl, Nat.le_of_ble_eq_true rfl⟩) X9 hD hS rfl (fun ce q9 H locs hP hD hS hce hcv hcl => ?_)
    refine vx_catch (name := "java/lang/UnsupportedOperationException") (E := "java/lang/UnsupportedOperationException") hown (tableOf [(0, 14, 17, 13), (0, 14, 21, 15)]) ⟨0, 14, 25, 17⟩ (tableOf [(0, 14, 29, 19)]) (hex.trans rfl) (fun z hz => by
      simp only [tableOf, List.map_cons, List.map_nil, List.mem_cons, List.not_mem_nil, or_false] at hz
      rcases hz with rfl | rfl
      · exact Or.inr ⟨(by decide), _, hts _ wc_La_13, hC.2.1⟩
      · exact Or.inr ⟨(by decide), _, hts _ wc_La_15, hC.2.2.1⟩) (by decide) (by decide) (hts _ wc_La_17) (X9.2.2.2.2.use _ (by decide +kernel)) hce hcv hcl ?_
    refine lv_astore (lv' := (6, .ref q9) :: [(0, .ref (A 0)), (1, .int x1), (2, .int x2), (3, .int x3), (4, .int x4), (5, .ref (A 63))]) hx hb d_La_read_25 hl (by decide) rfl (fun ls hl => ?_)
    refine lv_iconst (v := 3) hx hb d_La_read_27 (by decide) ?_
    exact W.iret hx hb hr (fun t ht hW => ⟨⟨_, (), rfl, rfl, ka_at ht hP⟩, hS.F ht⟩) hS.2.2 d_La_read_28 hlk
  · refine ka_caught (vx_runV (As := [.int x1, .int x2, .int x3, .int x4]) (rest := [.int 0, .ref (A 63)]) S9 (c_Ke_read_err l hl9 D A (ka_oc A f :: r) _ σ x1 x2 x3 x4 _ _ h) (cwV 4 hts (tg_V wl_La_47 wm_Ke_read we_Ke_read wi_Ke wo_Ke_read) rfl rfl rfl wq_Ke_read ⟨Nat.le_of_ble_eq_true rfl, Nat.le_of_ble_eq_true rfl⟩) (ka_preV X9 hP hD hS 0 rfl rfl) rfl rfl hl.1 rfl (lv_room (Nat.le_of_ble_eq_true rfl)) d_La_read_9 ⟨Nat.le_of_ble_eq_true rfl, Nat.le_of_ble_eq_true rfl⟩) X9 hD hS rfl (fun ce q9 H locs hP hD hS hce hcv hcl => ?_)
    refine vx_catch (name := "java/lang/IllegalStateException") (E := "java/lang/IllegalStateException") hown (tableOf [(0, 14, 17, 13), (0, 14, 21, 15), (0, 14, 25, 17)]) ⟨0, 14, 29, 19⟩ (tableOf []) (hex.trans rfl) (fun z hz => by
      simp only [tableOf, List.map_cons, List.map_nil, List.mem_cons, List.not_mem_nil, or_false] at hz
      rcases hz with rfl | rfl | rfl
      · exact Or.inr ⟨(by decide), _, hts _ wc_La_13, hC.2.2.2.1⟩
      · exact Or.inr ⟨(by decide), _, hts _ wc_La_15, hC.2.2.2.2.1⟩
      · exact Or.inr ⟨(by decide), _, hts _ wc_La_17, hC.2.2.2.2.2⟩) (by decide) (by decide) (hts _ wc_La_19) (X9.2.2.2.2.use _ (by decide +kernel)) hce hcv hcl ?_
    refine lv_astore (lv' := (6, .ref q9) :: [(0, .ref (A 0)), (1, .int x1), (2, .int x2), (3, .int x3), (4, .int x4), (5, .ref (A 63))]) hx hb d_La_read_29 hl (by decide) rfl (fun ls hl => ?_)
    refine lv_iconst (v := 4) hx hb d_La_read_31 (by decide) ?_
    exact W.iret hx hb hr (fun t ht hW => ⟨⟨_, (), rfl, rfl, ka_at ht hP⟩, hS.F ht⟩) hS.2.2 d_La_read_32 hlk
set_option maxRecDepth 100000 in
set_option maxHeartbeats 4000000 in
theorem c_La_write_ok (l : Launch) (hl9 : l.stackTraces = false) (D : va_G) (A : Nat → Nat) (r : va_W) (f : Nat → Int64) (sz : Nat) (σ : KS) (x1 x2 x3 x4 x5 : Int32) (v : Int32) (u : KS) (h : f_Ke_write σ x1 x2 x3 x4 x5 = some (.ok v, u)) : Met l y_La_write (Cond.codeWith y_La_write b_La_write 8 (some .int) hh_La_write :: T0) ({ frames := 5, cells := 0, slots := 0, locals := 115 } : Room) (va_Pc [.ref (A 0), .int x1, .int x2, .int x3, .int x4, .int x5, .ref (A 63)] (ka_Wc D A (GW A σ (ka_oc A f :: r)) sz)) (ka_Ri D 0 (GW A u (ka_oc A (vp_updL f 0 v.toInt64) :: r)) (va_A (GW A σ (ka_oc A f :: r)) sz)) 0 0 (va_A (GW A σ (ka_oc A f :: r)) sz) := by
  refine ka_ofT (own := R_La) (hh := hh_La_write) (fun A9 => ka_Ri D 0 (GW A u (ka_oc A (vp_updL f 0 v.toInt64) :: r)) A9) (by decide) rfl (Nat.le_of_ble_eq_true rfl) ?_
  intro p e s m below meth c A9 ls S9 hr hlk hex hC X9 hP hD hl
  obtain ⟨hx, hb, hml, hown, hts⟩ := id S9
  have hK := X9.2.1
  have hS : va_S A9 s.heap s.heap [] := va_S.rf
  replace hl : lv_has ls 8 [(0, .ref (A 0)), (1, .int x1), (2, .int x2), (3, .int x3), (4, .int x4), (5, .int x5), (6, .ref (A 63))] := hl
  refine lv_aload hx hb d_La_write_0 (lv_at hl 6 rfl) ?_
  refine lv_iconst (v := 0) hx hb d_La_write_2 (by decide) ?_
  refine lv_aload_n hx hb d_La_write_3 rfl (lv_at hl 0 rfl) ?_
  refine lv_iload_n hx hb d_La_write_4 rfl (lv_at hl 1 rfl) ?_
  refine lv_iload_n hx hb d_La_write_5 rfl (lv_at hl 2 rfl) ?_
  refine lv_iload_n hx hb d_La_write_6 rfl (lv_at hl 3 rfl) ?_
  refine lv_iload hx hb d_La_write_7 (lv_at hl 4 rfl) ?_
  refine lv_iload hx hb d_La_write_9 (lv_at hl 5 rfl) ?_
  refine ka_i (va_runV (As := [.int x1, .int x2, .int x3, .int x4, .int x5]) (rest := [.int 0, .ref (A 63)]) S9 (c_Ke_write_ok l hl9 D A (ka_oc A f :: r) _ σ x1 x2 x3 x4 x5 _ _ h) (cwV 5 hts (tg_V wl_La_50 wm_Ke_write we_Ke_write wi_Ke wo_Ke_write) rfl rfl rfl wq_Ke_write ⟨Nat.le_of_ble_eq_true rfl, Nat.le_of_ble_eq_true rfl⟩) (ka_preV X9 hP hD hS 0 rfl rfl) rfl rfl hl.1 rfl (lv_room (Nat.le_of_ble_eq_true rfl)) d_La_write_11 ⟨Nat.le_of_ble_eq_true rfl, Nat.le_of_ble_eq_true rfl⟩) X9 hD hS rfl (fun H locs hP hD hS => ?_)
  refine lv_i2l (v := v.toInt64) hx hb d_La_write_14 rfl ?_
  refine va_last hx hb hK hP hD hS 47 2 rfl rfl (by unfold vp_in; decide) d_La_write_15 (fun H locs hP hD hS => ?_)
  refine lv_goto (tgt := 35) hx hb d_La_write_16 (by decide) ?_
  refine lv_iconst (v := 0) hx hb d_La_write_35 (by decide) ?_
  exact W.iret hx hb hr (fun t ht hW => ⟨⟨_, (), rfl, rfl, ka_at ht hP⟩, hS.F ht⟩) hS.2.2 d_La_write_36 hlk
set_option maxRecDepth 100000 in
set_option maxHeartbeats 4000000 in
theorem c_La_write_err (l : Launch) (hl9 : l.stackTraces = false) (D : va_G) (A : Nat → Nat) (r : va_W) (f : Nat → Int64) (sz : Nat) (σ : KS) (x1 x2 x3 x4 x5 : Int32) (k : Nat) (hk : k = 1 ∨ k = 2 ∨ k = 3 ∨ k = 4) (u : KS) (h : f_Ke_write σ x1 x2 x3 x4 x5 = some (.error k, u)) : Met l y_La_write (Cond.codeWith y_La_write b_La_write 8 (some .int) hh_La_write :: T0) ({ frames := 10, cells := 1, slots := 6, locals := 174 } : Room) (va_Pc [.ref (A 0), .int x1, .int x2, .int x3, .int x4, .int x5, .ref (A 63)] (ka_Wc D A (GW A σ (ka_oc A f :: r)) sz)) (ka_Ri D (nI k) (GW A u (ka_oc A f :: r)) (va_A (GW A σ (ka_oc A f :: r)) sz)) 1 6 (va_A (GW A σ (ka_oc A f :: r)) sz) := by
  refine ka_ofT (own := R_La) (hh := hh_La_write) (fun A9 => ka_Ri D (nI k) (GW A u (ka_oc A f :: r)) A9) (by decide) rfl (Nat.le_of_ble_eq_true rfl) ?_
  intro p e s m below meth c A9 ls S9 hr hlk hex hC X9 hP hD hl
  obtain ⟨hx, hb, hml, hown, hts⟩ := id S9
  have hK := X9.2.1
  have hS : va_S A9 s.heap s.heap [] := va_S.rf
  replace hl : lv_has ls 8 [(0, .ref (A 0)), (1, .int x1), (2, .int x2), (3, .int x3), (4, .int x4), (5, .int x5), (6, .ref (A 63))] := hl
  refine lv_aload hx hb d_La_write_0 (lv_at hl 6 rfl) ?_
  refine lv_iconst (v := 0) hx hb d_La_write_2 (by decide) ?_
  refine lv_aload_n hx hb d_La_write_3 rfl (lv_at hl 0 rfl) ?_
  refine lv_iload_n hx hb d_La_write_4 rfl (lv_at hl 1 rfl) ?_
  refine lv_iload_n hx hb d_La_write_5 rfl (lv_at hl 2 rfl) ?_
  refine lv_iload_n hx hb d_La_write_6 rfl (lv_at hl 3 rfl) ?_
  refine lv_iload hx hb d_La_write_7 (lv_at hl 4 rfl) ?_
  refine lv_iload hx hb d_La_write_9 (lv_at hl 5 rfl) ?_
  rcases hk with rfl | rfl | rfl | rfl
  · refine ka_caught (vx_runV (As := [.int x1, .int x2, .int x3, .int x4, .int x5]) (rest := [.int 0, .ref (A 63)]) S9 (c_Ke_write_err l hl9 D A (ka_oc A f :: r) _ σ x1 x2 x3 x4 x5 _ _ h) (cwV 5 hts (tg_V wl_La_50 wm_Ke_write we_Ke_write wi_Ke wo_Ke_write) rfl rfl rfl wq_Ke_write ⟨Nat.le_of_ble_eq_true rfl, Nat.le_of_ble_eq_true rfl⟩) (ka_preV X9 hP hD hS 0 rfl rfl) rfl rfl hl.1 rfl (lv_room (Nat.le_of_ble_eq_true rfl)) d_La_write_11 ⟨Nat.le_of_ble_eq_true rfl, Nat.le_of_ble_eq_true rfl⟩) X9 hD hS rfl (fun ce q9 H locs hP hD hS hce hcv hcl => ?_)
    refine vx_catch (name := "java/lang/IllegalArgumentException") (E := "java/lang/IllegalArgumentException") hown (tableOf []) ⟨0, 16, 19, 13⟩ (tableOf [(0, 16, 23, 15), (0, 16, 27, 17), (0, 16, 31, 19)]) (hex.trans rfl) (fun z hz => by cases hz) (by decide) (by decide) (hts _ wc_La_13) (X9.2.2.2.2.use _ (by decide +kernel)) hce hcv hcl ?_
    refine lv_astore (lv' := (7, .ref q9) :: [(0, .ref (A 0)), (1, .int x1), (2, .int x2), (3, .int x3), (4, .int x4), (5, .int x5), (6, .ref (A 63))]) hx hb d_La_write_19 hl (by decide) rfl (fun ls hl => ?_)
    refine lv_iconst (v := 1) hx hb d_La_write_21 (by decide) ?_
    exact W.iret hx hb hr (fun t ht hW => ⟨⟨_, (), rfl, rfl, ka_at ht hP⟩, hS.F ht⟩) hS.2.2 d_La_write_22 hlk
  · refine ka_caught (vx_runV (As := [.int x1, .int x2, .int x3, .int x4, .int x5]) (rest := [.int 0, .ref (A 63)]) S9 (c_Ke_write_err l hl9 D A (ka_oc A f :: r) _ σ x1 x2 x3 x4 x5 _ _ h) (cwV 5 hts (tg_V wl_La_50 wm_Ke_write we_Ke_write wi_Ke wo_Ke_write) rfl rfl rfl wq_Ke_write ⟨Nat.le_of_ble_eq_true rfl, Nat.le_of_ble_eq_true rfl⟩) (ka_preV X9 hP hD hS 0 rfl rfl) rfl rfl hl.1 rfl (lv_room (Nat.le_of_ble_eq_true rfl)) d_La_write_11 ⟨Nat.le_of_ble_eq_true rfl, Nat.le_of_ble_eq_true rfl⟩) X9 hD hS rfl (fun ce q9 H locs hP hD hS hce hcv hcl => ?_)
    refine vx_catch (name := "java/util/NoSuchElementException") (E := "java/util/NoSuchElementException") hown (tableOf [(0, 16, 19, 13)]) ⟨0, 16, 23, 15⟩ (tableOf [(0, 16, 27, 17), (0, 16, 31, 19)]) (hex.trans rfl) (fun z hz => by
      simp only [tableOf, List.map_cons, List.map_nil, List.mem_cons, List.not_mem_nil, or_false] at hz
      subst hz
      exact Or.inr ⟨(by decide), _, hts _ wc_La_13, hC.1⟩) (by decide) (by decide) (hts _ wc_La_15) (X9.2.2.2.2.use _ (by decide +kernel)) hce hcv hcl ?_
    refine lv_astore (lv' := (7, .ref q9) :: [(0, .ref (A 0)), (1, .int x1), (2, .int x2), (3, .int x3), (4, .int x4), (5, .int x5), (6, .ref (A 63))]) hx hb d_La_write_23 hl (by decide) rfl (fun ls hl => ?_)
    refine lv_iconst (v := 2) hx hb d_La_write_25 (by decide) ?_
    exact W.iret hx hb hr (fun t ht hW => ⟨⟨_, (), rfl, rfl, ka_at ht hP⟩, hS.F ht⟩) hS.2.2 d_La_write_26 hlk
  · refine ka_caught (vx_runV (As := [.int x1, .int x2, .int x3, .int x4, .int x5]) (rest := [.int 0, .ref (A 63)]) S9 (c_Ke_write_err l hl9 D A (ka_oc A f :: r) _ σ x1 x2 x3 x4 x5 _ _ h) (cwV 5 hts (tg_V wl_La_50 wm_Ke_write we_Ke_write wi_Ke wo_Ke_write) rfl rfl rfl wq_Ke_write ⟨Nat.le_of_ble_eq_true rfl, Nat.le_of_ble_eq_true rfl⟩) (ka_preV X9 hP hD hS 0 rfl rfl) rfl rfl hl.1 rfl (lv_room (Nat.le_of_ble_eq_true rfl)) d_La_write_11 ⟨Nat.le_of_ble_eq_true rfl, Nat.le_of_ble_eq_true rfl⟩) X9 hD hS rfl (fun ce q9 H locs hP hD hS hce hcv hcl => ?_)
    refine vx_catch (name := "java/lang/UnsupportedOperationException") (E := "java/lang/UnsupportedOperationException") hown (tableOf [(0, 16, 19, 13), (0, 16, 23, 15)]) ⟨0, 16, 27, 17⟩ (tableOf [(0, 16, 31, 19)]) (hex.trans rfl) (fun z hz => by
      simp only [tableOf, List.map_cons, List.map_nil, List.mem_cons, List.not_mem_nil, or_false] at hz
      rcases hz with rfl | rfl
      · exact Or.inr ⟨(by decide), _, hts _ wc_La_13, hC.2.1⟩
      · exact Or.inr ⟨(by decide), _, hts _ wc_La_15, hC.2.2.1⟩) (by decide) (by decide) (hts _ wc_La_17) (X9.2.2.2.2.use _ (by decide +kernel)) hce hcv hcl ?_
    refine lv_astore (lv' := (7, .ref q9) :: [(0, .ref (A 0)), (1, .int x1), (2, .int x2), (3, .int x3), (4, .int x4), (5, .int x5), (6, .ref (A 63))]) hx hb d_La_write_27 hl (by decide) rfl (fun ls hl => ?_)
    refine lv_iconst (v := 3) hx hb d_La_write_29 (by decide) ?_
    exact W.iret hx hb hr (fun t ht hW => ⟨⟨_, (), rfl, rfl, ka_at ht hP⟩, hS.F ht⟩) hS.2.2 d_La_write_30 hlk
  · refine ka_caught (vx_runV (As := [.int x1, .int x2, .int x3, .int x4, .int x5]) (rest := [.int 0, .ref (A 63)]) S9 (c_Ke_write_err l hl9 D A (ka_oc A f :: r) _ σ x1 x2 x3 x4 x5 _ _ h) (cwV 5 hts (tg_V wl_La_50 wm_Ke_write we_Ke_write wi_Ke wo_Ke_write) rfl rfl rfl wq_Ke_write ⟨Nat.le_of_ble_eq_true rfl, Nat.le_of_ble_eq_true rfl⟩) (ka_preV X9 hP hD hS 0 rfl rfl) rfl rfl hl.1 rfl (lv_room (Nat.le_of_ble_eq_true rfl)) d_La_write_11 ⟨Nat.le_of_ble_eq_true rfl, Nat.le_of_ble_eq_true rfl⟩) X9 hD hS rfl (fun ce q9 H locs hP hD hS hce hcv hcl => ?_)
    refine vx_catch (name := "java/lang/IllegalStateException") (E := "java/lang/IllegalStateException") hown (tableOf [(0, 16, 19, 13), (0, 16, 23, 15), (0, 16, 27, 17)]) ⟨0, 16, 31, 19⟩ (tableOf []) (hex.trans rfl) (fun z hz => by
      simp only [tableOf, List.map_cons, List.map_nil, List.mem_cons, List.not_mem_nil, or_false] at hz
      rcases hz with rfl | rfl | rfl
      · exact Or.inr ⟨(by decide), _, hts _ wc_La_13, hC.2.2.2.1⟩
      · exact Or.inr ⟨(by decide), _, hts _ wc_La_15, hC.2.2.2.2.1⟩
      · exact Or.inr ⟨(by decide), _, hts _ wc_La_17, hC.2.2.2.2.2⟩) (by decide) (by decide) (hts _ wc_La_19) (X9.2.2.2.2.use _ (by decide +kernel)) hce hcv hcl ?_
    refine lv_astore (lv' := (7, .ref q9) :: [(0, .ref (A 0)), (1, .int x1), (2, .int x2), (3, .int x3), (4, .int x4), (5, .int x5), (6, .ref (A 63))]) hx hb d_La_write_31 hl (by decide) rfl (fun ls hl => ?_)
    refine lv_iconst (v := 4) hx hb d_La_write_33 (by decide) ?_
    exact W.iret hx hb hr (fun t ht hW => ⟨⟨_, (), rfl, rfl, ka_at ht hP⟩, hS.F ht⟩) hS.2.2 d_La_write_34 hlk
set_option maxRecDepth 100000 in
set_option maxHeartbeats 4000000 in
theorem c_La_move_ok (l : Launch) (hl9 : l.stackTraces = false) (D : va_G) (A : Nat → Nat) (r : va_W) (f : Nat → Int64) (sz : Nat) (σ : KS) (x1 x2 x3 x4 : Int32) (v : Int32) (u : KS) (h : f_Ke_move σ x1 x2 x3 x4 = some (.ok v, u)) : Met l y_La_move (Cond.codeWith y_La_move b_La_move 7 (some .int) hh_La_move :: T0) ({ frames := 5, cells := 0, slots := 0, locals := 114 } : Room) (va_Pc [.ref (A 0), .int x1, .int x2, .int x3, .int x4, .ref (A 63)] (ka_Wc D A (GW A σ (ka_oc A f :: r)) sz)) (ka_Ri D 0 (GW A u (ka_oc A (vp_updL f 0 v.toInt64) :: r)) (va_A (GW A σ (ka_oc A f :: r)) sz)) 0 0 (va_A (GW A σ (ka_oc A f :: r)) sz) := by
  refine ka_ofT (own := R_La) (hh := hh_La_move) (fun A9 => ka_Ri D 0 (GW A u (ka_oc A (vp_updL f 0 v.toInt64) :: r)) A9) (by decide) rfl (Nat.le_of_ble_eq_true rfl) ?_
  intro p e s m below meth c A9 ls S9 hr hlk hex hC X9 hP hD hl
  obtain ⟨hx, hb, hml, hown, hts⟩ := id S9
  have hK := X9.2.1
  have hS : va_S A9 s.heap s.heap [] := va_S.rf
  replace hl : lv_has ls 7 [(0, .ref (A 0)), (1, .int x1), (2, .int x2), (3, .int x3), (4, .int x4), (5, .ref (A 63))] := hl
  refine lv_aload hx hb d_La_move_0 (lv_at hl 5 rfl) ?_
  refine lv_iconst (v := 0) hx hb d_La_move_2 (by decide) ?_
  refine lv_aload_n hx hb d_La_move_3 rfl (lv_at hl 0 rfl) ?_
  refine lv_iload_n hx hb d_La_move_4 rfl (lv_at hl 1 rfl) ?_
  refine lv_iload_n hx hb d_La_move_5 rfl (lv_at hl 2 rfl) ?_
  refine lv_iload_n hx hb d_La_move_6 rfl (lv_at hl 3 rfl) ?_
  refine lv_iload hx hb d_La_move_7 (lv_at hl 4 rfl) ?_
  refine ka_i (va_runV (As := [.int x1, .int x2, .int x3, .int x4]) (rest := [.int 0, .ref (A 63)]) S9 (c_Ke_move_ok l hl9 D A (ka_oc A f :: r) _ σ x1 x2 x3 x4 _ _ h) (cwV 4 hts (tg_V wl_La_53 wm_Ke_move we_Ke_move wi_Ke wo_Ke_move) rfl rfl rfl wq_Ke_move ⟨Nat.le_of_ble_eq_true rfl, Nat.le_of_ble_eq_true rfl⟩) (ka_preV X9 hP hD hS 0 rfl rfl) rfl rfl hl.1 rfl (lv_room (Nat.le_of_ble_eq_true rfl)) d_La_move_9 ⟨Nat.le_of_ble_eq_true rfl, Nat.le_of_ble_eq_true rfl⟩) X9 hD hS rfl (fun H locs hP hD hS => ?_)
  refine lv_i2l (v := v.toInt64) hx hb d_La_move_12 rfl ?_
  refine va_last hx hb hK hP hD hS 47 2 rfl rfl (by unfold vp_in; decide) d_La_move_13 (fun H locs hP hD hS => ?_)
  refine lv_goto (tgt := 33) hx hb d_La_move_14 (by decide) ?_
  refine lv_iconst (v := 0) hx hb d_La_move_33 (by decide) ?_
  exact W.iret hx hb hr (fun t ht hW => ⟨⟨_, (), rfl, rfl, ka_at ht hP⟩, hS.F ht⟩) hS.2.2 d_La_move_34 hlk
set_option maxRecDepth 100000 in
set_option maxHeartbeats 4000000 in
theorem c_La_move_err (l : Launch) (hl9 : l.stackTraces = false) (D : va_G) (A : Nat → Nat) (r : va_W) (f : Nat → Int64) (sz : Nat) (σ : KS) (x1 x2 x3 x4 : Int32) (k : Nat) (hk : k = 1 ∨ k = 2 ∨ k = 3 ∨ k = 4) (u : KS) (h : f_Ke_move σ x1 x2 x3 x4 = some (.error k, u)) : Met l y_La_move (Cond.codeWith y_La_move b_La_move 7 (some .int) hh_La_move :: T0) ({ frames := 10, cells := 1, slots := 6, locals := 172 } : Room) (va_Pc [.ref (A 0), .int x1, .int x2, .int x3, .int x4, .ref (A 63)] (ka_Wc D A (GW A σ (ka_oc A f :: r)) sz)) (ka_Ri D (nI k) (GW A u (ka_oc A f :: r)) (va_A (GW A σ (ka_oc A f :: r)) sz)) 1 6 (va_A (GW A σ (ka_oc A f :: r)) sz) := by
  refine ka_ofT (own := R_La) (hh := hh_La_move) (fun A9 => ka_Ri D (nI k) (GW A u (ka_oc A f :: r)) A9) (by decide) rfl (Nat.le_of_ble_eq_true rfl) ?_
  intro p e s m below meth c A9 ls S9 hr hlk hex hC X9 hP hD hl
  obtain ⟨hx, hb, hml, hown, hts⟩ := id S9
  have hK := X9.2.1
  have hS : va_S A9 s.heap s.heap [] := va_S.rf
  replace hl : lv_has ls 7 [(0, .ref (A 0)), (1, .int x1), (2, .int x2), (3, .int x3), (4, .int x4), (5, .ref (A 63))] := hl
  refine lv_aload hx hb d_La_move_0 (lv_at hl 5 rfl) ?_
  refine lv_iconst (v := 0) hx hb d_La_move_2 (by decide) ?_
  refine lv_aload_n hx hb d_La_move_3 rfl (lv_at hl 0 rfl) ?_
  refine lv_iload_n hx hb d_La_move_4 rfl (lv_at hl 1 rfl) ?_
  refine lv_iload_n hx hb d_La_move_5 rfl (lv_at hl 2 rfl) ?_
  refine lv_iload_n hx hb d_La_move_6 rfl (lv_at hl 3 rfl) ?_
  refine lv_iload hx hb d_La_move_7 (lv_at hl 4 rfl) ?_
  rcases hk with rfl | rfl | rfl | rfl
  · refine ka_caught (vx_runV (As := [.int x1, .int x2, .int x3, .int x4]) (rest := [.int 0, .ref (A 63)]) S9 (c_Ke_move_err l hl9 D A (ka_oc A f :: r) _ σ x1 x2 x3 x4 _ _ h) (cwV 4 hts (tg_V wl_La_53 wm_Ke_move we_Ke_move wi_Ke wo_Ke_move) rfl rfl rfl wq_Ke_move ⟨Nat.le_of_ble_eq_true rfl, Nat.le_of_ble_eq_true rfl⟩) (ka_preV X9 hP hD hS 0 rfl rfl) rfl rfl hl.1 rfl (lv_room (Nat.le_of_ble_eq_true rfl)) d_La_move_9 ⟨Nat.le_of_ble_eq_true rfl, Nat.le_of_ble_eq_true rfl⟩) X9 hD hS rfl (fun ce q9 H locs hP hD hS hce hcv hcl => ?_)
    refine vx_catch (name := "java/lang/IllegalArgumentException") (E := "java/lang/IllegalArgumentException") hown (tableOf []) ⟨0, 14, 17, 13⟩ (tableOf [(0, 14, 21, 15), (0, 14, 25, 17), (0, 14, 29, 19)]) (hex.trans rfl) (fun z hz => by cases hz) (by decide) (by decide) (hts _ wc_La_13) (X9.2.2.2.2.use _ (by decide +kernel)) hce hcv hcl ?_
    refine lv_astore (lv' := (6, .ref q9) :: [(0, .ref (A 0)), (1, .int x1), (2, .int x2), (3, .int x3), (4, .int x4), (5, .ref (A 63))]) hx hb d_La_move_17 hl (by decide) rfl (fun ls hl => ?_)
    refine lv_iconst (v := 1) hx hb d_La_move_19 (by decide) ?_
    exact W.iret hx hb hr (fun t ht hW => ⟨⟨_, (), rfl, rfl, ka_at ht hP⟩, hS.F ht⟩) hS.2.2 d_La_move_20 hlk
  · refine ka_caught (vx_runV (As := [.int x1, .int x2, .int x3, .int x4]) (rest := [.int 0, .ref (A 63)]) S9 (c_Ke_move_err l hl9 D A (ka_oc A f :: r) _ σ x1 x2 x3 x4 _ _ h) (cwV 4 hts (tg_V wl_La_53 wm_Ke_move we_Ke_move wi_Ke wo_Ke_move) rfl rfl rfl wq_Ke_move ⟨Nat.le_of_ble_eq_true rfl, Nat.le_of_ble_eq_true rfl⟩) (ka_preV X9 hP hD hS 0 rfl rfl) rfl rfl hl.1 rfl (lv_room (Nat.le_of_ble_eq_true rfl)) d_La_move_9 ⟨Nat.le_of_ble_eq_true rfl, Nat.le_of_ble_eq_true rfl⟩) X9 hD hS rfl (fun ce q9 H locs hP hD hS hce hcv hcl => ?_)
    refine vx_catch (name := "java/util/NoSuchElementException") (E := "java/util/NoSuchElementException") hown (tableOf [(0, 14, 17, 13)]) ⟨0, 14, 21, 15⟩ (tableOf [(0, 14, 25, 17), (0, 14, 29, 19)]) (hex.trans rfl) (fun z hz => by
      simp only [tableOf, List.map_cons, List.map_nil, List.mem_cons, List.not_mem_nil, or_false] at hz
      subst hz
      exact Or.inr ⟨(by decide), _, hts _ wc_La_13, hC.1⟩) (by decide) (by decide) (hts _ wc_La_15) (X9.2.2.2.2.use _ (by decide +kernel)) hce hcv hcl ?_
    refine lv_astore (lv' := (6, .ref q9) :: [(0, .ref (A 0)), (1, .int x1), (2, .int x2), (3, .int x3), (4, .int x4), (5, .ref (A 63))]) hx hb d_La_move_21 hl (by decide) rfl (fun ls hl => ?_)
    refine lv_iconst (v := 2) hx hb d_La_move_23 (by decide) ?_
    exact W.iret hx hb hr (fun t ht hW => ⟨⟨_, (), rfl, rfl, ka_at ht hP⟩, hS.F ht⟩) hS.2.2 d_La_move_24 hlk
  · refine ka_caught (vx_runV (As := [.int x1, .int x2, .int x3, .int x4]) (rest := [.int 0, .ref (A 63)]) S9 (c_Ke_move_err l hl9 D A (ka_oc A f :: r) _ σ x1 x2 x3 x4 _ _ h) (cwV 4 hts (tg_V wl_La_53 wm_Ke_move we_Ke_move wi_Ke wo_Ke_move) rfl rfl rfl wq_Ke_move ⟨Nat.le_of_ble_eq_true rfl, Nat.le_of_ble_eq_true rfl⟩) (ka_preV X9 hP hD hS 0 rfl rfl) rfl rfl hl.1 rfl (lv_room (Nat.le_of_ble_eq_true rfl)) d_La_move_9 ⟨Nat.le_of_ble_eq_true rfl, Nat.le_of_ble_eq_true rfl⟩) X9 hD hS rfl (fun ce q9 H locs hP hD hS hce hcv hcl => ?_)
    refine vx_catch (name := "java/lang/UnsupportedOperationException") (E := "java/lang/UnsupportedOperationException") hown (tableOf [(0, 14, 17, 13), (0, 14, 21, 15)]) ⟨0, 14, 25, 17⟩ (tableOf [(0, 14, 29, 19)]) (hex.trans rfl) (fun z hz => by
      simp only [tableOf, List.map_cons, List.map_nil, List.mem_cons, List.not_mem_nil, or_false] at hz
      rcases hz with rfl | rfl
      · exact Or.inr ⟨(by decide), _, hts _ wc_La_13, hC.2.1⟩
      · exact Or.inr ⟨(by decide), _, hts _ wc_La_15, hC.2.2.1⟩) (by decide) (by decide) (hts _ wc_La_17) (X9.2.2.2.2.use _ (by decide +kernel)) hce hcv hcl ?_
    refine lv_astore (lv' := (6, .ref q9) :: [(0, .ref (A 0)), (1, .int x1), (2, .int x2), (3, .int x3), (4, .int x4), (5, .ref (A 63))]) hx hb d_La_move_25 hl (by decide) rfl (fun ls hl => ?_)
    refine lv_iconst (v := 3) hx hb d_La_move_27 (by decide) ?_
    exact W.iret hx hb hr (fun t ht hW => ⟨⟨_, (), rfl, rfl, ka_at ht hP⟩, hS.F ht⟩) hS.2.2 d_La_move_28 hlk
  · refine ka_caught (vx_runV (As := [.int x1, .int x2, .int x3, .int x4]) (rest := [.int 0, .ref (A 63)]) S9 (c_Ke_move_err l hl9 D A (ka_oc A f :: r) _ σ x1 x2 x3 x4 _ _ h) (cwV 4 hts (tg_V wl_La_53 wm_Ke_move we_Ke_move wi_Ke wo_Ke_move) rfl rfl rfl wq_Ke_move ⟨Nat.le_of_ble_eq_true rfl, Nat.le_of_ble_eq_true rfl⟩) (ka_preV X9 hP hD hS 0 rfl rfl) rfl rfl hl.1 rfl (lv_room (Nat.le_of_ble_eq_true rfl)) d_La_move_9 ⟨Nat.le_of_ble_eq_true rfl, Nat.le_of_ble_eq_true rfl⟩) X9 hD hS rfl (fun ce q9 H locs hP hD hS hce hcv hcl => ?_)
    refine vx_catch (name := "java/lang/IllegalStateException") (E := "java/lang/IllegalStateException") hown (tableOf [(0, 14, 17, 13), (0, 14, 21, 15), (0, 14, 25, 17)]) ⟨0, 14, 29, 19⟩ (tableOf []) (hex.trans rfl) (fun z hz => by
      simp only [tableOf, List.map_cons, List.map_nil, List.mem_cons, List.not_mem_nil, or_false] at hz
      rcases hz with rfl | rfl | rfl
      · exact Or.inr ⟨(by decide), _, hts _ wc_La_13, hC.2.2.2.1⟩
      · exact Or.inr ⟨(by decide), _, hts _ wc_La_15, hC.2.2.2.2.1⟩
      · exact Or.inr ⟨(by decide), _, hts _ wc_La_17, hC.2.2.2.2.2⟩) (by decide) (by decide) (hts _ wc_La_19) (X9.2.2.2.2.use _ (by decide +kernel)) hce hcv hcl ?_
    refine lv_astore (lv' := (6, .ref q9) :: [(0, .ref (A 0)), (1, .int x1), (2, .int x2), (3, .int x3), (4, .int x4), (5, .ref (A 63))]) hx hb d_La_move_29 hl (by decide) rfl (fun ls hl => ?_)
    refine lv_iconst (v := 4) hx hb d_La_move_31 (by decide) ?_
    exact W.iret hx hb hr (fun t ht hW => ⟨⟨_, (), rfl, rfl, ka_at ht hP⟩, hS.F ht⟩) hS.2.2 d_La_move_32 hlk
set_option maxRecDepth 100000 in
set_option maxHeartbeats 4000000 in
theorem c_La_drop_ok (l : Launch) (hl9 : l.stackTraces = false) (D : va_G) (A : Nat → Nat) (r : va_W) (f : Nat → Int64) (sz : Nat) (σ : KS) (x1 x2 x3 : Int32) (v : Int32) (u : KS) (h : f_Ke_drop σ x1 x2 x3 = some (.ok v, u)) : Met l y_La_drop (Cond.codeWith y_La_drop b_La_drop 6 (some .int) hh_La_drop :: T0) ({ frames := 5, cells := 0, slots := 0, locals := 112 } : Room) (va_Pc [.ref (A 0), .int x1, .int x2, .int x3, .ref (A 63)] (ka_Wc D A (GW A σ (ka_oc A f :: r)) sz)) (ka_Ri D 0 (GW A u (ka_oc A (vp_updL f 0 v.toInt64) :: r)) (va_A (GW A σ (ka_oc A f :: r)) sz)) 0 0 (va_A (GW A σ (ka_oc A f :: r)) sz) := by
  refine ka_ofT (own := R_La) (hh := hh_La_drop) (fun A9 => ka_Ri D 0 (GW A u (ka_oc A (vp_updL f 0 v.toInt64) :: r)) A9) (by decide) rfl (Nat.le_of_ble_eq_true rfl) ?_
  intro p e s m below meth c A9 ls S9 hr hlk hex hC X9 hP hD hl
  obtain ⟨hx, hb, hml, hown, hts⟩ := id S9
  have hK := X9.2.1
  have hS : va_S A9 s.heap s.heap [] := va_S.rf
  replace hl : lv_has ls 6 [(0, .ref (A 0)), (1, .int x1), (2, .int x2), (3, .int x3), (4, .ref (A 63))] := hl
  refine lv_aload hx hb d_La_drop_0 (lv_at hl 4 rfl) ?_
  refine lv_iconst (v := 0) hx hb d_La_drop_2 (by decide) ?_
  refine lv_aload_n hx hb d_La_drop_3 rfl (lv_at hl 0 rfl) ?_
  refine lv_iload_n hx hb d_La_drop_4 rfl (lv_at hl 1 rfl) ?_
  refine lv_iload_n hx hb d_La_drop_5 rfl (lv_at hl 2 rfl) ?_
  refine lv_iload_n hx hb d_La_drop_6 rfl (lv_at hl 3 rfl) ?_
  refine ka_i (va_runV (As := [.int x1, .int x2, .int x3]) (rest := [.int 0, .ref (A 63)]) S9 (c_Ke_drop_ok l hl9 D A (ka_oc A f :: r) _ σ x1 x2 x3 _ _ h) (cwV 3 hts (tg_V wl_La_56 wm_Ke_drop we_Ke_drop wi_Ke wo_Ke_drop) rfl rfl rfl wq_Ke_drop ⟨Nat.le_of_ble_eq_true rfl, Nat.le_of_ble_eq_true rfl⟩) (ka_preV X9 hP hD hS 0 rfl rfl) rfl rfl hl.1 rfl (lv_room (Nat.le_of_ble_eq_true rfl)) d_La_drop_7 ⟨Nat.le_of_ble_eq_true rfl, Nat.le_of_ble_eq_true rfl⟩) X9 hD hS rfl (fun H locs hP hD hS => ?_)
  refine lv_i2l (v := v.toInt64) hx hb d_La_drop_10 rfl ?_
  refine va_last hx hb hK hP hD hS 47 2 rfl rfl (by unfold vp_in; decide) d_La_drop_11 (fun H locs hP hD hS => ?_)
  refine lv_goto (tgt := 31) hx hb d_La_drop_12 (by decide) ?_
  refine lv_iconst (v := 0) hx hb d_La_drop_31 (by decide) ?_
  exact W.iret hx hb hr (fun t ht hW => ⟨⟨_, (), rfl, rfl, ka_at ht hP⟩, hS.F ht⟩) hS.2.2 d_La_drop_32 hlk
set_option maxRecDepth 100000 in
set_option maxHeartbeats 4000000 in
theorem c_La_drop_err (l : Launch) (hl9 : l.stackTraces = false) (D : va_G) (A : Nat → Nat) (r : va_W) (f : Nat → Int64) (sz : Nat) (σ : KS) (x1 x2 x3 : Int32) (k : Nat) (hk : k = 1 ∨ k = 2 ∨ k = 3 ∨ k = 4) (u : KS) (h : f_Ke_drop σ x1 x2 x3 = some (.error k, u)) : Met l y_La_drop (Cond.codeWith y_La_drop b_La_drop 6 (some .int) hh_La_drop :: T0) ({ frames := 10, cells := 1, slots := 6, locals := 170 } : Room) (va_Pc [.ref (A 0), .int x1, .int x2, .int x3, .ref (A 63)] (ka_Wc D A (GW A σ (ka_oc A f :: r)) sz)) (ka_Ri D (nI k) (GW A u (ka_oc A f :: r)) (va_A (GW A σ (ka_oc A f :: r)) sz)) 1 6 (va_A (GW A σ (ka_oc A f :: r)) sz) := by
  refine ka_ofT (own := R_La) (hh := hh_La_drop) (fun A9 => ka_Ri D (nI k) (GW A u (ka_oc A f :: r)) A9) (by decide) rfl (Nat.le_of_ble_eq_true rfl) ?_
  intro p e s m below meth c A9 ls S9 hr hlk hex hC X9 hP hD hl
  obtain ⟨hx, hb, hml, hown, hts⟩ := id S9
  have hK := X9.2.1
  have hS : va_S A9 s.heap s.heap [] := va_S.rf
  replace hl : lv_has ls 6 [(0, .ref (A 0)), (1, .int x1), (2, .int x2), (3, .int x3), (4, .ref (A 63))] := hl
  refine lv_aload hx hb d_La_drop_0 (lv_at hl 4 rfl) ?_
  refine lv_iconst (v := 0) hx hb d_La_drop_2 (by decide) ?_
  refine lv_aload_n hx hb d_La_drop_3 rfl (lv_at hl 0 rfl) ?_
  refine lv_iload_n hx hb d_La_drop_4 rfl (lv_at hl 1 rfl) ?_
  refine lv_iload_n hx hb d_La_drop_5 rfl (lv_at hl 2 rfl) ?_
  refine lv_iload_n hx hb d_La_drop_6 rfl (lv_at hl 3 rfl) ?_
  rcases hk with rfl | rfl | rfl | rfl
  · refine ka_caught (vx_runV (As := [.int x1, .int x2, .int x3]) (rest := [.int 0, .ref (A 63)]) S9 (c_Ke_drop_err l hl9 D A (ka_oc A f :: r) _ σ x1 x2 x3 _ _ h) (cwV 3 hts (tg_V wl_La_56 wm_Ke_drop we_Ke_drop wi_Ke wo_Ke_drop) rfl rfl rfl wq_Ke_drop ⟨Nat.le_of_ble_eq_true rfl, Nat.le_of_ble_eq_true rfl⟩) (ka_preV X9 hP hD hS 0 rfl rfl) rfl rfl hl.1 rfl (lv_room (Nat.le_of_ble_eq_true rfl)) d_La_drop_7 ⟨Nat.le_of_ble_eq_true rfl, Nat.le_of_ble_eq_true rfl⟩) X9 hD hS rfl (fun ce q9 H locs hP hD hS hce hcv hcl => ?_)
    refine vx_catch (name := "java/lang/IllegalArgumentException") (E := "java/lang/IllegalArgumentException") hown (tableOf []) ⟨0, 12, 15, 13⟩ (tableOf [(0, 12, 19, 15), (0, 12, 23, 17), (0, 12, 27, 19)]) (hex.trans rfl) (fun z hz => by cases hz) (by decide) (by decide) (hts _ wc_La_13) (X9.2.2.2.2.use _ (by decide +kernel)) hce hcv hcl ?_
    refine lv_astore (lv' := (5, .ref q9) :: [(0, .ref (A 0)), (1, .int x1), (2, .int x2), (3, .int x3), (4, .ref (A 63))]) hx hb d_La_drop_15 hl (by decide) rfl (fun ls hl => ?_)
    refine lv_iconst (v := 1) hx hb d_La_drop_17 (by decide) ?_
    exact W.iret hx hb hr (fun t ht hW => ⟨⟨_, (), rfl, rfl, ka_at ht hP⟩, hS.F ht⟩) hS.2.2 d_La_drop_18 hlk
  · refine ka_caught (vx_runV (As := [.int x1, .int x2, .int x3]) (rest := [.int 0, .ref (A 63)]) S9 (c_Ke_drop_err l hl9 D A (ka_oc A f :: r) _ σ x1 x2 x3 _ _ h) (cwV 3 hts (tg_V wl_La_56 wm_Ke_drop we_Ke_drop wi_Ke wo_Ke_drop) rfl rfl rfl wq_Ke_drop ⟨Nat.le_of_ble_eq_true rfl, Nat.le_of_ble_eq_true rfl⟩) (ka_preV X9 hP hD hS 0 rfl rfl) rfl rfl hl.1 rfl (lv_room (Nat.le_of_ble_eq_true rfl)) d_La_drop_7 ⟨Nat.le_of_ble_eq_true rfl, Nat.le_of_ble_eq_true rfl⟩) X9 hD hS rfl (fun ce q9 H locs hP hD hS hce hcv hcl => ?_)
    refine vx_catch (name := "java/util/NoSuchElementException") (E := "java/util/NoSuchElementException") hown (tableOf [(0, 12, 15, 13)]) ⟨0, 12, 19, 15⟩ (tableOf [(0, 12, 23, 17), (0, 12, 27, 19)]) (hex.trans rfl) (fun z hz => by
      simp only [tableOf, List.map_cons, List.map_nil, List.mem_cons, List.not_mem_nil, or_false] at hz
      subst hz
      exact Or.inr ⟨(by decide), _, hts _ wc_La_13, hC.1⟩) (by decide) (by decide) (hts _ wc_La_15) (X9.2.2.2.2.use _ (by decide +kernel)) hce hcv hcl ?_
    refine lv_astore (lv' := (5, .ref q9) :: [(0, .ref (A 0)), (1, .int x1), (2, .int x2), (3, .int x3), (4, .ref (A 63))]) hx hb d_La_drop_19 hl (by decide) rfl (fun ls hl => ?_)
    refine lv_iconst (v := 2) hx hb d_La_drop_21 (by decide) ?_
    exact W.iret hx hb hr (fun t ht hW => ⟨⟨_, (), rfl, rfl, ka_at ht hP⟩, hS.F ht⟩) hS.2.2 d_La_drop_22 hlk
  · refine ka_caught (vx_runV (As := [.int x1, .int x2, .int x3]) (rest := [.int 0, .ref (A 63)]) S9 (c_Ke_drop_err l hl9 D A (ka_oc A f :: r) _ σ x1 x2 x3 _ _ h) (cwV 3 hts (tg_V wl_La_56 wm_Ke_drop we_Ke_drop wi_Ke wo_Ke_drop) rfl rfl rfl wq_Ke_drop ⟨Nat.le_of_ble_eq_true rfl, Nat.le_of_ble_eq_true rfl⟩) (ka_preV X9 hP hD hS 0 rfl rfl) rfl rfl hl.1 rfl (lv_room (Nat.le_of_ble_eq_true rfl)) d_La_drop_7 ⟨Nat.le_of_ble_eq_true rfl, Nat.le_of_ble_eq_true rfl⟩) X9 hD hS rfl (fun ce q9 H locs hP hD hS hce hcv hcl => ?_)
    refine vx_catch (name := "java/lang/UnsupportedOperationException") (E := "java/lang/UnsupportedOperationException") hown (tableOf [(0, 12, 15, 13), (0, 12, 19, 15)]) ⟨0, 12, 23, 17⟩ (tableOf [(0, 12, 27, 19)]) (hex.trans rfl) (fun z hz => by
      simp only [tableOf, List.map_cons, List.map_nil, List.mem_cons, List.not_mem_nil, or_false] at hz
      rcases hz with rfl | rfl
      · exact Or.inr ⟨(by decide), _, hts _ wc_La_13, hC.2.1⟩
      · exact Or.inr ⟨(by decide), _, hts _ wc_La_15, hC.2.2.1⟩) (by decide) (by decide) (hts _ wc_La_17) (X9.2.2.2.2.use _ (by decide +kernel)) hce hcv hcl ?_
    refine lv_astore (lv' := (5, .ref q9) :: [(0, .ref (A 0)), (1, .int x1), (2, .int x2), (3, .int x3), (4, .ref (A 63))]) hx hb d_La_drop_23 hl (by decide) rfl (fun ls hl => ?_)
    refine lv_iconst (v := 3) hx hb d_La_drop_25 (by decide) ?_
    exact W.iret hx hb hr (fun t ht hW => ⟨⟨_, (), rfl, rfl, ka_at ht hP⟩, hS.F ht⟩) hS.2.2 d_La_drop_26 hlk
  · refine ka_caught (vx_runV (As := [.int x1, .int x2, .int x3]) (rest := [.int 0, .ref (A 63)]) S9 (c_Ke_drop_err l hl9 D A (ka_oc A f :: r) _ σ x1 x2 x3 _ _ h) (cwV 3 hts (tg_V wl_La_56 wm_Ke_drop we_Ke_drop wi_Ke wo_Ke_drop) rfl rfl rfl wq_Ke_drop ⟨Nat.le_of_ble_eq_true rfl, Nat.le_of_ble_eq_true rfl⟩) (ka_preV X9 hP hD hS 0 rfl rfl) rfl rfl hl.1 rfl (lv_room (Nat.le_of_ble_eq_true rfl)) d_La_drop_7 ⟨Nat.le_of_ble_eq_true rfl, Nat.le_of_ble_eq_true rfl⟩) X9 hD hS rfl (fun ce q9 H locs hP hD hS hce hcv hcl => ?_)
    refine vx_catch (name := "java/lang/IllegalStateException") (E := "java/lang/IllegalStateException") hown (tableOf [(0, 12, 15, 13), (0, 12, 19, 15), (0, 12, 23, 17)]) ⟨0, 12, 27, 19⟩ (tableOf []) (hex.trans rfl) (fun z hz => by
      simp only [tableOf, List.map_cons, List.map_nil, List.mem_cons, List.not_mem_nil, or_false] at hz
      rcases hz with rfl | rfl | rfl
      · exact Or.inr ⟨(by decide), _, hts _ wc_La_13, hC.2.2.2.1⟩
      · exact Or.inr ⟨(by decide), _, hts _ wc_La_15, hC.2.2.2.2.1⟩
      · exact Or.inr ⟨(by decide), _, hts _ wc_La_17, hC.2.2.2.2.2⟩) (by decide) (by decide) (hts _ wc_La_19) (X9.2.2.2.2.use _ (by decide +kernel)) hce hcv hcl ?_
    refine lv_astore (lv' := (5, .ref q9) :: [(0, .ref (A 0)), (1, .int x1), (2, .int x2), (3, .int x3), (4, .ref (A 63))]) hx hb d_La_drop_27 hl (by decide) rfl (fun ls hl => ?_)
    refine lv_iconst (v := 4) hx hb d_La_drop_29 (by decide) ?_
    exact W.iret hx hb hr (fun t ht hW => ⟨⟨_, (), rfl, rfl, ka_at ht hP⟩, hS.F ht⟩) hS.2.2 d_La_drop_30 hlk
set_option maxRecDepth 100000 in
set_option maxHeartbeats 4000000 in
theorem c_La_become_ok (l : Launch) (hl9 : l.stackTraces = false) (D : va_G) (A : Nat → Nat) (r : va_W) (f : Nat → Int64) (sz : Nat) (σ : KS) (x1 x2 : Int32) (v : Int32) (u : KS) (h : f_Ke_become σ x1 x2 = some (.ok v, u)) : Met l y_La_become (Cond.codeWith y_La_become b_La_become 5 (some .int) hh_La_become :: T0) ({ frames := 4, cells := 0, slots := 0, locals := 90 } : Room) (va_Pc [.ref (A 0), .int x1, .int x2, .ref (A 63)] (ka_Wc D A (GW A σ (ka_oc A f :: r)) sz)) (ka_Ri D 0 (GW A u (ka_oc A (vp_updL f 0 v.toInt64) :: r)) (va_A (GW A σ (ka_oc A f :: r)) sz)) 0 0 (va_A (GW A σ (ka_oc A f :: r)) sz) := by
  refine ka_ofT (own := R_La) (hh := hh_La_become) (fun A9 => ka_Ri D 0 (GW A u (ka_oc A (vp_updL f 0 v.toInt64) :: r)) A9) (by decide) rfl (Nat.le_of_ble_eq_true rfl) ?_
  intro p e s m below meth c A9 ls S9 hr hlk hex hC X9 hP hD hl
  obtain ⟨hx, hb, hml, hown, hts⟩ := id S9
  have hK := X9.2.1
  have hS : va_S A9 s.heap s.heap [] := va_S.rf
  replace hl : lv_has ls 5 [(0, .ref (A 0)), (1, .int x1), (2, .int x2), (3, .ref (A 63))] := hl
  refine lv_aload_n hx hb d_La_become_0 rfl (lv_at hl 3 rfl) ?_
  refine lv_iconst (v := 0) hx hb d_La_become_1 (by decide) ?_
  refine lv_aload_n hx hb d_La_become_2 rfl (lv_at hl 0 rfl) ?_
  refine lv_iload_n hx hb d_La_become_3 rfl (lv_at hl 1 rfl) ?_
  refine lv_iload_n hx hb d_La_become_4 rfl (lv_at hl 2 rfl) ?_
  refine ka_i (va_runV (As := [.int x1, .int x2]) (rest := [.int 0, .ref (A 63)]) S9 (c_Ke_become_ok l hl9 D A (ka_oc A f :: r) _ σ x1 x2 _ _ h) (cwV 2 hts (tg_V wl_La_59 wm_Ke_become we_Ke_become wi_Ke wo_Ke_become) rfl rfl rfl wq_Ke_become ⟨Nat.le_of_ble_eq_true rfl, Nat.le_of_ble_eq_true rfl⟩) (ka_preV X9 hP hD hS 0 rfl rfl) rfl rfl hl.1 rfl (lv_room (Nat.le_of_ble_eq_true rfl)) d_La_become_5 ⟨Nat.le_of_ble_eq_true rfl, Nat.le_of_ble_eq_true rfl⟩) X9 hD hS rfl (fun H locs hP hD hS => ?_)
  refine lv_i2l (v := v.toInt64) hx hb d_La_become_8 rfl ?_
  refine va_last hx hb hK hP hD hS 47 2 rfl rfl (by unfold vp_in; decide) d_La_become_9 (fun H locs hP hD hS => ?_)
  refine lv_goto (tgt := 29) hx hb d_La_become_10 (by decide) ?_
  refine lv_iconst (v := 0) hx hb d_La_become_29 (by decide) ?_
  exact W.iret hx hb hr (fun t ht hW => ⟨⟨_, (), rfl, rfl, ka_at ht hP⟩, hS.F ht⟩) hS.2.2 d_La_become_30 hlk
set_option maxRecDepth 100000 in
set_option maxHeartbeats 4000000 in
theorem c_La_become_err (l : Launch) (hl9 : l.stackTraces = false) (D : va_G) (A : Nat → Nat) (r : va_W) (f : Nat → Int64) (sz : Nat) (σ : KS) (x1 x2 : Int32) (k : Nat) (hk : k = 1 ∨ k = 2 ∨ k = 3 ∨ k = 4) (u : KS) (h : f_Ke_become σ x1 x2 = some (.error k, u)) : Met l y_La_become (Cond.codeWith y_La_become b_La_become 5 (some .int) hh_La_become :: T0) ({ frames := 9, cells := 1, slots := 6, locals := 144 } : Room) (va_Pc [.ref (A 0), .int x1, .int x2, .ref (A 63)] (ka_Wc D A (GW A σ (ka_oc A f :: r)) sz)) (ka_Ri D (nI k) (GW A u (ka_oc A f :: r)) (va_A (GW A σ (ka_oc A f :: r)) sz)) 1 6 (va_A (GW A σ (ka_oc A f :: r)) sz) := by
  refine ka_ofT (own := R_La) (hh := hh_La_become) (fun A9 => ka_Ri D (nI k) (GW A u (ka_oc A f :: r)) A9) (by decide) rfl (Nat.le_of_ble_eq_true rfl) ?_
  intro p e s m below meth c A9 ls S9 hr hlk hex hC X9 hP hD hl
  obtain ⟨hx, hb, hml, hown, hts⟩ := id S9
  have hK := X9.2.1
  have hS : va_S A9 s.heap s.heap [] := va_S.rf
  replace hl : lv_has ls 5 [(0, .ref (A 0)), (1, .int x1), (2, .int x2), (3, .ref (A 63))] := hl
  refine lv_aload_n hx hb d_La_become_0 rfl (lv_at hl 3 rfl) ?_
  refine lv_iconst (v := 0) hx hb d_La_become_1 (by decide) ?_
  refine lv_aload_n hx hb d_La_become_2 rfl (lv_at hl 0 rfl) ?_
  refine lv_iload_n hx hb d_La_become_3 rfl (lv_at hl 1 rfl) ?_
  refine lv_iload_n hx hb d_La_become_4 rfl (lv_at hl 2 rfl) ?_
  rcases hk with rfl | rfl | rfl | rfl
  · refine ka_caught (vx_runV (As := [.int x1, .int x2]) (rest := [.int 0, .ref (A 63)]) S9 (c_Ke_become_err l hl9 D A (ka_oc A f :: r) _ σ x1 x2 _ _ h) (cwV 2 hts (tg_V wl_La_59 wm_Ke_become we_Ke_become wi_Ke wo_Ke_become) rfl rfl rfl wq_Ke_become ⟨Nat.le_of_ble_eq_true rfl, Nat.le_of_ble_eq_true rfl⟩) (ka_preV X9 hP hD hS 0 rfl rfl) rfl rfl hl.1 rfl (lv_room (Nat.le_of_ble_eq_true rfl)) d_La_become_5 ⟨Nat.le_of_ble_eq_true rfl, Nat.le_of_ble_eq_true rfl⟩) X9 hD hS rfl (fun ce q9 H locs hP hD hS hce hcv hcl => ?_)
    refine vx_catch (name := "java/lang/IllegalArgumentException") (E := "java/lang/IllegalArgumentException") hown (tableOf []) ⟨0, 10, 13, 13⟩ (tableOf [(0, 10, 17, 15), (0, 10, 21, 17), (0, 10, 25, 19)]) (hex.trans rfl) (fun z hz => by cases hz) (by decide) (by decide) (hts _ wc_La_13) (X9.2.2.2.2.use _ (by decide +kernel)) hce hcv hcl ?_
    refine lv_astore (lv' := (4, .ref q9) :: [(0, .ref (A 0)), (1, .int x1), (2, .int x2), (3, .ref (A 63))]) hx hb d_La_become_13 hl (by decide) rfl (fun ls hl => ?_)
    refine lv_iconst (v := 1) hx hb d_La_become_15 (by decide) ?_
    exact W.iret hx hb hr (fun t ht hW => ⟨⟨_, (), rfl, rfl, ka_at ht hP⟩, hS.F ht⟩) hS.2.2 d_La_become_16 hlk
  · refine ka_caught (vx_runV (As := [.int x1, .int x2]) (rest := [.int 0, .ref (A 63)]) S9 (c_Ke_become_err l hl9 D A (ka_oc A f :: r) _ σ x1 x2 _ _ h) (cwV 2 hts (tg_V wl_La_59 wm_Ke_become we_Ke_become wi_Ke wo_Ke_become) rfl rfl rfl wq_Ke_become ⟨Nat.le_of_ble_eq_true rfl, Nat.le_of_ble_eq_true rfl⟩) (ka_preV X9 hP hD hS 0 rfl rfl) rfl rfl hl.1 rfl (lv_room (Nat.le_of_ble_eq_true rfl)) d_La_become_5 ⟨Nat.le_of_ble_eq_true rfl, Nat.le_of_ble_eq_true rfl⟩) X9 hD hS rfl (fun ce q9 H locs hP hD hS hce hcv hcl => ?_)
    refine vx_catch (name := "java/util/NoSuchElementException") (E := "java/util/NoSuchElementException") hown (tableOf [(0, 10, 13, 13)]) ⟨0, 10, 17, 15⟩ (tableOf [(0, 10, 21, 17), (0, 10, 25, 19)]) (hex.trans rfl) (fun z hz => by
      simp only [tableOf, List.map_cons, List.map_nil, List.mem_cons, List.not_mem_nil, or_false] at hz
      subst hz
      exact Or.inr ⟨(by decide), _, hts _ wc_La_13, hC.1⟩) (by decide) (by decide) (hts _ wc_La_15) (X9.2.2.2.2.use _ (by decide +kernel)) hce hcv hcl ?_
    refine lv_astore (lv' := (4, .ref q9) :: [(0, .ref (A 0)), (1, .int x1), (2, .int x2), (3, .ref (A 63))]) hx hb d_La_become_17 hl (by decide) rfl (fun ls hl => ?_)
    refine lv_iconst (v := 2) hx hb d_La_become_19 (by decide) ?_
    exact W.iret hx hb hr (fun t ht hW => ⟨⟨_, (), rfl, rfl, ka_at ht hP⟩, hS.F ht⟩) hS.2.2 d_La_become_20 hlk
  · refine ka_caught (vx_runV (As := [.int x1, .int x2]) (rest := [.int 0, .ref (A 63)]) S9 (c_Ke_become_err l hl9 D A (ka_oc A f :: r) _ σ x1 x2 _ _ h) (cwV 2 hts (tg_V wl_La_59 wm_Ke_become we_Ke_become wi_Ke wo_Ke_become) rfl rfl rfl wq_Ke_become ⟨Nat.le_of_ble_eq_true rfl, Nat.le_of_ble_eq_true rfl⟩) (ka_preV X9 hP hD hS 0 rfl rfl) rfl rfl hl.1 rfl (lv_room (Nat.le_of_ble_eq_true rfl)) d_La_become_5 ⟨Nat.le_of_ble_eq_true rfl, Nat.le_of_ble_eq_true rfl⟩) X9 hD hS rfl (fun ce q9 H locs hP hD hS hce hcv hcl => ?_)
    refine vx_catch (name := "java/lang/UnsupportedOperationException") (E := "java/lang/UnsupportedOperationException") hown (tableOf [(0, 10, 13, 13), (0, 10, 17, 15)]) ⟨0, 10, 21, 17⟩ (tableOf [(0, 10, 25, 19)]) (hex.trans rfl) (fun z hz => by
      simp only [tableOf, List.map_cons, List.map_nil, List.mem_cons, List.not_mem_nil, or_false] at hz
      rcases hz with rfl | rfl
      · exact Or.inr ⟨(by decide), _, hts _ wc_La_13, hC.2.1⟩
      · exact Or.inr ⟨(by decide), _, hts _ wc_La_15, hC.2.2.1⟩) (by decide) (by decide) (hts _ wc_La_17) (X9.2.2.2.2.use _ (by decide +kernel)) hce hcv hcl ?_
    refine lv_astore (lv' := (4, .ref q9) :: [(0, .ref (A 0)), (1, .int x1), (2, .int x2), (3, .ref (A 63))]) hx hb d_La_become_21 hl (by decide) rfl (fun ls hl => ?_)
    refine lv_iconst (v := 3) hx hb d_La_become_23 (by decide) ?_
    exact W.iret hx hb hr (fun t ht hW => ⟨⟨_, (), rfl, rfl, ka_at ht hP⟩, hS.F ht⟩) hS.2.2 d_La_become_24 hlk
  · refine ka_caught (vx_runV (As := [.int x1, .int x2]) (rest := [.int 0, .ref (A 63)]) S9 (c_Ke_become_err l hl9 D A (ka_oc A f :: r) _ σ x1 x2 _ _ h) (cwV 2 hts (tg_V wl_La_59 wm_Ke_become we_Ke_become wi_Ke wo_Ke_become) rfl rfl rfl wq_Ke_become ⟨Nat.le_of_ble_eq_true rfl, Nat.le_of_ble_eq_true rfl⟩) (ka_preV X9 hP hD hS 0 rfl rfl) rfl rfl hl.1 rfl (lv_room (Nat.le_of_ble_eq_true rfl)) d_La_become_5 ⟨Nat.le_of_ble_eq_true rfl, Nat.le_of_ble_eq_true rfl⟩) X9 hD hS rfl (fun ce q9 H locs hP hD hS hce hcv hcl => ?_)
    refine vx_catch (name := "java/lang/IllegalStateException") (E := "java/lang/IllegalStateException") hown (tableOf [(0, 10, 13, 13), (0, 10, 17, 15), (0, 10, 21, 17)]) ⟨0, 10, 25, 19⟩ (tableOf []) (hex.trans rfl) (fun z hz => by
      simp only [tableOf, List.map_cons, List.map_nil, List.mem_cons, List.not_mem_nil, or_false] at hz
      rcases hz with rfl | rfl | rfl
      · exact Or.inr ⟨(by decide), _, hts _ wc_La_13, hC.2.2.2.1⟩
      · exact Or.inr ⟨(by decide), _, hts _ wc_La_15, hC.2.2.2.2.1⟩
      · exact Or.inr ⟨(by decide), _, hts _ wc_La_17, hC.2.2.2.2.2⟩) (by decide) (by decide) (hts _ wc_La_19) (X9.2.2.2.2.use _ (by decide +kernel)) hce hcv hcl ?_
    refine lv_astore (lv' := (4, .ref q9) :: [(0, .ref (A 0)), (1, .int x1), (2, .int x2), (3, .ref (A 63))]) hx hb d_La_become_25 hl (by decide) rfl (fun ls hl => ?_)
    refine lv_iconst (v := 4) hx hb d_La_become_27 (by decide) ?_
    exact W.iret hx hb hr (fun t ht hW => ⟨⟨_, (), rfl, rfl, ka_at ht hP⟩, hS.F ht⟩) hS.2.2 d_La_become_28 hlk
set_option maxRecDepth 100000 in
set_option maxHeartbeats 4000000 in
theorem c_La_lower_ok (l : Launch) (hl9 : l.stackTraces = false) (D : va_G) (A : Nat → Nat) (r : va_W) (f : Nat → Int64) (sz : Nat) (σ : KS) (x1 x2 : Int32) (v : Int32) (u : KS) (h : f_Ke_lower σ x1 x2 = some (.ok v, u)) : Met l y_La_lower (Cond.codeWith y_La_lower b_La_lower 5 (some .int) hh_La_lower :: T0) ({ frames := 3, cells := 0, slots := 0, locals := 67 } : Room) (va_Pc [.ref (A 0), .int x1, .int x2, .ref (A 63)] (ka_Wc D A (GW A σ (ka_oc A f :: r)) sz)) (ka_Ri D 0 (GW A u (ka_oc A (vp_updL f 0 v.toInt64) :: r)) (va_A (GW A σ (ka_oc A f :: r)) sz)) 0 0 (va_A (GW A σ (ka_oc A f :: r)) sz) := by
  refine ka_ofT (own := R_La) (hh := hh_La_lower) (fun A9 => ka_Ri D 0 (GW A u (ka_oc A (vp_updL f 0 v.toInt64) :: r)) A9) (by decide) rfl (Nat.le_of_ble_eq_true rfl) ?_
  intro p e s m below meth c A9 ls S9 hr hlk hex hC X9 hP hD hl
  obtain ⟨hx, hb, hml, hown, hts⟩ := id S9
  have hK := X9.2.1
  have hS : va_S A9 s.heap s.heap [] := va_S.rf
  replace hl : lv_has ls 5 [(0, .ref (A 0)), (1, .int x1), (2, .int x2), (3, .ref (A 63))] := hl
  refine lv_aload_n hx hb d_La_lower_0 rfl (lv_at hl 3 rfl) ?_
  refine lv_iconst (v := 0) hx hb d_La_lower_1 (by decide) ?_
  refine lv_aload_n hx hb d_La_lower_2 rfl (lv_at hl 0 rfl) ?_
  refine lv_iload_n hx hb d_La_lower_3 rfl (lv_at hl 1 rfl) ?_
  refine lv_iload_n hx hb d_La_lower_4 rfl (lv_at hl 2 rfl) ?_
  refine ka_i (va_runV (As := [.int x1, .int x2]) (rest := [.int 0, .ref (A 63)]) S9 (c_Ke_lower_ok l hl9 D A (ka_oc A f :: r) _ σ x1 x2 _ _ h) (cwV 2 hts (tg_V wl_La_62 wm_Ke_lower we_Ke_lower wi_Ke wo_Ke_lower) rfl rfl rfl wq_Ke_lower ⟨Nat.le_of_ble_eq_true rfl, Nat.le_of_ble_eq_true rfl⟩) (ka_preV X9 hP hD hS 0 rfl rfl) rfl rfl hl.1 rfl (lv_room (Nat.le_of_ble_eq_true rfl)) d_La_lower_5 ⟨Nat.le_of_ble_eq_true rfl, Nat.le_of_ble_eq_true rfl⟩) X9 hD hS rfl (fun H locs hP hD hS => ?_)
  refine lv_i2l (v := v.toInt64) hx hb d_La_lower_8 rfl ?_
  refine va_last hx hb hK hP hD hS 47 2 rfl rfl (by unfold vp_in; decide) d_La_lower_9 (fun H locs hP hD hS => ?_)
  refine lv_goto (tgt := 29) hx hb d_La_lower_10 (by decide) ?_
  refine lv_iconst (v := 0) hx hb d_La_lower_29 (by decide) ?_
  exact W.iret hx hb hr (fun t ht hW => ⟨⟨_, (), rfl, rfl, ka_at ht hP⟩, hS.F ht⟩) hS.2.2 d_La_lower_30 hlk
set_option maxRecDepth 100000 in
set_option maxHeartbeats 4000000 in
theorem c_La_lower_err (l : Launch) (hl9 : l.stackTraces = false) (D : va_G) (A : Nat → Nat) (r : va_W) (f : Nat → Int64) (sz : Nat) (σ : KS) (x1 x2 : Int32) (k : Nat) (hk : k = 1 ∨ k = 2 ∨ k = 3 ∨ k = 4) (u : KS) (h : f_Ke_lower σ x1 x2 = some (.error k, u)) : Met l y_La_lower (Cond.codeWith y_La_lower b_La_lower 5 (some .int) hh_La_lower :: T0) ({ frames := 9, cells := 1, slots := 6, locals := 144 } : Room) (va_Pc [.ref (A 0), .int x1, .int x2, .ref (A 63)] (ka_Wc D A (GW A σ (ka_oc A f :: r)) sz)) (ka_Ri D (nI k) (GW A u (ka_oc A f :: r)) (va_A (GW A σ (ka_oc A f :: r)) sz)) 1 6 (va_A (GW A σ (ka_oc A f :: r)) sz) := by
  refine ka_ofT (own := R_La) (hh := hh_La_lower) (fun A9 => ka_Ri D (nI k) (GW A u (ka_oc A f :: r)) A9) (by decide) rfl (Nat.le_of_ble_eq_true rfl) ?_
  intro p e s m below meth c A9 ls S9 hr hlk hex hC X9 hP hD hl
  obtain ⟨hx, hb, hml, hown, hts⟩ := id S9
  have hK := X9.2.1
  have hS : va_S A9 s.heap s.heap [] := va_S.rf
  replace hl : lv_has ls 5 [(0, .ref (A 0)), (1, .int x1), (2, .int x2), (3, .ref (A 63))] := hl
  refine lv_aload_n hx hb d_La_lower_0 rfl (lv_at hl 3 rfl) ?_
  refine lv_iconst (v := 0) hx hb d_La_lower_1 (by decide) ?_
  refine lv_aload_n hx hb d_La_lower_2 rfl (lv_at hl 0 rfl) ?_
  refine lv_iload_n hx hb d_La_lower_3 rfl (lv_at hl 1 rfl) ?_
  refine lv_iload_n hx hb d_La_lower_4 rfl (lv_at hl 2 rfl) ?_
  rcases hk with rfl | rfl | rfl | rfl
  · refine ka_caught (vx_runV (As := [.int x1, .int x2]) (rest := [.int 0, .ref (A 63)]) S9 (c_Ke_lower_err l hl9 D A (ka_oc A f :: r) _ σ x1 x2 _ _ h) (cwV 2 hts (tg_V wl_La_62 wm_Ke_lower we_Ke_lower wi_Ke wo_Ke_lower) rfl rfl rfl wq_Ke_lower ⟨Nat.le_of_ble_eq_true rfl, Nat.le_of_ble_eq_true rfl⟩) (ka_preV X9 hP hD hS 0 rfl rfl) rfl rfl hl.1 rfl (lv_room (Nat.le_of_ble_eq_true rfl)) d_La_lower_5 ⟨Nat.le_of_ble_eq_true rfl, Nat.le_of_ble_eq_true rfl⟩) X9 hD hS rfl (fun ce q9 H locs hP hD hS hce hcv hcl => ?_)
    refine vx_catch (name := "java/lang/IllegalArgumentException") (E := "java/lang/IllegalArgumentException") hown (tableOf []) ⟨0, 10, 13, 13⟩ (tableOf [(0, 10, 17, 15), (0, 10, 21, 17), (0, 10, 25, 19)]) (hex.trans rfl) (fun z hz => by cases hz) (by decide) (by decide) (hts _ wc_La_13) (X9.2.2.2.2.use _ (by decide +kernel)) hce hcv hcl ?_
    refine lv_astore (lv' := (4, .ref q9) :: [(0, .ref (A 0)), (1, .int x1), (2, .int x2), (3, .ref (A 63))]) hx hb d_La_lower_13 hl (by decide) rfl (fun ls hl => ?_)
    refine lv_iconst (v := 1) hx hb d_La_lower_15 (by decide) ?_
    exact W.iret hx hb hr (fun t ht hW => ⟨⟨_, (), rfl, rfl, ka_at ht hP⟩, hS.F ht⟩) hS.2.2 d_La_lower_16 hlk
  · refine ka_caught (vx_runV (As := [.int x1, .int x2]) (rest := [.int 0, .ref (A 63)]) S9 (c_Ke_lower_err l hl9 D A (ka_oc A f :: r) _ σ x1 x2 _ _ h) (cwV 2 hts (tg_V wl_La_62 wm_Ke_lower we_Ke_lower wi_Ke wo_Ke_lower) rfl rfl rfl wq_Ke_lower ⟨Nat.le_of_ble_eq_true rfl, Nat.le_of_ble_eq_true rfl⟩) (ka_preV X9 hP hD hS 0 rfl rfl) rfl rfl hl.1 rfl (lv_room (Nat.le_of_ble_eq_true rfl)) d_La_lower_5 ⟨Nat.le_of_ble_eq_true rfl, Nat.le_of_ble_eq_true rfl⟩) X9 hD hS rfl (fun ce q9 H locs hP hD hS hce hcv hcl => ?_)
    refine vx_catch (name := "java/util/NoSuchElementException") (E := "java/util/NoSuchElementException") hown (tableOf [(0, 10, 13, 13)]) ⟨0, 10, 17, 15⟩ (tableOf [(0, 10, 21, 17), (0, 10, 25, 19)]) (hex.trans rfl) (fun z hz => by
      simp only [tableOf, List.map_cons, List.map_nil, List.mem_cons, List.not_mem_nil, or_false] at hz
      subst hz
      exact Or.inr ⟨(by decide), _, hts _ wc_La_13, hC.1⟩) (by decide) (by decide) (hts _ wc_La_15) (X9.2.2.2.2.use _ (by decide +kernel)) hce hcv hcl ?_
    refine lv_astore (lv' := (4, .ref q9) :: [(0, .ref (A 0)), (1, .int x1), (2, .int x2), (3, .ref (A 63))]) hx hb d_La_lower_17 hl (by decide) rfl (fun ls hl => ?_)
    refine lv_iconst (v := 2) hx hb d_La_lower_19 (by decide) ?_
    exact W.iret hx hb hr (fun t ht hW => ⟨⟨_, (), rfl, rfl, ka_at ht hP⟩, hS.F ht⟩) hS.2.2 d_La_lower_20 hlk
  · refine ka_caught (vx_runV (As := [.int x1, .int x2]) (rest := [.int 0, .ref (A 63)]) S9 (c_Ke_lower_err l hl9 D A (ka_oc A f :: r) _ σ x1 x2 _ _ h) (cwV 2 hts (tg_V wl_La_62 wm_Ke_lower we_Ke_lower wi_Ke wo_Ke_lower) rfl rfl rfl wq_Ke_lower ⟨Nat.le_of_ble_eq_true rfl, Nat.le_of_ble_eq_true rfl⟩) (ka_preV X9 hP hD hS 0 rfl rfl) rfl rfl hl.1 rfl (lv_room (Nat.le_of_ble_eq_true rfl)) d_La_lower_5 ⟨Nat.le_of_ble_eq_true rfl, Nat.le_of_ble_eq_true rfl⟩) X9 hD hS rfl (fun ce q9 H locs hP hD hS hce hcv hcl => ?_)
    refine vx_catch (name := "java/lang/UnsupportedOperationException") (E := "java/lang/UnsupportedOperationException") hown (tableOf [(0, 10, 13, 13), (0, 10, 17, 15)]) ⟨0, 10, 21, 17⟩ (tableOf [(0, 10, 25, 19)]) (hex.trans rfl) (fun z hz => by
      simp only [tableOf, List.map_cons, List.map_nil, List.mem_cons, List.not_mem_nil, or_false] at hz
      rcases hz with rfl | rfl
      · exact Or.inr ⟨(by decide), _, hts _ wc_La_13, hC.2.1⟩
      · exact Or.inr ⟨(by decide), _, hts _ wc_La_15, hC.2.2.1⟩) (by decide) (by decide) (hts _ wc_La_17) (X9.2.2.2.2.use _ (by decide +kernel)) hce hcv hcl ?_
    refine lv_astore (lv' := (4, .ref q9) :: [(0, .ref (A 0)), (1, .int x1), (2, .int x2), (3, .ref (A 63))]) hx hb d_La_lower_21 hl (by decide) rfl (fun ls hl => ?_)
    refine lv_iconst (v := 3) hx hb d_La_lower_23 (by decide) ?_
    exact W.iret hx hb hr (fun t ht hW => ⟨⟨_, (), rfl, rfl, ka_at ht hP⟩, hS.F ht⟩) hS.2.2 d_La_lower_24 hlk
  · refine ka_caught (vx_runV (As := [.int x1, .int x2]) (rest := [.int 0, .ref (A 63)]) S9 (c_Ke_lower_err l hl9 D A (ka_oc A f :: r) _ σ x1 x2 _ _ h) (cwV 2 hts (tg_V wl_La_62 wm_Ke_lower we_Ke_lower wi_Ke wo_Ke_lower) rfl rfl rfl wq_Ke_lower ⟨Nat.le_of_ble_eq_true rfl, Nat.le_of_ble_eq_true rfl⟩) (ka_preV X9 hP hD hS 0 rfl rfl) rfl rfl hl.1 rfl (lv_room (Nat.le_of_ble_eq_true rfl)) d_La_lower_5 ⟨Nat.le_of_ble_eq_true rfl, Nat.le_of_ble_eq_true rfl⟩) X9 hD hS rfl (fun ce q9 H locs hP hD hS hce hcv hcl => ?_)
    refine vx_catch (name := "java/lang/IllegalStateException") (E := "java/lang/IllegalStateException") hown (tableOf [(0, 10, 13, 13), (0, 10, 17, 15), (0, 10, 21, 17)]) ⟨0, 10, 25, 19⟩ (tableOf []) (hex.trans rfl) (fun z hz => by
      simp only [tableOf, List.map_cons, List.map_nil, List.mem_cons, List.not_mem_nil, or_false] at hz
      rcases hz with rfl | rfl | rfl
      · exact Or.inr ⟨(by decide), _, hts _ wc_La_13, hC.2.2.2.1⟩
      · exact Or.inr ⟨(by decide), _, hts _ wc_La_15, hC.2.2.2.2.1⟩
      · exact Or.inr ⟨(by decide), _, hts _ wc_La_17, hC.2.2.2.2.2⟩) (by decide) (by decide) (hts _ wc_La_19) (X9.2.2.2.2.use _ (by decide +kernel)) hce hcv hcl ?_
    refine lv_astore (lv' := (4, .ref q9) :: [(0, .ref (A 0)), (1, .int x1), (2, .int x2), (3, .ref (A 63))]) hx hb d_La_lower_25 hl (by decide) rfl (fun ls hl => ?_)
    refine lv_iconst (v := 4) hx hb d_La_lower_27 (by decide) ?_
    exact W.iret hx hb hr (fun t ht hW => ⟨⟨_, (), rfl, rfl, ka_at ht hP⟩, hS.F ht⟩) hS.2.2 d_La_lower_28 hlk
set_option maxRecDepth 100000 in
set_option maxHeartbeats 4000000 in
theorem c_La_enter_ok (l : Launch) (hl9 : l.stackTraces = false) (D : va_G) (A : Nat → Nat) (r : va_W) (f : Nat → Int64) (sz : Nat) (σ : KS) (x1 x2 x3 x4 x5 : Int32) (v : Int32) (u : KS) (h : f_Ke_enter σ x1 x2 x3 x4 x5 = some (.ok v, u)) : Met l y_La_enter (Cond.codeWith y_La_enter b_La_enter 8 (some .int) hh_La_enter :: T0) ({ frames := 4, cells := 0, slots := 0, locals := 98 } : Room) (va_Pc [.ref (A 0), .int x1, .int x2, .int x3, .int x4, .int x5, .ref (A 63)] (ka_Wc D A (GW A σ (ka_oc A f :: r)) sz)) (ka_Ri D 0 (GW A u (ka_oc A (vp_updL f 0 v.toInt64) :: r)) (va_A (GW A σ (ka_oc A f :: r)) sz)) 0 0 (va_A (GW A σ (ka_oc A f :: r)) sz) := by
  refine ka_ofT (own := R_La) (hh := hh_La_enter) (fun A9 => ka_Ri D 0 (GW A u (ka_oc A (vp_updL f 0 v.toInt64) :: r)) A9) (by decide) rfl (Nat.le_of_ble_eq_true rfl) ?_
  intro p e s m below meth c A9 ls S9 hr hlk hex hC X9 hP hD hl
  obtain ⟨hx, hb, hml, hown, hts⟩ := id S9
  have hK := X9.2.1
  have hS : va_S A9 s.heap s.heap [] := va_S.rf
  replace hl : lv_has ls 8 [(0, .ref (A 0)), (1, .int x1), (2, .int x2), (3, .int x3), (4, .int x4), (5, .int x5), (6, .ref (A 63))] := hl
  refine lv_aload hx hb d_La_enter_0 (lv_at hl 6 rfl) ?_
  refine lv_iconst (v := 0) hx hb d_La_enter_2 (by decide) ?_
  refine lv_aload_n hx hb d_La_enter_3 rfl (lv_at hl 0 rfl) ?_
  refine lv_iload_n hx hb d_La_enter_4 rfl (lv_at hl 1 rfl) ?_
  refine lv_iload_n hx hb d_La_enter_5 rfl (lv_at hl 2 rfl) ?_
  refine lv_iload_n hx hb d_La_enter_6 rfl (lv_at hl 3 rfl) ?_
  refine lv_iload hx hb d_La_enter_7 (lv_at hl 4 rfl) ?_
  refine lv_iload hx hb d_La_enter_9 (lv_at hl 5 rfl) ?_
  refine ka_i (va_runV (As := [.int x1, .int x2, .int x3, .int x4, .int x5]) (rest := [.int 0, .ref (A 63)]) S9 (c_Ke_enter_ok l hl9 D A (ka_oc A f :: r) _ σ x1 x2 x3 x4 x5 _ _ h) (cwV 5 hts (tg_V wl_La_65 wm_Ke_enter we_Ke_enter wi_Ke wo_Ke_enter) rfl rfl rfl wq_Ke_enter ⟨Nat.le_of_ble_eq_true rfl, Nat.le_of_ble_eq_true rfl⟩) (ka_preV X9 hP hD hS 0 rfl rfl) rfl rfl hl.1 rfl (lv_room (Nat.le_of_ble_eq_true rfl)) d_La_enter_11 ⟨Nat.le_of_ble_eq_true rfl, Nat.le_of_ble_eq_true rfl⟩) X9 hD hS rfl (fun H locs hP hD hS => ?_)
  refine lv_i2l (v := v.toInt64) hx hb d_La_enter_14 rfl ?_
  refine va_last hx hb hK hP hD hS 47 2 rfl rfl (by unfold vp_in; decide) d_La_enter_15 (fun H locs hP hD hS => ?_)
  refine lv_goto (tgt := 35) hx hb d_La_enter_16 (by decide) ?_
  refine lv_iconst (v := 0) hx hb d_La_enter_35 (by decide) ?_
  exact W.iret hx hb hr (fun t ht hW => ⟨⟨_, (), rfl, rfl, ka_at ht hP⟩, hS.F ht⟩) hS.2.2 d_La_enter_36 hlk
set_option maxRecDepth 100000 in
set_option maxHeartbeats 4000000 in
theorem c_La_enter_err (l : Launch) (hl9 : l.stackTraces = false) (D : va_G) (A : Nat → Nat) (r : va_W) (f : Nat → Int64) (sz : Nat) (σ : KS) (x1 x2 x3 x4 x5 : Int32) (k : Nat) (hk : k = 1 ∨ k = 2 ∨ k = 3 ∨ k = 4) (u : KS) (h : f_Ke_enter σ x1 x2 x3 x4 x5 = some (.error k, u)) : Met l y_La_enter (Cond.codeWith y_La_enter b_La_enter 8 (some .int) hh_La_enter :: T0) ({ frames := 9, cells := 1, slots := 6, locals := 149 } : Room) (va_Pc [.ref (A 0), .int x1, .int x2, .int x3, .int x4, .int x5, .ref (A 63)] (ka_Wc D A (GW A σ (ka_oc A f :: r)) sz)) (ka_Ri D (nI k) (GW A u (ka_oc A f :: r)) (va_A (GW A σ (ka_oc A f :: r)) sz)) 1 6 (va_A (GW A σ (ka_oc A f :: r)) sz) := by
  refine ka_ofT (own := R_La) (hh := hh_La_enter) (fun A9 => ka_Ri D (nI k) (GW A u (ka_oc A f :: r)) A9) (by decide) rfl (Nat.le_of_ble_eq_true rfl) ?_
  intro p e s m below meth c A9 ls S9 hr hlk hex hC X9 hP hD hl
  obtain ⟨hx, hb, hml, hown, hts⟩ := id S9
  have hK := X9.2.1
  have hS : va_S A9 s.heap s.heap [] := va_S.rf
  replace hl : lv_has ls 8 [(0, .ref (A 0)), (1, .int x1), (2, .int x2), (3, .int x3), (4, .int x4), (5, .int x5), (6, .ref (A 63))] := hl
  refine lv_aload hx hb d_La_enter_0 (lv_at hl 6 rfl) ?_
  refine lv_iconst (v := 0) hx hb d_La_enter_2 (by decide) ?_
  refine lv_aload_n hx hb d_La_enter_3 rfl (lv_at hl 0 rfl) ?_
  refine lv_iload_n hx hb d_La_enter_4 rfl (lv_at hl 1 rfl) ?_
  refine lv_iload_n hx hb d_La_enter_5 rfl (lv_at hl 2 rfl) ?_
  refine lv_iload_n hx hb d_La_enter_6 rfl (lv_at hl 3 rfl) ?_
  refine lv_iload hx hb d_La_enter_7 (lv_at hl 4 rfl) ?_
  refine lv_iload hx hb d_La_enter_9 (lv_at hl 5 rfl) ?_
  rcases hk with rfl | rfl | rfl | rfl
  · refine ka_caught (vx_runV (As := [.int x1, .int x2, .int x3, .int x4, .int x5]) (rest := [.int 0, .ref (A 63)]) S9 (c_Ke_enter_err l hl9 D A (ka_oc A f :: r) _ σ x1 x2 x3 x4 x5 _ _ h) (cwV 5 hts (tg_V wl_La_65 wm_Ke_enter we_Ke_enter wi_Ke wo_Ke_enter) rfl rfl rfl wq_Ke_enter ⟨Nat.le_of_ble_eq_true rfl, Nat.le_of_ble_eq_true rfl⟩) (ka_preV X9 hP hD hS 0 rfl rfl) rfl rfl hl.1 rfl (lv_room (Nat.le_of_ble_eq_true rfl)) d_La_enter_11 ⟨Nat.le_of_ble_eq_true rfl, Nat.le_of_ble_eq_true rfl⟩) X9 hD hS rfl (fun ce q9 H locs hP hD hS hce hcv hcl => ?_)
    refine vx_catch (name := "java/lang/IllegalArgumentException") (E := "java/lang/IllegalArgumentException") hown (tableOf []) ⟨0, 16, 19, 13⟩ (tableOf [(0, 16, 23, 15), (0, 16, 27, 17), (0, 16, 31, 19)]) (hex.trans rfl) (fun z hz => by cases hz) (by decide) (by decide) (hts _ wc_La_13) (X9.2.2.2.2.use _ (by decide +kernel)) hce hcv hcl ?_
    refine lv_astore (lv' := (7, .ref q9) :: [(0, .ref (A 0)), (1, .int x1), (2, .int x2), (3, .int x3), (4, .int x4), (5, .int x5), (6, .ref (A 63))]) hx hb d_La_enter_19 hl (by decide) rfl (fun ls hl => ?_)
    refine lv_iconst (v := 1) hx hb d_La_enter_21 (by decide) ?_
    exact W.iret hx hb hr (fun t ht hW => ⟨⟨_, (), rfl, rfl, ka_at ht hP⟩, hS.F ht⟩) hS.2.2 d_La_enter_22 hlk
  · refine ka_caught (vx_runV (As := [.int x1, .int x2, .int x3, .int x4, .int x5]) (rest := [.int 0, .ref (A 63)]) S9 (c_Ke_enter_err l hl9 D A (ka_oc A f :: r) _ σ x1 x2 x3 x4 x5 _ _ h) (cwV 5 hts (tg_V wl_La_65 wm_Ke_enter we_Ke_enter wi_Ke wo_Ke_enter) rfl rfl rfl wq_Ke_enter ⟨Nat.le_of_ble_eq_true rfl, Nat.le_of_ble_eq_true rfl⟩) (ka_preV X9 hP hD hS 0 rfl rfl) rfl rfl hl.1 rfl (lv_room (Nat.le_of_ble_eq_true rfl)) d_La_enter_11 ⟨Nat.le_of_ble_eq_true rfl, Nat.le_of_ble_eq_true rfl⟩) X9 hD hS rfl (fun ce q9 H locs hP hD hS hce hcv hcl => ?_)
    refine vx_catch (name := "java/util/NoSuchElementException") (E := "java/util/NoSuchElementException") hown (tableOf [(0, 16, 19, 13)]) ⟨0, 16, 23, 15⟩ (tableOf [(0, 16, 27, 17), (0, 16, 31, 19)]) (hex.trans rfl) (fun z hz => by
      simp only [tableOf, List.map_cons, List.map_nil, List.mem_cons, List.not_mem_nil, or_false] at hz
      subst hz
      exact Or.inr ⟨(by decide), _, hts _ wc_La_13, hC.1⟩) (by decide) (by decide) (hts _ wc_La_15) (X9.2.2.2.2.use _ (by decide +kernel)) hce hcv hcl ?_
    refine lv_astore (lv' := (7, .ref q9) :: [(0, .ref (A 0)), (1, .int x1), (2, .int x2), (3, .int x3), (4, .int x4), (5, .int x5), (6, .ref (A 63))]) hx hb d_La_enter_23 hl (by decide) rfl (fun ls hl => ?_)
    refine lv_iconst (v := 2) hx hb d_La_enter_25 (by decide) ?_
    exact W.iret hx hb hr (fun t ht hW => ⟨⟨_, (), rfl, rfl, ka_at ht hP⟩, hS.F ht⟩) hS.2.2 d_La_enter_26 hlk
  · refine ka_caught (vx_runV (As := [.int x1, .int x2, .int x3, .int x4, .int x5]) (rest := [.int 0, .ref (A 63)]) S9 (c_Ke_enter_err l hl9 D A (ka_oc A f :: r) _ σ x1 x2 x3 x4 x5 _ _ h) (cwV 5 hts (tg_V wl_La_65 wm_Ke_enter we_Ke_enter wi_Ke wo_Ke_enter) rfl rfl rfl wq_Ke_enter ⟨Nat.le_of_ble_eq_true rfl, Nat.le_of_ble_eq_true rfl⟩) (ka_preV X9 hP hD hS 0 rfl rfl) rfl rfl hl.1 rfl (lv_room (Nat.le_of_ble_eq_true rfl)) d_La_enter_11 ⟨Nat.le_of_ble_eq_true rfl, Nat.le_of_ble_eq_true rfl⟩) X9 hD hS rfl (fun ce q9 H locs hP hD hS hce hcv hcl => ?_)
    refine vx_catch (name := "java/lang/UnsupportedOperationException") (E := "java/lang/UnsupportedOperationException") hown (tableOf [(0, 16, 19, 13), (0, 16, 23, 15)]) ⟨0, 16, 27, 17⟩ (tableOf [(0, 16, 31, 19)]) (hex.trans rfl) (fun z hz => by
      simp only [tableOf, List.map_cons, List.map_nil, List.mem_cons, List.not_mem_nil, or_false] at hz
      rcases hz with rfl | rfl
      · exact Or.inr ⟨(by decide), _, hts _ wc_La_13, hC.2.1⟩
      · exact Or.inr ⟨(by decide), _, hts _ wc_La_15, hC.2.2.1⟩) (by decide) (by decide) (hts _ wc_La_17) (X9.2.2.2.2.use _ (by decide +kernel)) hce hcv hcl ?_
    refine lv_astore (lv' := (7, .ref q9) :: [(0, .ref (A 0)), (1, .int x1), (2, .int x2), (3, .int x3), (4, .int x4), (5, .int x5), (6, .ref (A 63))]) hx hb d_La_enter_27 hl (by decide) rfl (fun ls hl => ?_)
    refine lv_iconst (v := 3) hx hb d_La_enter_29 (by decide) ?_
    exact W.iret hx hb hr (fun t ht hW => ⟨⟨_, (), rfl, rfl, ka_at ht hP⟩, hS.F ht⟩) hS.2.2 d_La_enter_30 hlk
  · refine ka_caught (vx_runV (As := [.int x1, .int x2, .int x3, .int x4, .int x5]) (rest := [.int 0, .ref (A 63)]) S9 (c_Ke_enter_err l hl9 D A (ka_oc A f :: r) _ σ x1 x2 x3 x4 x5 _ _ h) (cwV 5 hts (tg_V wl_La_65 wm_Ke_enter we_Ke_enter wi_Ke wo_Ke_enter) rfl rfl rfl wq_Ke_enter ⟨Nat.le_of_ble_eq_true rfl, Nat.le_of_ble_eq_true rfl⟩) (ka_preV X9 hP hD hS 0 rfl rfl) rfl rfl hl.1 rfl (lv_room (Nat.le_of_ble_eq_true rfl)) d_La_enter_11 ⟨Nat.le_of_ble_eq_true rfl, Nat.le_of_ble_eq_true rfl⟩) X9 hD hS rfl (fun ce q9 H locs hP hD hS hce hcv hcl => ?_)
    refine vx_catch (name := "java/lang/IllegalStateException") (E := "java/lang/IllegalStateException") hown (tableOf [(0, 16, 19, 13), (0, 16, 23, 15), (0, 16, 27, 17)]) ⟨0, 16, 31, 19⟩ (tableOf []) (hex.trans rfl) (fun z hz => by
      simp only [tableOf, List.map_cons, List.map_nil, List.mem_cons, List.not_mem_nil, or_false] at hz
      rcases hz with rfl | rfl | rfl
      · exact Or.inr ⟨(by decide), _, hts _ wc_La_13, hC.2.2.2.1⟩
      · exact Or.inr ⟨(by decide), _, hts _ wc_La_15, hC.2.2.2.2.1⟩
      · exact Or.inr ⟨(by decide), _, hts _ wc_La_17, hC.2.2.2.2.2⟩) (by decide) (by decide) (hts _ wc_La_19) (X9.2.2.2.2.use _ (by decide +kernel)) hce hcv hcl ?_
    refine lv_astore (lv' := (7, .ref q9) :: [(0, .ref (A 0)), (1, .int x1), (2, .int x2), (3, .int x3), (4, .int x4), (5, .int x5), (6, .ref (A 63))]) hx hb d_La_enter_31 hl (by decide) rfl (fun ls hl => ?_)
    refine lv_iconst (v := 4) hx hb d_La_enter_33 (by decide) ?_
    exact W.iret hx hb hr (fun t ht hW => ⟨⟨_, (), rfl, rfl, ka_at ht hP⟩, hS.F ht⟩) hS.2.2 d_La_enter_34 hlk
set_option maxRecDepth 100000 in
set_option maxHeartbeats 4000000 in
theorem c_La_user_ok (l : Launch) (hl9 : l.stackTraces = false) (D : va_G) (A : Nat → Nat) (r : va_W) (f : Nat → Int64) (sz : Nat) (σ : KS) (x1 x2 x3 : Int32) (v : Int32) (u : KS) (h : f_Ke_user σ x1 x2 x3 = some (.ok v, u)) : Met l y_La_user (Cond.codeWith y_La_user b_La_user 6 (some .int) hh_La_user :: T0) ({ frames := 7, cells := 0, slots := 0, locals := 168 } : Room) (va_Pc [.ref (A 0), .int x1, .int x2, .int x3, .ref (A 63)] (ka_Wc D A (GW A σ (ka_oc A f :: r)) sz)) (ka_Ri D 0 (GW A u (ka_oc A (vp_updL f 0 v.toInt64) :: r)) (va_A (GW A σ (ka_oc A f :: r)) sz)) 0 0 (va_A (GW A σ (ka_oc A f :: r)) sz) := by
  refine ka_ofT (own := R_La) (hh := hh_La_user) (fun A9 => ka_Ri D 0 (GW A u (ka_oc A (vp_updL f 0 v.toInt64) :: r)) A9) (by decide) rfl (Nat.le_of_ble_eq_true rfl) ?_
  intro p e s m below meth c A9 ls S9 hr hlk hex hC X9 hP hD hl
  obtain ⟨hx, hb, hml, hown, hts⟩ := id S9
  have hK := X9.2.1
  have hS : va_S A9 s.heap s.heap [] := va_S.rf
  replace hl : lv_has ls 6 [(0, .ref (A 0)), (1, .int x1), (2, .int x2), (3, .int x3), (4, .ref (A 63))] := hl
  refine lv_aload hx hb d_La_user_0 (lv_at hl 4 rfl) ?_
  refine lv_iconst (v := 0) hx hb d_La_user_2 (by decide) ?_
  refine lv_aload_n hx hb d_La_user_3 rfl (lv_at hl 0 rfl) ?_
  refine lv_iload_n hx hb d_La_user_4 rfl (lv_at hl 1 rfl) ?_
  refine lv_iload_n hx hb d_La_user_5 rfl (lv_at hl 2 rfl) ?_
  refine lv_iload_n hx hb d_La_user_6 rfl (lv_at hl 3 rfl) ?_
  refine ka_i (va_runV (As := [.int x1, .int x2, .int x3]) (rest := [.int 0, .ref (A 63)]) S9 (c_Ke_user_ok l hl9 D A (ka_oc A f :: r) _ σ x1 x2 x3 _ _ h) (cwV 3 hts (tg_V wl_La_68 wm_Ke_user we_Ke_user wi_Ke wo_Ke_user) rfl rfl rfl wq_Ke_user ⟨Nat.le_of_ble_eq_true rfl, Nat.le_of_ble_eq_true rfl⟩) (ka_preV X9 hP hD hS 0 rfl rfl) rfl rfl hl.1 rfl (lv_room (Nat.le_of_ble_eq_true rfl)) d_La_user_7 ⟨Nat.le_of_ble_eq_true rfl, Nat.le_of_ble_eq_true rfl⟩) X9 hD hS rfl (fun H locs hP hD hS => ?_)
  refine lv_i2l (v := v.toInt64) hx hb d_La_user_10 rfl ?_
  refine va_last hx hb hK hP hD hS 47 2 rfl rfl (by unfold vp_in; decide) d_La_user_11 (fun H locs hP hD hS => ?_)
  refine lv_goto (tgt := 31) hx hb d_La_user_12 (by decide) ?_
  refine lv_iconst (v := 0) hx hb d_La_user_31 (by decide) ?_
  exact W.iret hx hb hr (fun t ht hW => ⟨⟨_, (), rfl, rfl, ka_at ht hP⟩, hS.F ht⟩) hS.2.2 d_La_user_32 hlk
set_option maxRecDepth 100000 in
set_option maxHeartbeats 4000000 in
theorem c_La_user_err (l : Launch) (hl9 : l.stackTraces = false) (D : va_G) (A : Nat → Nat) (r : va_W) (f : Nat → Int64) (sz : Nat) (σ : KS) (x1 x2 x3 : Int32) (k : Nat) (hk : k = 1 ∨ k = 2 ∨ k = 3 ∨ k = 4) (u : KS) (h : f_Ke_user σ x1 x2 x3 = some (.error k, u)) : Met l y_La_user (Cond.codeWith y_La_user b_La_user 6 (some .int) hh_La_user :: T0) ({ frames := 10, cells := 1, slots := 6, locals := 180 } : Room) (va_Pc [.ref (A 0), .int x1, .int x2, .int x3, .ref (A 63)] (ka_Wc D A (GW A σ (ka_oc A f :: r)) sz)) (ka_Ri D (nI k) (GW A u (ka_oc A f :: r)) (va_A (GW A σ (ka_oc A f :: r)) sz)) 1 6 (va_A (GW A σ (ka_oc A f :: r)) sz) := by
  refine ka_ofT (own := R_La) (hh := hh_La_user) (fun A9 => ka_Ri D (nI k) (GW A u (ka_oc A f :: r)) A9) (by decide) rfl (Nat.le_of_ble_eq_true rfl) ?_
  intro p e s m below meth c A9 ls S9 hr hlk hex hC X9 hP hD hl
  obtain ⟨hx, hb, hml, hown, hts⟩ := id S9
  have hK := X9.2.1
  have hS : va_S A9 s.heap s.heap [] := va_S.rf
  replace hl : lv_has ls 6 [(0, .ref (A 0)), (1, .int x1), (2, .int x2), (3, .int x3), (4, .ref (A 63))] := hl
  refine lv_aload hx hb d_La_user_0 (lv_at hl 4 rfl) ?_
  refine lv_iconst (v := 0) hx hb d_La_user_2 (by decide) ?_
  refine lv_aload_n hx hb d_La_user_3 rfl (lv_at hl 0 rfl) ?_
  refine lv_iload_n hx hb d_La_user_4 rfl (lv_at hl 1 rfl) ?_
  refine lv_iload_n hx hb d_La_user_5 rfl (lv_at hl 2 rfl) ?_
  refine lv_iload_n hx hb d_La_user_6 rfl (lv_at hl 3 rfl) ?_
  rcases hk with rfl | rfl | rfl | rfl
  · refine ka_caught (vx_runV (As := [.int x1, .int x2, .int x3]) (rest := [.int 0, .ref (A 63)]) S9 (c_Ke_user_err l hl9 D A (ka_oc A f :: r) _ σ x1 x2 x3 _ _ h) (cwV 3 hts (tg_V wl_La_68 wm_Ke_user we_Ke_user wi_Ke wo_Ke_user) rfl rfl rfl wq_Ke_user ⟨Nat.le_of_ble_eq_true rfl, Nat.le_of_ble_eq_true rfl⟩) (ka_preV X9 hP hD hS 0 rfl rfl) rfl rfl hl.1 rfl (lv_room (Nat.le_of_ble_eq_true rfl)) d_La_user_7 ⟨Nat.le_of_ble_eq_true rfl, Nat.le_of_ble_eq_true rfl⟩) X9 hD hS rfl (fun ce q9 H locs hP hD hS hce hcv hcl => ?_)
    refine vx_catch (name := "java/lang/IllegalArgumentException") (E := "java/lang/IllegalArgumentException") hown (tableOf []) ⟨0, 12, 15, 13⟩ (tableOf [(0, 12, 19, 15), (0, 12, 23, 17), (0, 12, 27, 19)]) (hex.trans rfl) (fun z hz => by cases hz) (by decide) (by decide) (hts _ wc_La_13) (X9.2.2.2.2.use _ (by decide +kernel)) hce hcv hcl ?_
    refine lv_astore (lv' := (5, .ref q9) :: [(0, .ref (A 0)), (1, .int x1), (2, .int x2), (3, .int x3), (4, .ref (A 63))]) hx hb d_La_user_15 hl (by decide) rfl (fun ls hl => ?_)
    refine lv_iconst (v := 1) hx hb d_La_user_17 (by decide) ?_
    exact W.iret hx hb hr (fun t ht hW => ⟨⟨_, (), rfl, rfl, ka_at ht hP⟩, hS.F ht⟩) hS.2.2 d_La_user_18 hlk
  · refine ka_caught (vx_runV (As := [.int x1, .int x2, .int x3]) (rest := [.int 0, .ref (A 63)]) S9 (c_Ke_user_err l hl9 D A (ka_oc A f :: r) _ σ x1 x2 x3 _ _ h) (cwV 3 hts (tg_V wl_La_68 wm_Ke_user we_Ke_user wi_Ke wo_Ke_user) rfl rfl rfl wq_Ke_user ⟨Nat.le_of_ble_eq_true rfl, Nat.le_of_ble_eq_true rfl⟩) (ka_preV X9 hP hD hS 0 rfl rfl) rfl rfl hl.1 rfl (lv_room (Nat.le_of_ble_eq_true rfl)) d_La_user_7 ⟨Nat.le_of_ble_eq_true rfl, Nat.le_of_ble_eq_true rfl⟩) X9 hD hS rfl (fun ce q9 H locs hP hD hS hce hcv hcl => ?_)
    refine vx_catch (name := "java/util/NoSuchElementException") (E := "java/util/NoSuchElementException") hown (tableOf [(0, 12, 15, 13)]) ⟨0, 12, 19, 15⟩ (tableOf [(0, 12, 23, 17), (0, 12, 27, 19)]) (hex.trans rfl) (fun z hz => by
      simp only [tableOf, List.map_cons, List.map_nil, List.mem_cons, List.not_mem_nil, or_false] at hz
      subst hz
      exact Or.inr ⟨(by decide), _, hts _ wc_La_13, hC.1⟩) (by decide) (by decide) (hts _ wc_La_15) (X9.2.2.2.2.use _ (by decide +kernel)) hce hcv hcl ?_
    refine lv_astore (lv' := (5, .ref q9) :: [(0, .ref (A 0)), (1, .int x1), (2, .int x2), (3, .int x3), (4, .ref (A 63))]) hx hb d_La_user_19 hl (by decide) rfl (fun ls hl => ?_)
    refine lv_iconst (v := 2) hx hb d_La_user_21 (by decide) ?_
    exact W.iret hx hb hr (fun t ht hW => ⟨⟨_, (), rfl, rfl, ka_at ht hP⟩, hS.F ht⟩) hS.2.2 d_La_user_22 hlk
  · refine ka_caught (vx_runV (As := [.int x1, .int x2, .int x3]) (rest := [.int 0, .ref (A 63)]) S9 (c_Ke_user_err l hl9 D A (ka_oc A f :: r) _ σ x1 x2 x3 _ _ h) (cwV 3 hts (tg_V wl_La_68 wm_Ke_user we_Ke_user wi_Ke wo_Ke_user) rfl rfl rfl wq_Ke_user ⟨Nat.le_of_ble_eq_true rfl, Nat.le_of_ble_eq_true rfl⟩) (ka_preV X9 hP hD hS 0 rfl rfl) rfl rfl hl.1 rfl (lv_room (Nat.le_of_ble_eq_true rfl)) d_La_user_7 ⟨Nat.le_of_ble_eq_true rfl, Nat.le_of_ble_eq_true rfl⟩) X9 hD hS rfl (fun ce q9 H locs hP hD hS hce hcv hcl => ?_)
    refine vx_catch (name := "java/lang/UnsupportedOperationException") (E := "java/lang/UnsupportedOperationException") hown (tableOf [(0, 12, 15, 13), (0, 12, 19, 15)]) ⟨0, 12, 23, 17⟩ (tableOf [(0, 12, 27, 19)]) (hex.trans rfl) (fun z hz => by
      simp only [tableOf, List.map_cons, List.map_nil, List.mem_cons, List.not_mem_nil, or_false] at hz
      rcases hz with rfl | rfl
      · exact Or.inr ⟨(by decide), _, hts _ wc_La_13, hC.2.1⟩
      · exact Or.inr ⟨(by decide), _, hts _ wc_La_15, hC.2.2.1⟩) (by decide) (by decide) (hts _ wc_La_17) (X9.2.2.2.2.use _ (by decide +kernel)) hce hcv hcl ?_
    refine lv_astore (lv' := (5, .ref q9) :: [(0, .ref (A 0)), (1, .int x1), (2, .int x2), (3, .int x3), (4, .ref (A 63))]) hx hb d_La_user_23 hl (by decide) rfl (fun ls hl => ?_)
    refine lv_iconst (v := 3) hx hb d_La_user_25 (by decide) ?_
    exact W.iret hx hb hr (fun t ht hW => ⟨⟨_, (), rfl, rfl, ka_at ht hP⟩, hS.F ht⟩) hS.2.2 d_La_user_26 hlk
  · refine ka_caught (vx_runV (As := [.int x1, .int x2, .int x3]) (rest := [.int 0, .ref (A 63)]) S9 (c_Ke_user_err l hl9 D A (ka_oc A f :: r) _ σ x1 x2 x3 _ _ h) (cwV 3 hts (tg_V wl_La_68 wm_Ke_user we_Ke_user wi_Ke wo_Ke_user) rfl rfl rfl wq_Ke_user ⟨Nat.le_of_ble_eq_true rfl, Nat.le_of_ble_eq_true rfl⟩) (ka_preV X9 hP hD hS 0 rfl rfl) rfl rfl hl.1 rfl (lv_room (Nat.le_of_ble_eq_true rfl)) d_La_user_7 ⟨Nat.le_of_ble_eq_true rfl, Nat.le_of_ble_eq_true rfl⟩) X9 hD hS rfl (fun ce q9 H locs hP hD hS hce hcv hcl => ?_)
    refine vx_catch (name := "java/lang/IllegalStateException") (E := "java/lang/IllegalStateException") hown (tableOf [(0, 12, 15, 13), (0, 12, 19, 15), (0, 12, 23, 17)]) ⟨0, 12, 27, 19⟩ (tableOf []) (hex.trans rfl) (fun z hz => by
      simp only [tableOf, List.map_cons, List.map_nil, List.mem_cons, List.not_mem_nil, or_false] at hz
      rcases hz with rfl | rfl | rfl
      · exact Or.inr ⟨(by decide), _, hts _ wc_La_13, hC.2.2.2.1⟩
      · exact Or.inr ⟨(by decide), _, hts _ wc_La_15, hC.2.2.2.2.1⟩
      · exact Or.inr ⟨(by decide), _, hts _ wc_La_17, hC.2.2.2.2.2⟩) (by decide) (by decide) (hts _ wc_La_19) (X9.2.2.2.2.use _ (by decide +kernel)) hce hcv hcl ?_
    refine lv_astore (lv' := (5, .ref q9) :: [(0, .ref (A 0)), (1, .int x1), (2, .int x2), (3, .int x3), (4, .ref (A 63))]) hx hb d_La_user_27 hl (by decide) rfl (fun ls hl => ?_)
    refine lv_iconst (v := 4) hx hb d_La_user_29 (by decide) ?_
    exact W.iret hx hb hr (fun t ht hW => ⟨⟨_, (), rfl, rfl, ka_at ht hP⟩, hS.F ht⟩) hS.2.2 d_La_user_30 hlk
set_option maxRecDepth 100000 in
set_option maxHeartbeats 4000000 in
theorem c_La_login_ok (l : Launch) (hl9 : l.stackTraces = false) (D : va_G) (A : Nat → Nat) (r : va_W) (f : Nat → Int64) (sz : Nat) (σ : KS) (x1 x2 x3 : Int32) (v : Int32) (u : KS) (h : f_Ke_login σ x1 x2 x3 = some (.ok v, u)) : Met l y_La_login (Cond.codeWith y_La_login b_La_login 6 (some .int) hh_La_login :: T0) ({ frames := 5, cells := 0, slots := 0, locals := 125 } : Room) (va_Pc [.ref (A 0), .int x1, .int x2, .int x3, .ref (A 63)] (ka_Wc D A (GW A σ (ka_oc A f :: r)) sz)) (ka_Ri D 0 (GW A u (ka_oc A (vp_updL f 0 v.toInt64) :: r)) (va_A (GW A σ (ka_oc A f :: r)) sz)) 0 0 (va_A (GW A σ (ka_oc A f :: r)) sz) := by
  refine ka_ofT (own := R_La) (hh := hh_La_login) (fun A9 => ka_Ri D 0 (GW A u (ka_oc A (vp_updL f 0 v.toInt64) :: r)) A9) (by decide) rfl (Nat.le_of_ble_eq_true rfl) ?_
  intro p e s m below meth c A9 ls S9 hr hlk hex hC X9 hP hD hl
  obtain ⟨hx, hb, hml, hown, hts⟩ := id S9
  have hK := X9.2.1
  have hS : va_S A9 s.heap s.heap [] := va_S.rf
  replace hl : lv_has ls 6 [(0, .ref (A 0)), (1, .int x1), (2, .int x2), (3, .int x3), (4, .ref (A 63))] := hl
  refine lv_aload hx hb d_La_login_0 (lv_at hl 4 rfl) ?_
  refine lv_iconst (v := 0) hx hb d_La_login_2 (by decide) ?_
  refine lv_aload_n hx hb d_La_login_3 rfl (lv_at hl 0 rfl) ?_
  refine lv_iload_n hx hb d_La_login_4 rfl (lv_at hl 1 rfl) ?_
  refine lv_iload_n hx hb d_La_login_5 rfl (lv_at hl 2 rfl) ?_
  refine lv_iload_n hx hb d_La_login_6 rfl (lv_at hl 3 rfl) ?_
  refine ka_i (va_runV (As := [.int x1, .int x2, .int x3]) (rest := [.int 0, .ref (A 63)]) S9 (c_Ke_login_ok l hl9 D A (ka_oc A f :: r) _ σ x1 x2 x3 _ _ h) (cwV 3 hts (tg_V wl_La_71 wm_Ke_login we_Ke_login wi_Ke wo_Ke_login) rfl rfl rfl wq_Ke_login ⟨Nat.le_of_ble_eq_true rfl, Nat.le_of_ble_eq_true rfl⟩) (ka_preV X9 hP hD hS 0 rfl rfl) rfl rfl hl.1 rfl (lv_room (Nat.le_of_ble_eq_true rfl)) d_La_login_7 ⟨Nat.le_of_ble_eq_true rfl, Nat.le_of_ble_eq_true rfl⟩) X9 hD hS rfl (fun H locs hP hD hS => ?_)
  refine lv_i2l (v := v.toInt64) hx hb d_La_login_10 rfl ?_
  refine va_last hx hb hK hP hD hS 47 2 rfl rfl (by unfold vp_in; decide) d_La_login_11 (fun H locs hP hD hS => ?_)
  refine lv_goto (tgt := 31) hx hb d_La_login_12 (by decide) ?_
  refine lv_iconst (v := 0) hx hb d_La_login_31 (by decide) ?_
  exact W.iret hx hb hr (fun t ht hW => ⟨⟨_, (), rfl, rfl, ka_at ht hP⟩, hS.F ht⟩) hS.2.2 d_La_login_32 hlk
set_option maxRecDepth 100000 in
set_option maxHeartbeats 4000000 in
theorem c_La_login_err (l : Launch) (hl9 : l.stackTraces = false) (D : va_G) (A : Nat → Nat) (r : va_W) (f : Nat → Int64) (sz : Nat) (σ : KS) (x1 x2 x3 : Int32) (k : Nat) (hk : k = 1 ∨ k = 2 ∨ k = 3 ∨ k = 4) (u : KS) (h : f_Ke_login σ x1 x2 x3 = some (.error k, u)) : Met l y_La_login (Cond.codeWith y_La_login b_La_login 6 (some .int) hh_La_login :: T0) ({ frames := 10, cells := 1, slots := 6, locals := 176 } : Room) (va_Pc [.ref (A 0), .int x1, .int x2, .int x3, .ref (A 63)] (ka_Wc D A (GW A σ (ka_oc A f :: r)) sz)) (ka_Ri D (nI k) (GW A u (ka_oc A f :: r)) (va_A (GW A σ (ka_oc A f :: r)) sz)) 1 6 (va_A (GW A σ (ka_oc A f :: r)) sz) := by
  refine ka_ofT (own := R_La) (hh := hh_La_login) (fun A9 => ka_Ri D (nI k) (GW A u (ka_oc A f :: r)) A9) (by decide) rfl (Nat.le_of_ble_eq_true rfl) ?_
  intro p e s m below meth c A9 ls S9 hr hlk hex hC X9 hP hD hl
  obtain ⟨hx, hb, hml, hown, hts⟩ := id S9
  have hK := X9.2.1
  have hS : va_S A9 s.heap s.heap [] := va_S.rf
  replace hl : lv_has ls 6 [(0, .ref (A 0)), (1, .int x1), (2, .int x2), (3, .int x3), (4, .ref (A 63))] := hl
  refine lv_aload hx hb d_La_login_0 (lv_at hl 4 rfl) ?_
  refine lv_iconst (v := 0) hx hb d_La_login_2 (by decide) ?_
  refine lv_aload_n hx hb d_La_login_3 rfl (lv_at hl 0 rfl) ?_
  refine lv_iload_n hx hb d_La_login_4 rfl (lv_at hl 1 rfl) ?_
  refine lv_iload_n hx hb d_La_login_5 rfl (lv_at hl 2 rfl) ?_
  refine lv_iload_n hx hb d_La_login_6 rfl (lv_at hl 3 rfl) ?_
  rcases hk with rfl | rfl | rfl | rfl
  · refine ka_caught (vx_runV (As := [.int x1, .int x2, .int x3]) (rest := [.int 0, .ref (A 63)]) S9 (c_Ke_login_err l hl9 D A (ka_oc A f :: r) _ σ x1 x2 x3 _ _ h) (cwV 3 hts (tg_V wl_La_71 wm_Ke_login we_Ke_login wi_Ke wo_Ke_login) rfl rfl rfl wq_Ke_login ⟨Nat.le_of_ble_eq_true rfl, Nat.le_of_ble_eq_true rfl⟩) (ka_preV X9 hP hD hS 0 rfl rfl) rfl rfl hl.1 rfl (lv_room (Nat.le_of_ble_eq_true rfl)) d_La_login_7 ⟨Nat.le_of_ble_eq_true rfl, Nat.le_of_ble_eq_true rfl⟩) X9 hD hS rfl (fun ce q9 H locs hP hD hS hce hcv hcl => ?_)
    refine vx_catch (name := "java/lang/IllegalArgumentException") (E := "java/lang/IllegalArgumentException") hown (tableOf []) ⟨0, 12, 15, 13⟩ (tableOf [(0, 12, 19, 15), (0, 12, 23, 17), (0, 12, 27, 19)]) (hex.trans rfl) (fun z hz => by cases hz) (by decide) (by decide) (hts _ wc_La_13) (X9.2.2.2.2.use _ (by decide +kernel)) hce hcv hcl ?_
    refine lv_astore (lv' := (5, .ref q9) :: [(0, .ref (A 0)), (1, .int x1), (2, .int x2), (3, .int x3), (4, .ref (A 63))]) hx hb d_La_login_15 hl (by decide) rfl (fun ls hl => ?_)
    refine lv_iconst (v := 1) hx hb d_La_login_17 (by decide) ?_
    exact W.iret hx hb hr (fun t ht hW => ⟨⟨_, (), rfl, rfl, ka_at ht hP⟩, hS.F ht⟩) hS.2.2 d_La_login_18 hlk
  · refine ka_caught (vx_runV (As := [.int x1, .int x2, .int x3]) (rest := [.int 0, .ref (A 63)]) S9 (c_Ke_login_err l hl9 D A (ka_oc A f :: r) _ σ x1 x2 x3 _ _ h) (cwV 3 hts (tg_V wl_La_71 wm_Ke_login we_Ke_login wi_Ke wo_Ke_login) rfl rfl rfl wq_Ke_login ⟨Nat.le_of_ble_eq_true rfl, Nat.le_of_ble_eq_true rfl⟩) (ka_preV X9 hP hD hS 0 rfl rfl) rfl rfl hl.1 rfl (lv_room (Nat.le_of_ble_eq_true rfl)) d_La_login_7 ⟨Nat.le_of_ble_eq_true rfl, Nat.le_of_ble_eq_true rfl⟩) X9 hD hS rfl (fun ce q9 H locs hP hD hS hce hcv hcl => ?_)
    refine vx_catch (name := "java/util/NoSuchElementException") (E := "java/util/NoSuchElementException") hown (tableOf [(0, 12, 15, 13)]) ⟨0, 12, 19, 15⟩ (tableOf [(0, 12, 23, 17), (0, 12, 27, 19)]) (hex.trans rfl) (fun z hz => by
      simp only [tableOf, List.map_cons, List.map_nil, List.mem_cons, List.not_mem_nil, or_false] at hz
      subst hz
      exact Or.inr ⟨(by decide), _, hts _ wc_La_13, hC.1⟩) (by decide) (by decide) (hts _ wc_La_15) (X9.2.2.2.2.use _ (by decide +kernel)) hce hcv hcl ?_
    refine lv_astore (lv' := (5, .ref q9) :: [(0, .ref (A 0)), (1, .int x1), (2, .int x2), (3, .int x3), (4, .ref (A 63))]) hx hb d_La_login_19 hl (by decide) rfl (fun ls hl => ?_)
    refine lv_iconst (v := 2) hx hb d_La_login_21 (by decide) ?_
    exact W.iret hx hb hr (fun t ht hW => ⟨⟨_, (), rfl, rfl, ka_at ht hP⟩, hS.F ht⟩) hS.2.2 d_La_login_22 hlk
  · refine ka_caught (vx_runV (As := [.int x1, .int x2, .int x3]) (rest := [.int 0, .ref (A 63)]) S9 (c_Ke_login_err l hl9 D A (ka_oc A f :: r) _ σ x1 x2 x3 _ _ h) (cwV 3 hts (tg_V wl_La_71 wm_Ke_login we_Ke_login wi_Ke wo_Ke_login) rfl rfl rfl wq_Ke_login ⟨Nat.le_of_ble_eq_true rfl, Nat.le_of_ble_eq_true rfl⟩) (ka_preV X9 hP hD hS 0 rfl rfl) rfl rfl hl.1 rfl (lv_room (Nat.le_of_ble_eq_true rfl)) d_La_login_7 ⟨Nat.le_of_ble_eq_true rfl, Nat.le_of_ble_eq_true rfl⟩) X9 hD hS rfl (fun ce q9 H locs hP hD hS hce hcv hcl => ?_)
    refine vx_catch (name := "java/lang/UnsupportedOperationException") (E := "java/lang/UnsupportedOperationException") hown (tableOf [(0, 12, 15, 13), (0, 12, 19, 15)]) ⟨0, 12, 23, 17⟩ (tableOf [(0, 12, 27, 19)]) (hex.trans rfl) (fun z hz => by
      simp only [tableOf, List.map_cons, List.map_nil, List.mem_cons, List.not_mem_nil, or_false] at hz
      rcases hz with rfl | rfl
      · exact Or.inr ⟨(by decide), _, hts _ wc_La_13, hC.2.1⟩
      · exact Or.inr ⟨(by decide), _, hts _ wc_La_15, hC.2.2.1⟩) (by decide) (by decide) (hts _ wc_La_17) (X9.2.2.2.2.use _ (by decide +kernel)) hce hcv hcl ?_
    refine lv_astore (lv' := (5, .ref q9) :: [(0, .ref (A 0)), (1, .int x1), (2, .int x2), (3, .int x3), (4, .ref (A 63))]) hx hb d_La_login_23 hl (by decide) rfl (fun ls hl => ?_)
    refine lv_iconst (v := 3) hx hb d_La_login_25 (by decide) ?_
    exact W.iret hx hb hr (fun t ht hW => ⟨⟨_, (), rfl, rfl, ka_at ht hP⟩, hS.F ht⟩) hS.2.2 d_La_login_26 hlk
  · refine ka_caught (vx_runV (As := [.int x1, .int x2, .int x3]) (rest := [.int 0, .ref (A 63)]) S9 (c_Ke_login_err l hl9 D A (ka_oc A f :: r) _ σ x1 x2 x3 _ _ h) (cwV 3 hts (tg_V wl_La_71 wm_Ke_login we_Ke_login wi_Ke wo_Ke_login) rfl rfl rfl wq_Ke_login ⟨Nat.le_of_ble_eq_true rfl, Nat.le_of_ble_eq_true rfl⟩) (ka_preV X9 hP hD hS 0 rfl rfl) rfl rfl hl.1 rfl (lv_room (Nat.le_of_ble_eq_true rfl)) d_La_login_7 ⟨Nat.le_of_ble_eq_true rfl, Nat.le_of_ble_eq_true rfl⟩) X9 hD hS rfl (fun ce q9 H locs hP hD hS hce hcv hcl => ?_)
    refine vx_catch (name := "java/lang/IllegalStateException") (E := "java/lang/IllegalStateException") hown (tableOf [(0, 12, 15, 13), (0, 12, 19, 15), (0, 12, 23, 17)]) ⟨0, 12, 27, 19⟩ (tableOf []) (hex.trans rfl) (fun z hz => by
      simp only [tableOf, List.map_cons, List.map_nil, List.mem_cons, List.not_mem_nil, or_false] at hz
      rcases hz with rfl | rfl | rfl
      · exact Or.inr ⟨(by decide), _, hts _ wc_La_13, hC.2.2.2.1⟩
      · exact Or.inr ⟨(by decide), _, hts _ wc_La_15, hC.2.2.2.2.1⟩
      · exact Or.inr ⟨(by decide), _, hts _ wc_La_17, hC.2.2.2.2.2⟩) (by decide) (by decide) (hts _ wc_La_19) (X9.2.2.2.2.use _ (by decide +kernel)) hce hcv hcl ?_
    refine lv_astore (lv' := (5, .ref q9) :: [(0, .ref (A 0)), (1, .int x1), (2, .int x2), (3, .int x3), (4, .ref (A 63))]) hx hb d_La_login_27 hl (by decide) rfl (fun ls hl => ?_)
    refine lv_iconst (v := 4) hx hb d_La_login_29 (by decide) ?_
    exact W.iret hx hb hr (fun t ht hW => ⟨⟨_, (), rfl, rfl, ka_at ht hP⟩, hS.F ht⟩) hS.2.2 d_La_login_30 hlk
set_option maxRecDepth 100000 in
set_option maxHeartbeats 4000000 in
theorem c_La_file_ok (l : Launch) (hl9 : l.stackTraces = false) (D : va_G) (A : Nat → Nat) (r : va_W) (f : Nat → Int64) (sz : Nat) (σ : KS) (x1 x2 x3 x4 : Int32) (v : Int32) (u : KS) (h : f_Ke_file σ x1 x2 x3 x4 = some (.ok v, u)) : Met l y_La_file (Cond.codeWith y_La_file b_La_file 7 (some .int) hh_La_file :: T0) ({ frames := 7, cells := 0, slots := 0, locals := 165 } : Room) (va_Pc [.ref (A 0), .int x1, .int x2, .int x3, .int x4, .ref (A 63)] (ka_Wc D A (GW A σ (ka_oc A f :: r)) sz)) (ka_Ri D 0 (GW A u (ka_oc A (vp_updL f 0 v.toInt64) :: r)) (va_A (GW A σ (ka_oc A f :: r)) sz)) 0 0 (va_A (GW A σ (ka_oc A f :: r)) sz) := by
  refine ka_ofT (own := R_La) (hh := hh_La_file) (fun A9 => ka_Ri D 0 (GW A u (ka_oc A (vp_updL f 0 v.toInt64) :: r)) A9) (by decide) rfl (Nat.le_of_ble_eq_true rfl) ?_
  intro p e s m below meth c A9 ls S9 hr hlk hex hC X9 hP hD hl
  obtain ⟨hx, hb, hml, hown, hts⟩ := id S9
  have hK := X9.2.1
  have hS : va_S A9 s.heap s.heap [] := va_S.rf
  replace hl : lv_has ls 7 [(0, .ref (A 0)), (1, .int x1), (2, .int x2), (3, .int x3), (4, .int x4), (5, .ref (A 63))] := hl
  refine lv_aload hx hb d_La_file_0 (lv_at hl 5 rfl) ?_
  refine lv_iconst (v := 0) hx hb d_La_file_2 (by decide) ?_
  refine lv_aload_n hx hb d_La_file_3 rfl (lv_at hl 0 rfl) ?_
  refine lv_iload_n hx hb d_La_file_4 rfl (lv_at hl 1 rfl) ?_
  refine lv_iload_n hx hb d_La_file_5 rfl (lv_at hl 2 rfl) ?_
  refine lv_iload_n hx hb d_La_file_6 rfl (lv_at hl 3 rfl) ?_
  refine lv_iload hx hb d_La_file_7 (lv_at hl 4 rfl) ?_
  refine ka_i (va_runV (As := [.int x1, .int x2, .int x3, .int x4]) (rest := [.int 0, .ref (A 63)]) S9 (c_Ke_file_ok l hl9 D A (ka_oc A f :: r) _ σ x1 x2 x3 x4 _ _ h) (cwV 4 hts (tg_V wl_La_74 wm_Ke_file we_Ke_file wi_Ke wo_Ke_file) rfl rfl rfl wq_Ke_file ⟨Nat.le_of_ble_eq_true rfl, Nat.le_of_ble_eq_true rfl⟩) (ka_preV X9 hP hD hS 0 rfl rfl) rfl rfl hl.1 rfl (lv_room (Nat.le_of_ble_eq_true rfl)) d_La_file_9 ⟨Nat.le_of_ble_eq_true rfl, Nat.le_of_ble_eq_true rfl⟩) X9 hD hS rfl (fun H locs hP hD hS => ?_)
  refine lv_i2l (v := v.toInt64) hx hb d_La_file_12 rfl ?_
  refine va_last hx hb hK hP hD hS 47 2 rfl rfl (by unfold vp_in; decide) d_La_file_13 (fun H locs hP hD hS => ?_)
  refine lv_goto (tgt := 33) hx hb d_La_file_14 (by decide) ?_
  refine lv_iconst (v := 0) hx hb d_La_file_33 (by decide) ?_
  exact W.iret hx hb hr (fun t ht hW => ⟨⟨_, (), rfl, rfl, ka_at ht hP⟩, hS.F ht⟩) hS.2.2 d_La_file_34 hlk
set_option maxRecDepth 100000 in
set_option maxHeartbeats 4000000 in
theorem c_La_file_err (l : Launch) (hl9 : l.stackTraces = false) (D : va_G) (A : Nat → Nat) (r : va_W) (f : Nat → Int64) (sz : Nat) (σ : KS) (x1 x2 x3 x4 : Int32) (k : Nat) (hk : k = 1 ∨ k = 2 ∨ k = 3 ∨ k = 4) (u : KS) (h : f_Ke_file σ x1 x2 x3 x4 = some (.error k, u)) : Met l y_La_file (Cond.codeWith y_La_file b_La_file 7 (some .int) hh_La_file :: T0) ({ frames := 11, cells := 1, slots := 6, locals := 202 } : Room) (va_Pc [.ref (A 0), .int x1, .int x2, .int x3, .int x4, .ref (A 63)] (ka_Wc D A (GW A σ (ka_oc A f :: r)) sz)) (ka_Ri D (nI k) (GW A u (ka_oc A f :: r)) (va_A (GW A σ (ka_oc A f :: r)) sz)) 1 6 (va_A (GW A σ (ka_oc A f :: r)) sz) := by
  refine ka_ofT (own := R_La) (hh := hh_La_file) (fun A9 => ka_Ri D (nI k) (GW A u (ka_oc A f :: r)) A9) (by decide) rfl (Nat.le_of_ble_eq_true rfl) ?_
  intro p e s m below meth c A9 ls S9 hr hlk hex hC X9 hP hD hl
  obtain ⟨hx, hb, hml, hown, hts⟩ := id S9
  have hK := X9.2.1
  have hS : va_S A9 s.heap s.heap [] := va_S.rf
  replace hl : lv_has ls 7 [(0, .ref (A 0)), (1, .int x1), (2, .int x2), (3, .int x3), (4, .int x4), (5, .ref (A 63))] := hl
  refine lv_aload hx hb d_La_file_0 (lv_at hl 5 rfl) ?_
  refine lv_iconst (v := 0) hx hb d_La_file_2 (by decide) ?_
  refine lv_aload_n hx hb d_La_file_3 rfl (lv_at hl 0 rfl) ?_
  refine lv_iload_n hx hb d_La_file_4 rfl (lv_at hl 1 rfl) ?_
  refine lv_iload_n hx hb d_La_file_5 rfl (lv_at hl 2 rfl) ?_
  refine lv_iload_n hx hb d_La_file_6 rfl (lv_at hl 3 rfl) ?_
  refine lv_iload hx hb d_La_file_7 (lv_at hl 4 rfl) ?_
  rcases hk with rfl | rfl | rfl | rfl
  · refine ka_caught (vx_runV (As := [.int x1, .int x2, .int x3, .int x4]) (rest := [.int 0, .ref (A 63)]) S9 (c_Ke_file_err l hl9 D A (ka_oc A f :: r) _ σ x1 x2 x3 x4 _ _ h) (cwV 4 hts (tg_V wl_La_74 wm_Ke_file we_Ke_file wi_Ke wo_Ke_file) rfl rfl rfl wq_Ke_file ⟨Nat.le_of_ble_eq_true rfl, Nat.le_of_ble_eq_true rfl⟩) (ka_preV X9 hP hD hS 0 rfl rfl) rfl rfl hl.1 rfl (lv_room (Nat.le_of_ble_eq_true rfl)) d_La_file_9 ⟨Nat.le_of_ble_eq_true rfl, Nat.le_of_ble_eq_true rfl⟩) X9 hD hS rfl (fun ce q9 H locs hP hD hS hce hcv hcl => ?_)
    refine vx_catch (name := "java/lang/IllegalArgumentException") (E := "java/lang/IllegalArgumentException") hown (tableOf []) ⟨0, 14, 17, 13⟩ (tableOf [(0, 14, 21, 15), (0, 14, 25, 17), (0, 14, 29, 19)]) (hex.trans rfl) (fun z hz => by cases hz) (by decide) (by decide) (hts _ wc_La_13) (X9.2.2.2.2.use _ (by decide +kernel)) hce hcv hcl ?_
    refine lv_astore (lv' := (6, .ref q9) :: [(0, .ref (A 0)), (1, .int x1), (2, .int x2), (3, .int x3), (4, .int x4), (5, .ref (A 63))]) hx hb d_La_file_17 hl (by decide) rfl (fun ls hl => ?_)
    refine lv_iconst (v := 1) hx hb d_La_file_19 (by decide) ?_
    exact W.iret hx hb hr (fun t ht hW => ⟨⟨_, (), rfl, rfl, ka_at ht hP⟩, hS.F ht⟩) hS.2.2 d_La_file_20 hlk
  · refine ka_caught (vx_runV (As := [.int x1, .int x2, .int x3, .int x4]) (rest := [.int 0, .ref (A 63)]) S9 (c_Ke_file_err l hl9 D A (ka_oc A f :: r) _ σ x1 x2 x3 x4 _ _ h) (cwV 4 hts (tg_V wl_La_74 wm_Ke_file we_Ke_file wi_Ke wo_Ke_file) rfl rfl rfl wq_Ke_file ⟨Nat.le_of_ble_eq_true rfl, Nat.le_of_ble_eq_true rfl⟩) (ka_preV X9 hP hD hS 0 rfl rfl) rfl rfl hl.1 rfl (lv_room (Nat.le_of_ble_eq_true rfl)) d_La_file_9 ⟨Nat.le_of_ble_eq_true rfl, Nat.le_of_ble_eq_true rfl⟩) X9 hD hS rfl (fun ce q9 H locs hP hD hS hce hcv hcl => ?_)
    refine vx_catch (name := "java/util/NoSuchElementException") (E := "java/util/NoSuchElementException") hown (tableOf [(0, 14, 17, 13)]) ⟨0, 14, 21, 15⟩ (tableOf [(0, 14, 25, 17), (0, 14, 29, 19)]) (hex.trans rfl) (fun z hz => by
      simp only [tableOf, List.map_cons, List.map_nil, List.mem_cons, List.not_mem_nil, or_false] at hz
      subst hz
      exact Or.inr ⟨(by decide), _, hts _ wc_La_13, hC.1⟩) (by decide) (by decide) (hts _ wc_La_15) (X9.2.2.2.2.use _ (by decide +kernel)) hce hcv hcl ?_
    refine lv_astore (lv' := (6, .ref q9) :: [(0, .ref (A 0)), (1, .int x1), (2, .int x2), (3, .int x3), (4, .int x4), (5, .ref (A 63))]) hx hb d_La_file_21 hl (by decide) rfl (fun ls hl => ?_)
    refine lv_iconst (v := 2) hx hb d_La_file_23 (by decide) ?_
    exact W.iret hx hb hr (fun t ht hW => ⟨⟨_, (), rfl, rfl, ka_at ht hP⟩, hS.F ht⟩) hS.2.2 d_La_file_24 hlk
  · refine ka_caught (vx_runV (As := [.int x1, .int x2, .int x3, .int x4]) (rest := [.int 0, .ref (A 63)]) S9 (c_Ke_file_err l hl9 D A (ka_oc A f :: r) _ σ x1 x2 x3 x4 _ _ h) (cwV 4 hts (tg_V wl_La_74 wm_Ke_file we_Ke_file wi_Ke wo_Ke_file) rfl rfl rfl wq_Ke_file ⟨Nat.le_of_ble_eq_true rfl, Nat.le_of_ble_eq_true rfl⟩) (ka_preV X9 hP hD hS 0 rfl rfl) rfl rfl hl.1 rfl (lv_room (Nat.le_of_ble_eq_true rfl)) d_La_file_9 ⟨Nat.le_of_ble_eq_true rfl, Nat.le_of_ble_eq_true rfl⟩) X9 hD hS rfl (fun ce q9 H locs hP hD hS hce hcv hcl => ?_)
    refine vx_catch (name := "java/lang/UnsupportedOperationException") (E := "java/lang/UnsupportedOperationException") hown (tableOf [(0, 14, 17, 13), (0, 14, 21, 15)]) ⟨0, 14, 25, 17⟩ (tableOf [(0, 14, 29, 19)]) (hex.trans rfl) (fun z hz => by
      simp only [tableOf, List.map_cons, List.map_nil, List.mem_cons, List.not_mem_nil, or_false] at hz
      rcases hz with rfl | rfl
      · exact Or.inr ⟨(by decide), _, hts _ wc_La_13, hC.2.1⟩
      · exact Or.inr ⟨(by decide), _, hts _ wc_La_15, hC.2.2.1⟩) (by decide) (by decide) (hts _ wc_La_17) (X9.2.2.2.2.use _ (by decide +kernel)) hce hcv hcl ?_
    refine lv_astore (lv' := (6, .ref q9) :: [(0, .ref (A 0)), (1, .int x1), (2, .int x2), (3, .int x3), (4, .int x4), (5, .ref (A 63))]) hx hb d_La_file_25 hl (by decide) rfl (fun ls hl => ?_)
    refine lv_iconst (v := 3) hx hb d_La_file_27 (by decide) ?_
    exact W.iret hx hb hr (fun t ht hW => ⟨⟨_, (), rfl, rfl, ka_at ht hP⟩, hS.F ht⟩) hS.2.2 d_La_file_28 hlk
  · refine ka_caught (vx_runV (As := [.int x1, .int x2, .int x3, .int x4]) (rest := [.int 0, .ref (A 63)]) S9 (c_Ke_file_err l hl9 D A (ka_oc A f :: r) _ σ x1 x2 x3 x4 _ _ h) (cwV 4 hts (tg_V wl_La_74 wm_Ke_file we_Ke_file wi_Ke wo_Ke_file) rfl rfl rfl wq_Ke_file ⟨Nat.le_of_ble_eq_true rfl, Nat.le_of_ble_eq_true rfl⟩) (ka_preV X9 hP hD hS 0 rfl rfl) rfl rfl hl.1 rfl (lv_room (Nat.le_of_ble_eq_true rfl)) d_La_file_9 ⟨Nat.le_of_ble_eq_true rfl, Nat.le_of_ble_eq_true rfl⟩) X9 hD hS rfl (fun ce q9 H locs hP hD hS hce hcv hcl => ?_)
    refine vx_catch (name := "java/lang/IllegalStateException") (E := "java/lang/IllegalStateException") hown (tableOf [(0, 14, 17, 13), (0, 14, 21, 15), (0, 14, 25, 17)]) ⟨0, 14, 29, 19⟩ (tableOf []) (hex.trans rfl) (fun z hz => by
      simp only [tableOf, List.map_cons, List.map_nil, List.mem_cons, List.not_mem_nil, or_false] at hz
      rcases hz with rfl | rfl | rfl
      · exact Or.inr ⟨(by decide), _, hts _ wc_La_13, hC.2.2.2.1⟩
      · exact Or.inr ⟨(by decide), _, hts _ wc_La_15, hC.2.2.2.2.1⟩
      · exact Or.inr ⟨(by decide), _, hts _ wc_La_17, hC.2.2.2.2.2⟩) (by decide) (by decide) (hts _ wc_La_19) (X9.2.2.2.2.use _ (by decide +kernel)) hce hcv hcl ?_
    refine lv_astore (lv' := (6, .ref q9) :: [(0, .ref (A 0)), (1, .int x1), (2, .int x2), (3, .int x3), (4, .int x4), (5, .ref (A 63))]) hx hb d_La_file_29 hl (by decide) rfl (fun ls hl => ?_)
    refine lv_iconst (v := 4) hx hb d_La_file_31 (by decide) ?_
    exact W.iret hx hb hr (fun t ht hW => ⟨⟨_, (), rfl, rfl, ka_at ht hP⟩, hS.F ht⟩) hS.2.2 d_La_file_32 hlk
set_option maxRecDepth 100000 in
set_option maxHeartbeats 4000000 in
theorem c_La_access_ok (l : Launch) (hl9 : l.stackTraces = false) (D : va_G) (A : Nat → Nat) (r : va_W) (f : Nat → Int64) (sz : Nat) (σ : KS) (x1 x2 x3 x4 x5 x6 : Int32) (v : Int32) (u : KS) (h : f_Ke_access σ x1 x2 x3 x4 x5 x6 = some (.ok v, u)) : Met l y_La_access (Cond.codeWith y_La_access b_La_access 9 (some .int) hh_La_access :: T0) ({ frames := 6, cells := 0, slots := 0, locals := 143 } : Room) (va_Pc [.ref (A 0), .int x1, .int x2, .int x3, .int x4, .int x5, .int x6, .ref (A 63)] (ka_Wc D A (GW A σ (ka_oc A f :: r)) sz)) (ka_Ri D 0 (GW A u (ka_oc A (vp_updL f 0 v.toInt64) :: r)) (va_A (GW A σ (ka_oc A f :: r)) sz)) 0 0 (va_A (GW A σ (ka_oc A f :: r)) sz) := by
  refine ka_ofT (own := R_La) (hh := hh_La_access) (fun A9 => ka_Ri D 0 (GW A u (ka_oc A (vp_updL f 0 v.toInt64) :: r)) A9) (by decide) rfl (Nat.le_of_ble_eq_true rfl) ?_
  intro p e s m below meth c A9 ls S9 hr hlk hex hC X9 hP hD hl
  obtain ⟨hx, hb, hml, hown, hts⟩ := id S9
  have hK := X9.2.1
  have hS : va_S A9 s.heap s.heap [] := va_S.rf
  replace hl : lv_has ls 9 [(0, .ref (A 0)), (1, .int x1), (2, .int x2), (3, .int x3), (4, .int x4), (5, .int x5), (6, .int x6), (7, .ref (A 63))] := hl
  refine lv_aload hx hb d_La_access_0 (lv_at hl 7 rfl) ?_
  refine lv_iconst (v := 0) hx hb d_La_access_2 (by decide) ?_
  refine lv_aload_n hx hb d_La_access_3 rfl (lv_at hl 0 rfl) ?_
  refine lv_iload_n hx hb d_La_access_4 rfl (lv_at hl 1 rfl) ?_
  refine lv_iload_n hx hb d_La_access_5 rfl (lv_at hl 2 rfl) ?_
  refine lv_iload_n hx hb d_La_access_6 rfl (lv_at hl 3 rfl) ?_
  refine lv_iload hx hb d_La_access_7 (lv_at hl 4 rfl) ?_
  refine lv_iload hx hb d_La_access_9 (lv_at hl 5 rfl) ?_
  refine lv_iload hx hb d_La_access_11 (lv_at hl 6 rfl) ?_
  refine ka_i (va_runV (As := [.int x1, .int x2, .int x3, .int x4, .int x5, .int x6]) (rest := [.int 0, .ref (A 63)]) S9 (c_Ke_access_ok l hl9 D A (ka_oc A f :: r) _ σ x1 x2 x3 x4 x5 x6 _ _ h) (cwV 6 hts (tg_V wl_La_77 wm_Ke_access we_Ke_access wi_Ke wo_Ke_access) rfl rfl rfl wq_Ke_access ⟨Nat.le_of_ble_eq_true rfl, Nat.le_of_ble_eq_true rfl⟩) (ka_preV X9 hP hD hS 0 rfl rfl) rfl rfl hl.1 rfl (lv_room (Nat.le_of_ble_eq_true rfl)) d_La_access_13 ⟨Nat.le_of_ble_eq_true rfl, Nat.le_of_ble_eq_true rfl⟩) X9 hD hS rfl (fun H locs hP hD hS => ?_)
  refine lv_i2l (v := v.toInt64) hx hb d_La_access_16 rfl ?_
  refine va_last hx hb hK hP hD hS 47 2 rfl rfl (by unfold vp_in; decide) d_La_access_17 (fun H locs hP hD hS => ?_)
  refine lv_goto (tgt := 37) hx hb d_La_access_18 (by decide) ?_
  refine lv_iconst (v := 0) hx hb d_La_access_37 (by decide) ?_
  exact W.iret hx hb hr (fun t ht hW => ⟨⟨_, (), rfl, rfl, ka_at ht hP⟩, hS.F ht⟩) hS.2.2 d_La_access_38 hlk
set_option maxRecDepth 100000 in
set_option maxHeartbeats 4000000 in
theorem c_La_access_err (l : Launch) (hl9 : l.stackTraces = false) (D : va_G) (A : Nat → Nat) (r : va_W) (f : Nat → Int64) (sz : Nat) (σ : KS) (x1 x2 x3 x4 x5 x6 : Int32) (k : Nat) (hk : k = 1 ∨ k = 2 ∨ k = 3 ∨ k = 4) (u : KS) (h : f_Ke_access σ x1 x2 x3 x4 x5 x6 = some (.error k, u)) : Met l y_La_access (Cond.codeWith y_La_access b_La_access 9 (some .int) hh_La_access :: T0) ({ frames := 11, cells := 1, slots := 6, locals := 202 } : Room) (va_Pc [.ref (A 0), .int x1, .int x2, .int x3, .int x4, .int x5, .int x6, .ref (A 63)] (ka_Wc D A (GW A σ (ka_oc A f :: r)) sz)) (ka_Ri D (nI k) (GW A u (ka_oc A f :: r)) (va_A (GW A σ (ka_oc A f :: r)) sz)) 1 6 (va_A (GW A σ (ka_oc A f :: r)) sz) := by
  refine ka_ofT (own := R_La) (hh := hh_La_access) (fun A9 => ka_Ri D (nI k) (GW A u (ka_oc A f :: r)) A9) (by decide) rfl (Nat.le_of_ble_eq_true rfl) ?_
  intro p e s m below meth c A9 ls S9 hr hlk hex hC X9 hP hD hl
  obtain ⟨hx, hb, hml, hown, hts⟩ := id S9
  have hK := X9.2.1
  have hS : va_S A9 s.heap s.heap [] := va_S.rf
  replace hl : lv_has ls 9 [(0, .ref (A 0)), (1, .int x1), (2, .int x2), (3, .int x3), (4, .int x4), (5, .int x5), (6, .int x6), (7, .ref (A 63))] := hl
  refine lv_aload hx hb d_La_access_0 (lv_at hl 7 rfl) ?_
  refine lv_iconst (v := 0) hx hb d_La_access_2 (by decide) ?_
  refine lv_aload_n hx hb d_La_access_3 rfl (lv_at hl 0 rfl) ?_
  refine lv_iload_n hx hb d_La_access_4 rfl (lv_at hl 1 rfl) ?_
  refine lv_iload_n hx hb d_La_access_5 rfl (lv_at hl 2 rfl) ?_
  refine lv_iload_n hx hb d_La_access_6 rfl (lv_at hl 3 rfl) ?_
  refine lv_iload hx hb d_La_access_7 (lv_at hl 4 rfl) ?_
  refine lv_iload hx hb d_La_access_9 (lv_at hl 5 rfl) ?_
  refine lv_iload hx hb d_La_access_11 (lv_at hl 6 rfl) ?_
  rcases hk with rfl | rfl | rfl | rfl
  · refine ka_caught (vx_runV (As := [.int x1, .int x2, .int x3, .int x4, .int x5, .int x6]) (rest := [.int 0, .ref (A 63)]) S9 (c_Ke_access_err l hl9 D A (ka_oc A f :: r) _ σ x1 x2 x3 x4 x5 x6 _ _ h) (cwV 6 hts (tg_V wl_La_77 wm_Ke_access we_Ke_access wi_Ke wo_Ke_access) rfl rfl rfl wq_Ke_access ⟨Nat.le_of_ble_eq_true rfl, Nat.le_of_ble_eq_true rfl⟩) (ka_preV X9 hP hD hS 0 rfl rfl) rfl rfl hl.1 rfl (lv_room (Nat.le_of_ble_eq_true rfl)) d_La_access_13 ⟨Nat.le_of_ble_eq_true rfl, Nat.le_of_ble_eq_true rfl⟩) X9 hD hS rfl (fun ce q9 H locs hP hD hS hce hcv hcl => ?_)
    refine vx_catch (name := "java/lang/IllegalArgumentException") (E := "java/lang/IllegalArgumentException") hown (tableOf []) ⟨0, 18, 21, 13⟩ (tableOf [(0, 18, 25, 15), (0, 18, 29, 17), (0, 18, 33, 19)]) (hex.trans rfl) (fun z hz => by cases hz) (by decide) (by decide) (hts _ wc_La_13) (X9.2.2.2.2.use _ (by decide +kernel)) hce hcv hcl ?_
    refine lv_astore (lv' := (8, .ref q9) :: [(0, .ref (A 0)), (1, .int x1), (2, .int x2), (3, .int x3), (4, .int x4), (5, .int x5), (6, .int x6), (7, .ref (A 63))]) hx hb d_La_access_21 hl (by decide) rfl (fun ls hl => ?_)
    refine lv_iconst (v := 1) hx hb d_La_access_23 (by decide) ?_
    exact W.iret hx hb hr (fun t ht hW => ⟨⟨_, (), rfl, rfl, ka_at ht hP⟩, hS.F ht⟩) hS.2.2 d_La_access_24 hlk
  · refine ka_caught (vx_runV (As := [.int x1, .int x2, .int x3, .int x4, .int x5, .int x6]) (rest := [.int 0, .ref (A 63)]) S9 (c_Ke_access_err l hl9 D A (ka_oc A f :: r) _ σ x1 x2 x3 x4 x5 x6 _ _ h) (cwV 6 hts (tg_V wl_La_77 wm_Ke_access we_Ke_access wi_Ke wo_Ke_access) rfl rfl rfl wq_Ke_access ⟨Nat.le_of_ble_eq_true rfl, Nat.le_of_ble_eq_true rfl⟩) (ka_preV X9 hP hD hS 0 rfl rfl) rfl rfl hl.1 rfl (lv_room (Nat.le_of_ble_eq_true rfl)) d_La_access_13 ⟨Nat.le_of_ble_eq_true rfl, Nat.le_of_ble_eq_true rfl⟩) X9 hD hS rfl (fun ce q9 H locs hP hD hS hce hcv hcl => ?_)
    refine vx_catch (name := "java/util/NoSuchElementException") (E := "java/util/NoSuchElementException") hown (tableOf [(0, 18, 21, 13)]) ⟨0, 18, 25, 15⟩ (tableOf [(0, 18, 29, 17), (0, 18, 33, 19)]) (hex.trans rfl) (fun z hz => by
      simp only [tableOf, List.map_cons, List.map_nil, List.mem_cons, List.not_mem_nil, or_false] at hz
      subst hz
      exact Or.inr ⟨(by decide), _, hts _ wc_La_13, hC.1⟩) (by decide) (by decide) (hts _ wc_La_15) (X9.2.2.2.2.use _ (by decide +kernel)) hce hcv hcl ?_
    refine lv_astore (lv' := (8, .ref q9) :: [(0, .ref (A 0)), (1, .int x1), (2, .int x2), (3, .int x3), (4, .int x4), (5, .int x5), (6, .int x6), (7, .ref (A 63))]) hx hb d_La_access_25 hl (by decide) rfl (fun ls hl => ?_)
    refine lv_iconst (v := 2) hx hb d_La_access_27 (by decide) ?_
    exact W.iret hx hb hr (fun t ht hW => ⟨⟨_, (), rfl, rfl, ka_at ht hP⟩, hS.F ht⟩) hS.2.2 d_La_access_28 hlk
  · refine ka_caught (vx_runV (As := [.int x1, .int x2, .int x3, .int x4, .int x5, .int x6]) (rest := [.int 0, .ref (A 63)]) S9 (c_Ke_access_err l hl9 D A (ka_oc A f :: r) _ σ x1 x2 x3 x4 x5 x6 _ _ h) (cwV 6 hts (tg_V wl_La_77 wm_Ke_access we_Ke_access wi_Ke wo_Ke_access) rfl rfl rfl wq_Ke_access ⟨Nat.le_of_ble_eq_true rfl, Nat.le_of_ble_eq_true rfl⟩) (ka_preV X9 hP hD hS 0 rfl rfl) rfl rfl hl.1 rfl (lv_room (Nat.le_of_ble_eq_true rfl)) d_La_access_13 ⟨Nat.le_of_ble_eq_true rfl, Nat.le_of_ble_eq_true rfl⟩) X9 hD hS rfl (fun ce q9 H locs hP hD hS hce hcv hcl => ?_)
    refine vx_catch (name := "java/lang/UnsupportedOperationException") (E := "java/lang/UnsupportedOperationException") hown (tableOf [(0, 18, 21, 13), (0, 18, 25, 15)]) ⟨0, 18, 29, 17⟩ (tableOf [(0, 18, 33, 19)]) (hex.trans rfl) (fun z hz => by
      simp only [tableOf, List.map_cons, List.map_nil, List.mem_cons, List.not_mem_nil, or_false] at hz
      rcases hz with rfl | rfl
      · exact Or.inr ⟨(by decide), _, hts _ wc_La_13, hC.2.1⟩
      · exact Or.inr ⟨(by decide), _, hts _ wc_La_15, hC.2.2.1⟩) (by decide) (by decide) (hts _ wc_La_17) (X9.2.2.2.2.use _ (by decide +kernel)) hce hcv hcl ?_
    refine lv_astore (lv' := (8, .ref q9) :: [(0, .ref (A 0)), (1, .int x1), (2, .int x2), (3, .int x3), (4, .int x4), (5, .int x5), (6, .int x6), (7, .ref (A 63))]) hx hb d_La_access_29 hl (by decide) rfl (fun ls hl => ?_)
    refine lv_iconst (v := 3) hx hb d_La_access_31 (by decide) ?_
    exact W.iret hx hb hr (fun t ht hW => ⟨⟨_, (), rfl, rfl, ka_at ht hP⟩, hS.F ht⟩) hS.2.2 d_La_access_32 hlk
  · refine ka_caught (vx_runV (As := [.int x1, .int x2, .int x3, .int x4, .int x5, .int x6]) (rest := [.int 0, .ref (A 63)]) S9 (c_Ke_access_err l hl9 D A (ka_oc A f :: r) _ σ x1 x2 x3 x4 x5 x6 _ _ h) (cwV 6 hts (tg_V wl_La_77 wm_Ke_access we_Ke_access wi_Ke wo_Ke_access) rfl rfl rfl wq_Ke_access ⟨Nat.le_of_ble_eq_true rfl, Nat.le_of_ble_eq_true rfl⟩) (ka_preV X9 hP hD hS 0 rfl rfl) rfl rfl hl.1 rfl (lv_room (Nat.le_of_ble_eq_true rfl)) d_La_access_13 ⟨Nat.le_of_ble_eq_true rfl, Nat.le_of_ble_eq_true rfl⟩) X9 hD hS rfl (fun ce q9 H locs hP hD hS hce hcv hcl => ?_)
    refine vx_catch (name := "java/lang/IllegalStateException") (E := "java/lang/IllegalStateException") hown (tableOf [(0, 18, 21, 13), (0, 18, 25, 15), (0, 18, 29, 17)]) ⟨0, 18, 33, 19⟩ (tableOf []) (hex.trans rfl) (fun z hz => by
      simp only [tableOf, List.map_cons, List.map_nil, List.mem_cons, List.not_mem_nil, or_false] at hz
      rcases hz with rfl | rfl | rfl
      · exact Or.inr ⟨(by decide), _, hts _ wc_La_13, hC.2.2.2.1⟩
      · exact Or.inr ⟨(by decide), _, hts _ wc_La_15, hC.2.2.2.2.1⟩
      · exact Or.inr ⟨(by decide), _, hts _ wc_La_17, hC.2.2.2.2.2⟩) (by decide) (by decide) (hts _ wc_La_19) (X9.2.2.2.2.use _ (by decide +kernel)) hce hcv hcl ?_
    refine lv_astore (lv' := (8, .ref q9) :: [(0, .ref (A 0)), (1, .int x1), (2, .int x2), (3, .int x3), (4, .int x4), (5, .int x5), (6, .int x6), (7, .ref (A 63))]) hx hb d_La_access_33 hl (by decide) rfl (fun ls hl => ?_)
    refine lv_iconst (v := 4) hx hb d_La_access_35 (by decide) ?_
    exact W.iret hx hb hr (fun t ht hW => ⟨⟨_, (), rfl, rfl, ka_at ht hP⟩, hS.F ht⟩) hS.2.2 d_La_access_36 hlk
set_option maxRecDepth 100000 in
set_option maxHeartbeats 4000000 in
theorem c_La_object_ok (l : Launch) (hl9 : l.stackTraces = false) (D : va_G) (A : Nat → Nat) (r : va_W) (f : Nat → Int64) (sz : Nat) (σ : KS) (x1 x2 : Int32) (v : Int32) (u : KS) (h : f_Ke_object σ x1 x2 = some (.ok v, u)) : Met l y_La_object (Cond.codeWith y_La_object b_La_object 5 (some .int) hh_La_object :: T0) ({ frames := 4, cells := 0, slots := 0, locals := 88 } : Room) (va_Pc [.ref (A 0), .int x1, .int x2, .ref (A 63)] (ka_Wc D A (GW A σ (ka_oc A f :: r)) sz)) (ka_Ri D 0 (GW A u (ka_oc A (vp_updL f 0 v.toInt64) :: r)) (va_A (GW A σ (ka_oc A f :: r)) sz)) 0 0 (va_A (GW A σ (ka_oc A f :: r)) sz) := by
  refine ka_ofT (own := R_La) (hh := hh_La_object) (fun A9 => ka_Ri D 0 (GW A u (ka_oc A (vp_updL f 0 v.toInt64) :: r)) A9) (by decide) rfl (Nat.le_of_ble_eq_true rfl) ?_
  intro p e s m below meth c A9 ls S9 hr hlk hex hC X9 hP hD hl
  obtain ⟨hx, hb, hml, hown, hts⟩ := id S9
  have hK := X9.2.1
  have hS : va_S A9 s.heap s.heap [] := va_S.rf
  replace hl : lv_has ls 5 [(0, .ref (A 0)), (1, .int x1), (2, .int x2), (3, .ref (A 63))] := hl
  refine lv_aload_n hx hb d_La_object_0 rfl (lv_at hl 3 rfl) ?_
  refine lv_iconst (v := 0) hx hb d_La_object_1 (by decide) ?_
  refine lv_aload_n hx hb d_La_object_2 rfl (lv_at hl 0 rfl) ?_
  refine lv_iload_n hx hb d_La_object_3 rfl (lv_at hl 1 rfl) ?_
  refine lv_iload_n hx hb d_La_object_4 rfl (lv_at hl 2 rfl) ?_
  refine ka_i (va_runV (As := [.int x1, .int x2]) (rest := [.int 0, .ref (A 63)]) S9 (c_Ke_object_ok l hl9 D A (ka_oc A f :: r) _ σ x1 x2 _ _ h) (cwV 2 hts (tg_V wl_La_81 wm_Ke_object we_Ke_object wi_Ke wo_Ke_object) rfl rfl rfl wq_Ke_object ⟨Nat.le_of_ble_eq_true rfl, Nat.le_of_ble_eq_true rfl⟩) (ka_preV X9 hP hD hS 0 rfl rfl) rfl rfl hl.1 rfl (lv_room (Nat.le_of_ble_eq_true rfl)) d_La_object_5 ⟨Nat.le_of_ble_eq_true rfl, Nat.le_of_ble_eq_true rfl⟩) X9 hD hS rfl (fun H locs hP hD hS => ?_)
  refine lv_i2l (v := v.toInt64) hx hb d_La_object_8 rfl ?_
  refine va_last hx hb hK hP hD hS 47 2 rfl rfl (by unfold vp_in; decide) d_La_object_9 (fun H locs hP hD hS => ?_)
  refine lv_goto (tgt := 29) hx hb d_La_object_10 (by decide) ?_
  refine lv_iconst (v := 0) hx hb d_La_object_29 (by decide) ?_
  exact W.iret hx hb hr (fun t ht hW => ⟨⟨_, (), rfl, rfl, ka_at ht hP⟩, hS.F ht⟩) hS.2.2 d_La_object_30 hlk
set_option maxRecDepth 100000 in
set_option maxHeartbeats 4000000 in
theorem c_La_object_err (l : Launch) (hl9 : l.stackTraces = false) (D : va_G) (A : Nat → Nat) (r : va_W) (f : Nat → Int64) (sz : Nat) (σ : KS) (x1 x2 : Int32) (k : Nat) (hk : k = 1 ∨ k = 2 ∨ k = 3 ∨ k = 4) (u : KS) (h : f_Ke_object σ x1 x2 = some (.error k, u)) : Met l y_La_object (Cond.codeWith y_La_object b_La_object 5 (some .int) hh_La_object :: T0) ({ frames := 8, cells := 1, slots := 6, locals := 123 } : Room) (va_Pc [.ref (A 0), .int x1, .int x2, .ref (A 63)] (ka_Wc D A (GW A σ (ka_oc A f :: r)) sz)) (ka_Ri D (nI k) (GW A u (ka_oc A f :: r)) (va_A (GW A σ (ka_oc A f :: r)) sz)) 1 6 (va_A (GW A σ (ka_oc A f :: r)) sz) := by
  refine ka_ofT (own := R_La) (hh := hh_La_object) (fun A9 => ka_Ri D (nI k) (GW A u (ka_oc A f :: r)) A9) (by decide) rfl (Nat.le_of_ble_eq_true rfl) ?_
  intro p e s m below meth c A9 ls S9 hr hlk hex hC X9 hP hD hl
  obtain ⟨hx, hb, hml, hown, hts⟩ := id S9
  have hK := X9.2.1
  have hS : va_S A9 s.heap s.heap [] := va_S.rf
  replace hl : lv_has ls 5 [(0, .ref (A 0)), (1, .int x1), (2, .int x2), (3, .ref (A 63))] := hl
  refine lv_aload_n hx hb d_La_object_0 rfl (lv_at hl 3 rfl) ?_
  refine lv_iconst (v := 0) hx hb d_La_object_1 (by decide) ?_
  refine lv_aload_n hx hb d_La_object_2 rfl (lv_at hl 0 rfl) ?_
  refine lv_iload_n hx hb d_La_object_3 rfl (lv_at hl 1 rfl) ?_
  refine lv_iload_n hx hb d_La_object_4 rfl (lv_at hl 2 rfl) ?_
  rcases hk with rfl | rfl | rfl | rfl
  · refine ka_caught (vx_runV (As := [.int x1, .int x2]) (rest := [.int 0, .ref (A 63)]) S9 (c_Ke_object_err l hl9 D A (ka_oc A f :: r) _ σ x1 x2 _ _ h) (cwV 2 hts (tg_V wl_La_81 wm_Ke_object we_Ke_object wi_Ke wo_Ke_object) rfl rfl rfl wq_Ke_object ⟨Nat.le_of_ble_eq_true rfl, Nat.le_of_ble_eq_true rfl⟩) (ka_preV X9 hP hD hS 0 rfl rfl) rfl rfl hl.1 rfl (lv_room (Nat.le_of_ble_eq_true rfl)) d_La_object_5 ⟨Nat.le_of_ble_eq_true rfl, Nat.le_of_ble_eq_true rfl⟩) X9 hD hS rfl (fun ce q9 H locs hP hD hS hce hcv hcl => ?_)
    refine vx_catch (name := "java/lang/IllegalArgumentException") (E := "java/lang/IllegalArgumentException") hown (tableOf []) ⟨0, 10, 13, 13⟩ (tableOf [(0, 10, 17, 15), (0, 10, 21, 17), (0, 10, 25, 19)]) (hex.trans rfl) (fun z hz => by cases hz) (by decide) (by decide) (hts _ wc_La_13) (X9.2.2.2.2.use _ (by decide +kernel)) hce hcv hcl ?_
    refine lv_astore (lv' := (4, .ref q9) :: [(0, .ref (A 0)), (1, .int x1), (2, .int x2), (3, .ref (A 63))]) hx hb d_La_object_13 hl (by decide) rfl (fun ls hl => ?_)
    refine lv_iconst (v := 1) hx hb d_La_object_15 (by decide) ?_
    exact W.iret hx hb hr (fun t ht hW => ⟨⟨_, (), rfl, rfl, ka_at ht hP⟩, hS.F ht⟩) hS.2.2 d_La_object_16 hlk
  · refine ka_caught (vx_runV (As := [.int x1, .int x2]) (rest := [.int 0, .ref (A 63)]) S9 (c_Ke_object_err l hl9 D A (ka_oc A f :: r) _ σ x1 x2 _ _ h) (cwV 2 hts (tg_V wl_La_81 wm_Ke_object we_Ke_object wi_Ke wo_Ke_object) rfl rfl rfl wq_Ke_object ⟨Nat.le_of_ble_eq_true rfl, Nat.le_of_ble_eq_true rfl⟩) (ka_preV X9 hP hD hS 0 rfl rfl) rfl rfl hl.1 rfl (lv_room (Nat.le_of_ble_eq_true rfl)) d_La_object_5 ⟨Nat.le_of_ble_eq_true rfl, Nat.le_of_ble_eq_true rfl⟩) X9 hD hS rfl (fun ce q9 H locs hP hD hS hce hcv hcl => ?_)
    refine vx_catch (name := "java/util/NoSuchElementException") (E := "java/util/NoSuchElementException") hown (tableOf [(0, 10, 13, 13)]) ⟨0, 10, 17, 15⟩ (tableOf [(0, 10, 21, 17), (0, 10, 25, 19)]) (hex.trans rfl) (fun z hz => by
      simp only [tableOf, List.map_cons, List.map_nil, List.mem_cons, List.not_mem_nil, or_false] at hz
      subst hz
      exact Or.inr ⟨(by decide), _, hts _ wc_La_13, hC.1⟩) (by decide) (by decide) (hts _ wc_La_15) (X9.2.2.2.2.use _ (by decide +kernel)) hce hcv hcl ?_
    refine lv_astore (lv' := (4, .ref q9) :: [(0, .ref (A 0)), (1, .int x1), (2, .int x2), (3, .ref (A 63))]) hx hb d_La_object_17 hl (by decide) rfl (fun ls hl => ?_)
    refine lv_iconst (v := 2) hx hb d_La_object_19 (by decide) ?_
    exact W.iret hx hb hr (fun t ht hW => ⟨⟨_, (), rfl, rfl, ka_at ht hP⟩, hS.F ht⟩) hS.2.2 d_La_object_20 hlk
  · refine ka_caught (vx_runV (As := [.int x1, .int x2]) (rest := [.int 0, .ref (A 63)]) S9 (c_Ke_object_err l hl9 D A (ka_oc A f :: r) _ σ x1 x2 _ _ h) (cwV 2 hts (tg_V wl_La_81 wm_Ke_object we_Ke_object wi_Ke wo_Ke_object) rfl rfl rfl wq_Ke_object ⟨Nat.le_of_ble_eq_true rfl, Nat.le_of_ble_eq_true rfl⟩) (ka_preV X9 hP hD hS 0 rfl rfl) rfl rfl hl.1 rfl (lv_room (Nat.le_of_ble_eq_true rfl)) d_La_object_5 ⟨Nat.le_of_ble_eq_true rfl, Nat.le_of_ble_eq_true rfl⟩) X9 hD hS rfl (fun ce q9 H locs hP hD hS hce hcv hcl => ?_)
    refine vx_catch (name := "java/lang/UnsupportedOperationException") (E := "java/lang/UnsupportedOperationException") hown (tableOf [(0, 10, 13, 13), (0, 10, 17, 15)]) ⟨0, 10, 21, 17⟩ (tableOf [(0, 10, 25, 19)]) (hex.trans rfl) (fun z hz => by
      simp only [tableOf, List.map_cons, List.map_nil, List.mem_cons, List.not_mem_nil, or_false] at hz
      rcases hz with rfl | rfl
      · exact Or.inr ⟨(by decide), _, hts _ wc_La_13, hC.2.1⟩
      · exact Or.inr ⟨(by decide), _, hts _ wc_La_15, hC.2.2.1⟩) (by decide) (by decide) (hts _ wc_La_17) (X9.2.2.2.2.use _ (by decide +kernel)) hce hcv hcl ?_
    refine lv_astore (lv' := (4, .ref q9) :: [(0, .ref (A 0)), (1, .int x1), (2, .int x2), (3, .ref (A 63))]) hx hb d_La_object_21 hl (by decide) rfl (fun ls hl => ?_)
    refine lv_iconst (v := 3) hx hb d_La_object_23 (by decide) ?_
    exact W.iret hx hb hr (fun t ht hW => ⟨⟨_, (), rfl, rfl, ka_at ht hP⟩, hS.F ht⟩) hS.2.2 d_La_object_24 hlk
  · refine ka_caught (vx_runV (As := [.int x1, .int x2]) (rest := [.int 0, .ref (A 63)]) S9 (c_Ke_object_err l hl9 D A (ka_oc A f :: r) _ σ x1 x2 _ _ h) (cwV 2 hts (tg_V wl_La_81 wm_Ke_object we_Ke_object wi_Ke wo_Ke_object) rfl rfl rfl wq_Ke_object ⟨Nat.le_of_ble_eq_true rfl, Nat.le_of_ble_eq_true rfl⟩) (ka_preV X9 hP hD hS 0 rfl rfl) rfl rfl hl.1 rfl (lv_room (Nat.le_of_ble_eq_true rfl)) d_La_object_5 ⟨Nat.le_of_ble_eq_true rfl, Nat.le_of_ble_eq_true rfl⟩) X9 hD hS rfl (fun ce q9 H locs hP hD hS hce hcv hcl => ?_)
    refine vx_catch (name := "java/lang/IllegalStateException") (E := "java/lang/IllegalStateException") hown (tableOf [(0, 10, 13, 13), (0, 10, 17, 15), (0, 10, 21, 17)]) ⟨0, 10, 25, 19⟩ (tableOf []) (hex.trans rfl) (fun z hz => by
      simp only [tableOf, List.map_cons, List.map_nil, List.mem_cons, List.not_mem_nil, or_false] at hz
      rcases hz with rfl | rfl | rfl
      · exact Or.inr ⟨(by decide), _, hts _ wc_La_13, hC.2.2.2.1⟩
      · exact Or.inr ⟨(by decide), _, hts _ wc_La_15, hC.2.2.2.2.1⟩
      · exact Or.inr ⟨(by decide), _, hts _ wc_La_17, hC.2.2.2.2.2⟩) (by decide) (by decide) (hts _ wc_La_19) (X9.2.2.2.2.use _ (by decide +kernel)) hce hcv hcl ?_
    refine lv_astore (lv' := (4, .ref q9) :: [(0, .ref (A 0)), (1, .int x1), (2, .int x2), (3, .ref (A 63))]) hx hb d_La_object_25 hl (by decide) rfl (fun ls hl => ?_)
    refine lv_iconst (v := 4) hx hb d_La_object_27 (by decide) ?_
    exact W.iret hx hb hr (fun t ht hW => ⟨⟨_, (), rfl, rfl, ka_at ht hP⟩, hS.F ht⟩) hS.2.2 d_La_object_28 hlk
set_option maxRecDepth 100000 in
set_option maxHeartbeats 4000000 in
theorem c_La_in_ok (l : Launch) (hl9 : l.stackTraces = false) (D : va_G) (A : Nat → Nat) (r : va_W) (f : Nat → Int64) (sz : Nat) (σ : KS) (x1 x2 : Int32) (v : Int32) (u : KS) (h : f_Ke_in σ x1 x2 = some (.ok v, u)) : Met l y_La_in (Cond.codeWith y_La_in b_La_in 5 (some .int) hh_La_in :: T0) ({ frames := 3, cells := 0, slots := 0, locals := 69 } : Room) (va_Pc [.ref (A 0), .int x1, .int x2, .ref (A 63)] (ka_Wc D A (GW A σ (ka_oc A f :: r)) sz)) (ka_Ri D 0 (GW A u (ka_oc A (vp_updL f 0 v.toInt64) :: r)) (va_A (GW A σ (ka_oc A f :: r)) sz)) 0 0 (va_A (GW A σ (ka_oc A f :: r)) sz) := by
  refine ka_ofT (own := R_La) (hh := hh_La_in) (fun A9 => ka_Ri D 0 (GW A u (ka_oc A (vp_updL f 0 v.toInt64) :: r)) A9) (by decide) rfl (Nat.le_of_ble_eq_true rfl) ?_
  intro p e s m below meth c A9 ls S9 hr hlk hex hC X9 hP hD hl
  obtain ⟨hx, hb, hml, hown, hts⟩ := id S9
  have hK := X9.2.1
  have hS : va_S A9 s.heap s.heap [] := va_S.rf
  replace hl : lv_has ls 5 [(0, .ref (A 0)), (1, .int x1), (2, .int x2), (3, .ref (A 63))] := hl
  refine lv_aload_n hx hb d_La_in_0 rfl (lv_at hl 3 rfl) ?_
  refine lv_iconst (v := 0) hx hb d_La_in_1 (by decide) ?_
  refine lv_aload_n hx hb d_La_in_2 rfl (lv_at hl 0 rfl) ?_
  refine lv_iload_n hx hb d_La_in_3 rfl (lv_at hl 1 rfl) ?_
  refine lv_iload_n hx hb d_La_in_4 rfl (lv_at hl 2 rfl) ?_
  refine ka_i (va_runV (As := [.int x1, .int x2]) (rest := [.int 0, .ref (A 63)]) S9 (c_Ke_in_ok l hl9 D A (ka_oc A f :: r) _ σ x1 x2 _ _ h) (cwV 2 hts (tg_V wl_La_84 wm_Ke_in we_Ke_in wi_Ke wo_Ke_in) rfl rfl rfl wq_Ke_in ⟨Nat.le_of_ble_eq_true rfl, Nat.le_of_ble_eq_true rfl⟩) (ka_preV X9 hP hD hS 0 rfl rfl) rfl rfl hl.1 rfl (lv_room (Nat.le_of_ble_eq_true rfl)) d_La_in_5 ⟨Nat.le_of_ble_eq_true rfl, Nat.le_of_ble_eq_true rfl⟩) X9 hD hS rfl (fun H locs hP hD hS => ?_)
  refine lv_i2l (v := v.toInt64) hx hb d_La_in_8 rfl ?_
  refine va_last hx hb hK hP hD hS 47 2 rfl rfl (by unfold vp_in; decide) d_La_in_9 (fun H locs hP hD hS => ?_)
  refine lv_goto (tgt := 29) hx hb d_La_in_10 (by decide) ?_
  refine lv_iconst (v := 0) hx hb d_La_in_29 (by decide) ?_
  exact W.iret hx hb hr (fun t ht hW => ⟨⟨_, (), rfl, rfl, ka_at ht hP⟩, hS.F ht⟩) hS.2.2 d_La_in_30 hlk
set_option maxRecDepth 100000 in
set_option maxHeartbeats 4000000 in
theorem c_La_in_err (l : Launch) (hl9 : l.stackTraces = false) (D : va_G) (A : Nat → Nat) (r : va_W) (f : Nat → Int64) (sz : Nat) (σ : KS) (x1 x2 : Int32) (k : Nat) (hk : k = 1 ∨ k = 2 ∨ k = 3 ∨ k = 4) (u : KS) (h : f_Ke_in σ x1 x2 = some (.error k, u)) : Met l y_La_in (Cond.codeWith y_La_in b_La_in 5 (some .int) hh_La_in :: T0) ({ frames := 8, cells := 1, slots := 6, locals := 124 } : Room) (va_Pc [.ref (A 0), .int x1, .int x2, .ref (A 63)] (ka_Wc D A (GW A σ (ka_oc A f :: r)) sz)) (ka_Ri D (nI k) (GW A u (ka_oc A f :: r)) (va_A (GW A σ (ka_oc A f :: r)) sz)) 1 6 (va_A (GW A σ (ka_oc A f :: r)) sz) := by
  refine ka_ofT (own := R_La) (hh := hh_La_in) (fun A9 => ka_Ri D (nI k) (GW A u (ka_oc A f :: r)) A9) (by decide) rfl (Nat.le_of_ble_eq_true rfl) ?_
  intro p e s m below meth c A9 ls S9 hr hlk hex hC X9 hP hD hl
  obtain ⟨hx, hb, hml, hown, hts⟩ := id S9
  have hK := X9.2.1
  have hS : va_S A9 s.heap s.heap [] := va_S.rf
  replace hl : lv_has ls 5 [(0, .ref (A 0)), (1, .int x1), (2, .int x2), (3, .ref (A 63))] := hl
  refine lv_aload_n hx hb d_La_in_0 rfl (lv_at hl 3 rfl) ?_
  refine lv_iconst (v := 0) hx hb d_La_in_1 (by decide) ?_
  refine lv_aload_n hx hb d_La_in_2 rfl (lv_at hl 0 rfl) ?_
  refine lv_iload_n hx hb d_La_in_3 rfl (lv_at hl 1 rfl) ?_
  refine lv_iload_n hx hb d_La_in_4 rfl (lv_at hl 2 rfl) ?_
  rcases hk with rfl | rfl | rfl | rfl
  · refine ka_caught (vx_runV (As := [.int x1, .int x2]) (rest := [.int 0, .ref (A 63)]) S9 (c_Ke_in_err l hl9 D A (ka_oc A f :: r) _ σ x1 x2 _ _ h) (cwV 2 hts (tg_V wl_La_84 wm_Ke_in we_Ke_in wi_Ke wo_Ke_in) rfl rfl rfl wq_Ke_in ⟨Nat.le_of_ble_eq_true rfl, Nat.le_of_ble_eq_true rfl⟩) (ka_preV X9 hP hD hS 0 rfl rfl) rfl rfl hl.1 rfl (lv_room (Nat.le_of_ble_eq_true rfl)) d_La_in_5 ⟨Nat.le_of_ble_eq_true rfl, Nat.le_of_ble_eq_true rfl⟩) X9 hD hS rfl (fun ce q9 H locs hP hD hS hce hcv hcl => ?_)
    refine vx_catch (name := "java/lang/IllegalArgumentException") (E := "java/lang/IllegalArgumentException") hown (tableOf []) ⟨0, 10, 13, 13⟩ (tableOf [(0, 10, 17, 15), (0, 10, 21, 17), (0, 10, 25, 19)]) (hex.trans rfl) (fun z hz => by cases hz) (by decide) (by decide) (hts _ wc_La_13) (X9.2.2.2.2.use _ (by decide +kernel)) hce hcv hcl ?_
    refine lv_astore (lv' := (4, .ref q9) :: [(0, .ref (A 0)), (1, .int x1), (2, .int x2), (3, .ref (A 63))]) hx hb d_La_in_13 hl (by decide) rfl (fun ls hl => ?_)
    refine lv_iconst (v := 1) hx hb d_La_in_15 (by decide) ?_
    exact W.iret hx hb hr (fun t ht hW => ⟨⟨_, (), rfl, rfl, ka_at ht hP⟩, hS.F ht⟩) hS.2.2 d_La_in_16 hlk
  · refine ka_caught (vx_runV (As := [.int x1, .int x2]) (rest := [.int 0, .ref (A 63)]) S9 (c_Ke_in_err l hl9 D A (ka_oc A f :: r) _ σ x1 x2 _ _ h) (cwV 2 hts (tg_V wl_La_84 wm_Ke_in we_Ke_in wi_Ke wo_Ke_in) rfl rfl rfl wq_Ke_in ⟨Nat.le_of_ble_eq_true rfl, Nat.le_of_ble_eq_true rfl⟩) (ka_preV X9 hP hD hS 0 rfl rfl) rfl rfl hl.1 rfl (lv_room (Nat.le_of_ble_eq_true rfl)) d_La_in_5 ⟨Nat.le_of_ble_eq_true rfl, Nat.le_of_ble_eq_true rfl⟩) X9 hD hS rfl (fun ce q9 H locs hP hD hS hce hcv hcl => ?_)
    refine vx_catch (name := "java/util/NoSuchElementException") (E := "java/util/NoSuchElementException") hown (tableOf [(0, 10, 13, 13)]) ⟨0, 10, 17, 15⟩ (tableOf [(0, 10, 21, 17), (0, 10, 25, 19)]) (hex.trans rfl) (fun z hz => by
      simp only [tableOf, List.map_cons, List.map_nil, List.mem_cons, List.not_mem_nil, or_false] at hz
      subst hz
      exact Or.inr ⟨(by decide), _, hts _ wc_La_13, hC.1⟩) (by decide) (by decide) (hts _ wc_La_15) (X9.2.2.2.2.use _ (by decide +kernel)) hce hcv hcl ?_
    refine lv_astore (lv' := (4, .ref q9) :: [(0, .ref (A 0)), (1, .int x1), (2, .int x2), (3, .ref (A 63))]) hx hb d_La_in_17 hl (by decide) rfl (fun ls hl => ?_)
    refine lv_iconst (v := 2) hx hb d_La_in_19 (by decide) ?_
    exact W.iret hx hb hr (fun t ht hW => ⟨⟨_, (), rfl, rfl, ka_at ht hP⟩, hS.F ht⟩) hS.2.2 d_La_in_20 hlk
  · refine ka_caught (vx_runV (As := [.int x1, .int x2]) (rest := [.int 0, .ref (A 63)]) S9 (c_Ke_in_err l hl9 D A (ka_oc A f :: r) _ σ x1 x2 _ _ h) (cwV 2 hts (tg_V wl_La_84 wm_Ke_in we_Ke_in wi_Ke wo_Ke_in) rfl rfl rfl wq_Ke_in ⟨Nat.le_of_ble_eq_true rfl, Nat.le_of_ble_eq_true rfl⟩) (ka_preV X9 hP hD hS 0 rfl rfl) rfl rfl hl.1 rfl (lv_room (Nat.le_of_ble_eq_true rfl)) d_La_in_5 ⟨Nat.le_of_ble_eq_true rfl, Nat.le_of_ble_eq_true rfl⟩) X9 hD hS rfl (fun ce q9 H locs hP hD hS hce hcv hcl => ?_)
    refine vx_catch (name := "java/lang/UnsupportedOperationException") (E := "java/lang/UnsupportedOperationException") hown (tableOf [(0, 10, 13, 13), (0, 10, 17, 15)]) ⟨0, 10, 21, 17⟩ (tableOf [(0, 10, 25, 19)]) (hex.trans rfl) (fun z hz => by
      simp only [tableOf, List.map_cons, List.map_nil, List.mem_cons, List.not_mem_nil, or_false] at hz
      rcases hz with rfl | rfl
      · exact Or.inr ⟨(by decide), _, hts _ wc_La_13, hC.2.1⟩
      · exact Or.inr ⟨(by decide), _, hts _ wc_La_15, hC.2.2.1⟩) (by decide) (by decide) (hts _ wc_La_17) (X9.2.2.2.2.use _ (by decide +kernel)) hce hcv hcl ?_
    refine lv_astore (lv' := (4, .ref q9) :: [(0, .ref (A 0)), (1, .int x1), (2, .int x2), (3, .ref (A 63))]) hx hb d_La_in_21 hl (by decide) rfl (fun ls hl => ?_)
    refine lv_iconst (v := 3) hx hb d_La_in_23 (by decide) ?_
    exact W.iret hx hb hr (fun t ht hW => ⟨⟨_, (), rfl, rfl, ka_at ht hP⟩, hS.F ht⟩) hS.2.2 d_La_in_24 hlk
  · refine ka_caught (vx_runV (As := [.int x1, .int x2]) (rest := [.int 0, .ref (A 63)]) S9 (c_Ke_in_err l hl9 D A (ka_oc A f :: r) _ σ x1 x2 _ _ h) (cwV 2 hts (tg_V wl_La_84 wm_Ke_in we_Ke_in wi_Ke wo_Ke_in) rfl rfl rfl wq_Ke_in ⟨Nat.le_of_ble_eq_true rfl, Nat.le_of_ble_eq_true rfl⟩) (ka_preV X9 hP hD hS 0 rfl rfl) rfl rfl hl.1 rfl (lv_room (Nat.le_of_ble_eq_true rfl)) d_La_in_5 ⟨Nat.le_of_ble_eq_true rfl, Nat.le_of_ble_eq_true rfl⟩) X9 hD hS rfl (fun ce q9 H locs hP hD hS hce hcv hcl => ?_)
    refine vx_catch (name := "java/lang/IllegalStateException") (E := "java/lang/IllegalStateException") hown (tableOf [(0, 10, 13, 13), (0, 10, 17, 15), (0, 10, 21, 17)]) ⟨0, 10, 25, 19⟩ (tableOf []) (hex.trans rfl) (fun z hz => by
      simp only [tableOf, List.map_cons, List.map_nil, List.mem_cons, List.not_mem_nil, or_false] at hz
      rcases hz with rfl | rfl | rfl
      · exact Or.inr ⟨(by decide), _, hts _ wc_La_13, hC.2.2.2.1⟩
      · exact Or.inr ⟨(by decide), _, hts _ wc_La_15, hC.2.2.2.2.1⟩
      · exact Or.inr ⟨(by decide), _, hts _ wc_La_17, hC.2.2.2.2.2⟩) (by decide) (by decide) (hts _ wc_La_19) (X9.2.2.2.2.use _ (by decide +kernel)) hce hcv hcl ?_
    refine lv_astore (lv' := (4, .ref q9) :: [(0, .ref (A 0)), (1, .int x1), (2, .int x2), (3, .ref (A 63))]) hx hb d_La_in_25 hl (by decide) rfl (fun ls hl => ?_)
    refine lv_iconst (v := 4) hx hb d_La_in_27 (by decide) ?_
    exact W.iret hx hb hr (fun t ht hW => ⟨⟨_, (), rfl, rfl, ka_at ht hP⟩, hS.F ht⟩) hS.2.2 d_La_in_28 hlk
