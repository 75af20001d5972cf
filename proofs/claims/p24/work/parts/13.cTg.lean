def f_Tg_isThere (σ : KS) (x1 : Int32) : Option (Int32) := if x1 < 1 then (some 0) else (if 60 < x1 then (some 0) else (if x1 < 0 ∨ 61 ≤ (x1).toNatClampNeg then none else if (gN_there σ (x1).toNatClampNeg) = 0 then (some 0) else (some 1)))
set_option maxRecDepth 100000 in
set_option maxHeartbeats 4000000 in
theorem c_Tg_isThere (l : Launch) (hl9 : l.stackTraces = false) (D : va_G) (A : Nat → Nat) (r : va_W) (sz : Nat) (σ : KS) (x1 : Int32) (z : Int32) (h : f_Tg_isThere σ x1 = some z) : Met l y_Tg_isThere (Cond.code y_Tg_isThere b_Tg_isThere 2 (some .boolean) :: T0) ({ frames := 0, cells := 0, slots := 0, locals := 0 } : Room) (va_Pc [.ref (A 4), .int x1] (ka_Wd D A (GW A σ r) sz)) (ka_Ri D z (GW A σ r) (va_A (GW A σ r) sz)) 0 0 (va_A (GW A σ r) sz) := by
  unfold f_Tg_isThere at h
  refine ka_of (own := R_Tg) (fun A9 => ka_Ri D z (GW A σ r) A9) (by decide) rfl (Nat.le_of_ble_eq_true rfl) ?_
  intro p e s m below meth c A9 ls S9 hr hlk hex X9 hP hD hl
  obtain ⟨hx, hb, hml, hown, hts⟩ := id S9
  have hK := X9.2.1
  have hS : va_S A9 s.heap s.heap [] := va_S.rf
  replace hl : lv_has ls 2 [(0, .ref (A 4)), (1, .int x1)] := hl
  refine lv_iload_n hx hb d_Tg_isThere_0 rfl (lv_at hl 1 rfl) ?_
  refine lv_iconst (v := 1) hx hb d_Tg_isThere_1 (by decide) ?_
  refine lv_icmp_lt (tgt := 24) hx hb d_Tg_isThere_2 (by decide) (fun c1 => ?_) (fun c1 => ?_)
  · replace h := zo_t c1 h
    refine lv_iconst (v := 0) hx hb d_Tg_isThere_24 (by decide) ?_
    cases h
    exact W.zret hx hb hr (by decide) (fun t ht hW => ⟨⟨_, (), rfl, rfl, ka_at ht hP⟩, hS.F ht⟩) hS.2.2 d_Tg_isThere_25 hlk
  replace h := zo_f c1 h
  refine lv_iload_n hx hb d_Tg_isThere_5 rfl (lv_at hl 1 rfl) ?_
  refine lv_bipush (v := 60) hx hb d_Tg_isThere_6 (by decide) ?_
  refine lv_icmp_gt (tgt := 24) hx hb d_Tg_isThere_8 (by decide) (fun c2 => ?_) (fun c2 => ?_)
  · replace h := zo_t c2 h
    refine lv_iconst (v := 0) hx hb d_Tg_isThere_24 (by decide) ?_
    cases h
    exact W.zret hx hb hr (by decide) (fun t ht hW => ⟨⟨_, (), rfl, rfl, ka_at ht hP⟩, hS.F ht⟩) hS.2.2 d_Tg_isThere_25 hlk
  replace h := zo_f c2 h
  refine lv_aload_n hx hb d_Tg_isThere_11 rfl (lv_at hl 0 rfl) ?_
  refine va_get (D := D) (ci := 2) (v := .ref (A 5)) (C := R_Tg) (T := T_Tg) (N := 12) hx hb hts wu_Tg hown hK hP 4 rfl rfl 0 (by decide) (hts _ wf_Tg_9) (fun _ h9 => h9) rfl d_Tg_isThere_12 ?_
  refine lv_iload_n hx hb d_Tg_isThere_15 rfl (lv_at hl 1 rfl) ?_
  obtain ⟨i9, h⟩ := zo_i h
  refine va_zald hx hb hK hP 5 1 rfl rfl i9 d_Tg_isThere_16 ?_
  refine lv_if_eq (tgt := 24) hx hb d_Tg_isThere_17 (by decide) (fun c3 => ?_) (fun c3 => ?_)
  · replace h := zo_t c3 h
    refine lv_iconst (v := 0) hx hb d_Tg_isThere_24 (by decide) ?_
    cases h
    exact W.zret hx hb hr (by decide) (fun t ht hW => ⟨⟨_, (), rfl, rfl, ka_at ht hP⟩, hS.F ht⟩) hS.2.2 d_Tg_isThere_25 hlk
  replace h := zo_f c3 h
  refine lv_iconst (v := 1) hx hb d_Tg_isThere_20 (by decide) ?_
  refine lv_goto (tgt := 25) hx hb d_Tg_isThere_21 (by decide) ?_
  cases h
  exact W.zret hx hb hr (by decide) (fun t ht hW => ⟨⟨_, (), rfl, rfl, ka_at ht hP⟩, hS.F ht⟩) hS.2.2 d_Tg_isThere_25 hlk
def f_Tg_isOfKind (σ : KS) (x1 x2 : Int32) : Option (Int32) := if x1 < 0 ∨ 61 ≤ (x1).toNatClampNeg then none else if (gN_kind σ (x1).toNatClampNeg) = x2 then (some 1) else (some 0)
set_option maxRecDepth 100000 in
set_option maxHeartbeats 4000000 in
theorem c_Tg_isOfKind (l : Launch) (hl9 : l.stackTraces = false) (D : va_G) (A : Nat → Nat) (r : va_W) (sz : Nat) (σ : KS) (x1 x2 : Int32) (z : Int32) (h : f_Tg_isOfKind σ x1 x2 = some z) : Met l y_Tg_isOfKind (Cond.code y_Tg_isOfKind b_Tg_isOfKind 3 (some .boolean) :: T0) ({ frames := 0, cells := 0, slots := 0, locals := 0 } : Room) (va_Pc [.ref (A 4), .int x1, .int x2] (ka_Wd D A (GW A σ r) sz)) (ka_Ri D z (GW A σ r) (va_A (GW A σ r) sz)) 0 0 (va_A (GW A σ r) sz) := by
  unfold f_Tg_isOfKind at h
  refine ka_of (own := R_Tg) (fun A9 => ka_Ri D z (GW A σ r) A9) (by decide) rfl (Nat.le_of_ble_eq_true rfl) ?_
  intro p e s m below meth c A9 ls S9 hr hlk hex X9 hP hD hl
  obtain ⟨hx, hb, hml, hown, hts⟩ := id S9
  have hK := X9.2.1
  have hS : va_S A9 s.heap s.heap [] := va_S.rf
  replace hl : lv_has ls 3 [(0, .ref (A 4)), (1, .int x1), (2, .int x2)] := hl
  refine lv_aload_n hx hb d_Tg_isOfKind_0 rfl (lv_at hl 0 rfl) ?_
  refine va_get (D := D) (ci := 2) (v := .ref (A 6)) (C := R_Tg) (T := T_Tg) (N := 12) hx hb hts wu_Tg hown hK hP 4 rfl rfl 1 (by decide) (hts _ wf_Tg_15) (fun _ h9 => h9) rfl d_Tg_isOfKind_1 ?_
  refine lv_iload_n hx hb d_Tg_isOfKind_4 rfl (lv_at hl 1 rfl) ?_
  obtain ⟨i9, h⟩ := zo_i h
  refine va_iald hx hb hK hP 6 0 rfl rfl i9 d_Tg_isOfKind_5 ?_
  refine lv_iload_n hx hb d_Tg_isOfKind_6 rfl (lv_at hl 2 rfl) ?_
  refine lv_icmp_ne (tgt := 14) hx hb d_Tg_isOfKind_7 (by decide) (fun c1 => ?_) (fun c1 => ?_)
  · replace h := zo_f c1 h
    refine lv_iconst (v := 0) hx hb d_Tg_isOfKind_14 (by decide) ?_
    cases h
    exact W.zret hx hb hr (by decide) (fun t ht hW => ⟨⟨_, (), rfl, rfl, ka_at ht hP⟩, hS.F ht⟩) hS.2.2 d_Tg_isOfKind_15 hlk
  replace h := zo_t c1 h
  refine lv_iconst (v := 1) hx hb d_Tg_isOfKind_10 (by decide) ?_
  refine lv_goto (tgt := 15) hx hb d_Tg_isOfKind_11 (by decide) ?_
  cases h
  exact W.zret hx hb hr (by decide) (fun t ht hW => ⟨⟨_, (), rfl, rfl, ka_at ht hP⟩, hS.F ht⟩) hS.2.2 d_Tg_isOfKind_15 hlk
def f_Tg_labelOf (σ : KS) (x1 : Int32) : Option (Int32) := if x1 < 0 ∨ 61 ≤ (x1).toNatClampNeg then none else some (gN_label σ (x1).toNatClampNeg)
set_option maxRecDepth 100000 in
set_option maxHeartbeats 4000000 in
theorem c_Tg_labelOf (l : Launch) (hl9 : l.stackTraces = false) (D : va_G) (A : Nat → Nat) (r : va_W) (sz : Nat) (σ : KS) (x1 : Int32) (z : Int32) (h : f_Tg_labelOf σ x1 = some z) : Met l y_Tg_labelOf (Cond.code y_Tg_labelOf b_Tg_labelOf 2 (some .int) :: T0) ({ frames := 0, cells := 0, slots := 0, locals := 0 } : Room) (va_Pc [.ref (A 4), .int x1] (ka_Wd D A (GW A σ r) sz)) (ka_Ri D z (GW A σ r) (va_A (GW A σ r) sz)) 0 0 (va_A (GW A σ r) sz) := by
  unfold f_Tg_labelOf at h
  refine ka_of (own := R_Tg) (fun A9 => ka_Ri D z (GW A σ r) A9) (by decide) rfl (Nat.le_of_ble_eq_true rfl) ?_
  intro p e s m below meth c A9 ls S9 hr hlk hex X9 hP hD hl
  obtain ⟨hx, hb, hml, hown, hts⟩ := id S9
  have hK := X9.2.1
  have hS : va_S A9 s.heap s.heap [] := va_S.rf
  replace hl : lv_has ls 2 [(0, .ref (A 4)), (1, .int x1)] := hl
  refine lv_aload_n hx hb d_Tg_labelOf_0 rfl (lv_at hl 0 rfl) ?_
  refine va_get (D := D) (ci := 2) (v := .ref (A 7)) (C := R_Tg) (T := T_Tg) (N := 12) hx hb hts wu_Tg hown hK hP 4 rfl rfl 2 (by decide) (hts _ wf_Tg_19) (fun _ h9 => h9) rfl d_Tg_labelOf_1 ?_
  refine lv_iload_n hx hb d_Tg_labelOf_4 rfl (lv_at hl 1 rfl) ?_
  obtain ⟨i9, h⟩ := zo_i h
  refine va_iald hx hb hK hP 7 0 rfl rfl i9 d_Tg_labelOf_5 ?_
  cases h
  exact W.iret hx hb hr (fun t ht hW => ⟨⟨_, (), rfl, rfl, ka_at ht hP⟩, hS.F ht⟩) hS.2.2 d_Tg_labelOf_6 hlk
def f_Tg_clearanceOf (σ : KS) (x1 : Int32) : Option (Int32) := if x1 < 0 ∨ 61 ≤ (x1).toNatClampNeg then none else some (gN_clearance σ (x1).toNatClampNeg)
set_option maxRecDepth 100000 in
set_option maxHeartbeats 4000000 in
theorem c_Tg_clearanceOf (l : Launch) (hl9 : l.stackTraces = false) (D : va_G) (A : Nat → Nat) (r : va_W) (sz : Nat) (σ : KS) (x1 : Int32) (z : Int32) (h : f_Tg_clearanceOf σ x1 = some z) : Met l y_Tg_clearanceOf (Cond.code y_Tg_clearanceOf b_Tg_clearanceOf 2 (some .int) :: T0) ({ frames := 0, cells := 0, slots := 0, locals := 0 } : Room) (va_Pc [.ref (A 4), .int x1] (ka_Wd D A (GW A σ r) sz)) (ka_Ri D z (GW A σ r) (va_A (GW A σ r) sz)) 0 0 (va_A (GW A σ r) sz) := by
  unfold f_Tg_clearanceOf at h
  refine ka_of (own := R_Tg) (fun A9 => ka_Ri D z (GW A σ r) A9) (by decide) rfl (Nat.le_of_ble_eq_true rfl) ?_
  intro p e s m below meth c A9 ls S9 hr hlk hex X9 hP hD hl
  obtain ⟨hx, hb, hml, hown, hts⟩ := id S9
  have hK := X9.2.1
  have hS : va_S A9 s.heap s.heap [] := va_S.rf
  replace hl : lv_has ls 2 [(0, .ref (A 4)), (1, .int x1)] := hl
  refine lv_aload_n hx hb d_Tg_clearanceOf_0 rfl (lv_at hl 0 rfl) ?_
  refine va_get (D := D) (ci := 2) (v := .ref (A 11)) (C := R_Tg) (T := T_Tg) (N := 12) hx hb hts wu_Tg hown hK hP 4 rfl rfl 6 (by decide) (hts _ wf_Tg_31) (fun _ h9 => h9) rfl d_Tg_clearanceOf_1 ?_
  refine lv_iload_n hx hb d_Tg_clearanceOf_4 rfl (lv_at hl 1 rfl) ?_
  obtain ⟨i9, h⟩ := zo_i h
  refine va_iald hx hb hK hP 11 0 rfl rfl i9 d_Tg_clearanceOf_5 ?_
  cases h
  exact W.iret hx hb hr (fun t ht hW => ⟨⟨_, (), rfl, rfl, ka_at ht hP⟩, hS.F ht⟩) hS.2.2 d_Tg_clearanceOf_6 hlk
def f_Tg_setLabel (σ : KS) (x1 x2 : Int32) : Option (KS) := if x1 < 0 ∨ 61 ≤ (x1).toNatClampNeg then none else zl (sN_label σ (upd (gN_label σ) (x1).toNatClampNeg x2)) fun u1 => some u1
set_option maxRecDepth 100000 in
set_option maxHeartbeats 4000000 in
theorem c_Tg_setLabel (l : Launch) (hl9 : l.stackTraces = false) (D : va_G) (A : Nat → Nat) (r : va_W) (sz : Nat) (σ : KS) (x1 x2 : Int32) (z : KS) (h : f_Tg_setLabel σ x1 x2 = some z) : Met l y_Tg_setLabel (Cond.code y_Tg_setLabel b_Tg_setLabel 3 none :: T0) ({ frames := 0, cells := 0, slots := 0, locals := 0 } : Room) (va_Pc [.ref (A 4), .int x1, .int x2] (ka_Wd D A (GW A σ r) sz)) (ka_Rv D (GW A z r) (va_A (GW A σ r) sz)) 0 0 (va_A (GW A σ r) sz) := by
  unfold f_Tg_setLabel at h
  refine ka_of (own := R_Tg) (fun A9 => ka_Rv D (GW A z r) A9) (by decide) rfl (Nat.le_of_ble_eq_true rfl) ?_
  intro p e s m below meth c A9 ls S9 hr hlk hex X9 hP hD hl
  obtain ⟨hx, hb, hml, hown, hts⟩ := id S9
  have hK := X9.2.1
  have hS : va_S A9 s.heap s.heap [] := va_S.rf
  replace hl : lv_has ls 3 [(0, .ref (A 4)), (1, .int x1), (2, .int x2)] := hl
  refine lv_aload_n hx hb d_Tg_setLabel_0 rfl (lv_at hl 0 rfl) ?_
  refine va_get (D := D) (ci := 2) (v := .ref (A 7)) (C := R_Tg) (T := T_Tg) (N := 12) hx hb hts wu_Tg hown hK hP 4 rfl rfl 2 (by decide) (hts _ wf_Tg_19) (fun _ h9 => h9) rfl d_Tg_setLabel_1 ?_
  refine lv_iload_n hx hb d_Tg_setLabel_4 rfl (lv_at hl 1 rfl) ?_
  refine lv_iload_n hx hb d_Tg_setLabel_5 rfl (lv_at hl 2 rfl) ?_
  obtain ⟨i9, h⟩ := zo_i h
  obtain ⟨u1, hu9, h⟩ := zo_l h
  refine va_iast hx hb hK hP hD hS 7 0 rfl rfl i9 d_Tg_setLabel_6 (fun H locs hP hD hS => ?_)
  replace hP : va_P D vwCl (GW A u1 r) H := by rw [hu9]; exact hP
  replace hD : va_D A9 (GW A u1 r) := by rw [hu9]; exact hD
  cases h
  exact W.vret hx hb hr (fun t ht hW => ⟨⟨(), rfl, trivial, ka_at ht hP⟩, hS.F ht⟩) hS.2.2 d_Tg_setLabel_7 hlk
def f_Tg_setClearance (σ : KS) (x1 x2 : Int32) : Option (KS) := if x1 < 0 ∨ 61 ≤ (x1).toNatClampNeg then none else zl (sN_clearance σ (upd (gN_clearance σ) (x1).toNatClampNeg x2)) fun u1 => some u1
set_option maxRecDepth 100000 in
set_option maxHeartbeats 4000000 in
theorem c_Tg_setClearance (l : Launch) (hl9 : l.stackTraces = false) (D : va_G) (A : Nat → Nat) (r : va_W) (sz : Nat) (σ : KS) (x1 x2 : Int32) (z : KS) (h : f_Tg_setClearance σ x1 x2 = some z) : Met l y_Tg_setClearance (Cond.code y_Tg_setClearance b_Tg_setClearance 3 none :: T0) ({ frames := 0, cells := 0, slots := 0, locals := 0 } : Room) (va_Pc [.ref (A 4), .int x1, .int x2] (ka_Wd D A (GW A σ r) sz)) (ka_Rv D (GW A z r) (va_A (GW A σ r) sz)) 0 0 (va_A (GW A σ r) sz) := by
  unfold f_Tg_setClearance at h
  refine ka_of (own := R_Tg) (fun A9 => ka_Rv D (GW A z r) A9) (by decide) rfl (Nat.le_of_ble_eq_true rfl) ?_
  intro p e s m below meth c A9 ls S9 hr hlk hex X9 hP hD hl
  obtain ⟨hx, hb, hml, hown, hts⟩ := id S9
  have hK := X9.2.1
  have hS : va_S A9 s.heap s.heap [] := va_S.rf
  replace hl : lv_has ls 3 [(0, .ref (A 4)), (1, .int x1), (2, .int x2)] := hl
  refine lv_aload_n hx hb d_Tg_setClearance_0 rfl (lv_at hl 0 rfl) ?_
  refine va_get (D := D) (ci := 2) (v := .ref (A 11)) (C := R_Tg) (T := T_Tg) (N := 12) hx hb hts wu_Tg hown hK hP 4 rfl rfl 6 (by decide) (hts _ wf_Tg_31) (fun _ h9 => h9) rfl d_Tg_setClearance_1 ?_
  refine lv_iload_n hx hb d_Tg_setClearance_4 rfl (lv_at hl 1 rfl) ?_
  refine lv_iload_n hx hb d_Tg_setClearance_5 rfl (lv_at hl 2 rfl) ?_
  obtain ⟨i9, h⟩ := zo_i h
  obtain ⟨u1, hu9, h⟩ := zo_l h
  refine va_iast hx hb hK hP hD hS 11 0 rfl rfl i9 d_Tg_setClearance_6 (fun H locs hP hD hS => ?_)
  replace hP : va_P D vwCl (GW A u1 r) H := by rw [hu9]; exact hP
  replace hD : va_D A9 (GW A u1 r) := by rw [hu9]; exact hD
  cases h
  exact W.vret hx hb hr (fun t ht hW => ⟨⟨(), rfl, trivial, ka_at ht hP⟩, hS.F ht⟩) hS.2.2 d_Tg_setClearance_7 hlk
def f_Tg_quotaOf (σ : KS) (x1 : Int32) : Option (Int32) := if x1 < 0 ∨ 61 ≤ (x1).toNatClampNeg then none else some (gN_quota σ (x1).toNatClampNeg)
set_option maxRecDepth 100000 in
set_option maxHeartbeats 4000000 in
theorem c_Tg_quotaOf (l : Launch) (hl9 : l.stackTraces = false) (D : va_G) (A : Nat → Nat) (r : va_W) (sz : Nat) (σ : KS) (x1 : Int32) (z : Int32) (h : f_Tg_quotaOf σ x1 = some z) : Met l y_Tg_quotaOf (Cond.code y_Tg_quotaOf b_Tg_quotaOf 2 (some .int) :: T0) ({ frames := 0, cells := 0, slots := 0, locals := 0 } : Room) (va_Pc [.ref (A 4), .int x1] (ka_Wd D A (GW A σ r) sz)) (ka_Ri D z (GW A σ r) (va_A (GW A σ r) sz)) 0 0 (va_A (GW A σ r) sz) := by
  unfold f_Tg_quotaOf at h
  refine ka_of (own := R_Tg) (fun A9 => ka_Ri D z (GW A σ r) A9) (by decide) rfl (Nat.le_of_ble_eq_true rfl) ?_
  intro p e s m below meth c A9 ls S9 hr hlk hex X9 hP hD hl
  obtain ⟨hx, hb, hml, hown, hts⟩ := id S9
  have hK := X9.2.1
  have hS : va_S A9 s.heap s.heap [] := va_S.rf
  replace hl : lv_has ls 2 [(0, .ref (A 4)), (1, .int x1)] := hl
  refine lv_aload_n hx hb d_Tg_quotaOf_0 rfl (lv_at hl 0 rfl) ?_
  refine va_get (D := D) (ci := 2) (v := .ref (A 8)) (C := R_Tg) (T := T_Tg) (N := 12) hx hb hts wu_Tg hown hK hP 4 rfl rfl 3 (by decide) (hts _ wf_Tg_22) (fun _ h9 => h9) rfl d_Tg_quotaOf_1 ?_
  refine lv_iload_n hx hb d_Tg_quotaOf_4 rfl (lv_at hl 1 rfl) ?_
  obtain ⟨i9, h⟩ := zo_i h
  refine va_iald hx hb hK hP 8 0 rfl rfl i9 d_Tg_quotaOf_5 ?_
  cases h
  exact W.iret hx hb hr (fun t ht hW => ⟨⟨_, (), rfl, rfl, ka_at ht hP⟩, hS.F ht⟩) hS.2.2 d_Tg_quotaOf_6 hlk
def f_Tg_isIn (σ : KS) (x1 x2 : Int32) : Option (Int32) := if x1 < 0 ∨ 61 ≤ (x1).toNatClampNeg then none else if (gN_there σ (x1).toNatClampNeg) = 0 then (some 0) else (if x1 < 0 ∨ 61 ≤ (x1).toNatClampNeg then none else if (gN_place σ (x1).toNatClampNeg) = x2 then (some 1) else (some 0))
set_option maxRecDepth 100000 in
set_option maxHeartbeats 4000000 in
theorem c_Tg_isIn (l : Launch) (hl9 : l.stackTraces = false) (D : va_G) (A : Nat → Nat) (r : va_W) (sz : Nat) (σ : KS) (x1 x2 : Int32) (z : Int32) (h : f_Tg_isIn σ x1 x2 = some z) : Met l y_Tg_isIn (Cond.code y_Tg_isIn b_Tg_isIn 3 (some .boolean) :: T0) ({ frames := 0, cells := 0, slots := 0, locals := 0 } : Room) (va_Pc [.ref (A 4), .int x1, .int x2] (ka_Wd D A (GW A σ r) sz)) (ka_Ri D z (GW A σ r) (va_A (GW A σ r) sz)) 0 0 (va_A (GW A σ r) sz) := by
  unfold f_Tg_isIn at h
  refine ka_of (own := R_Tg) (fun A9 => ka_Ri D z (GW A σ r) A9) (by decide) rfl (Nat.le_of_ble_eq_true rfl) ?_
  intro p e s m below meth c A9 ls S9 hr hlk hex X9 hP hD hl
  obtain ⟨hx, hb, hml, hown, hts⟩ := id S9
  have hK := X9.2.1
  have hS : va_S A9 s.heap s.heap [] := va_S.rf
  replace hl : lv_has ls 3 [(0, .ref (A 4)), (1, .int x1), (2, .int x2)] := hl
  refine lv_aload_n hx hb d_Tg_isIn_0 rfl (lv_at hl 0 rfl) ?_
  refine va_get (D := D) (ci := 2) (v := .ref (A 5)) (C := R_Tg) (T := T_Tg) (N := 12) hx hb hts wu_Tg hown hK hP 4 rfl rfl 0 (by decide) (hts _ wf_Tg_9) (fun _ h9 => h9) rfl d_Tg_isIn_1 ?_
  refine lv_iload_n hx hb d_Tg_isIn_4 rfl (lv_at hl 1 rfl) ?_
  obtain ⟨i9, h⟩ := zo_i h
  refine va_zald hx hb hK hP 5 1 rfl rfl i9 d_Tg_isIn_5 ?_
  refine lv_if_eq (tgt := 23) hx hb d_Tg_isIn_6 (by decide) (fun c1 => ?_) (fun c1 => ?_)
  · replace h := zo_t c1 h
    refine lv_iconst (v := 0) hx hb d_Tg_isIn_23 (by decide) ?_
    cases h
    exact W.zret hx hb hr (by decide) (fun t ht hW => ⟨⟨_, (), rfl, rfl, ka_at ht hP⟩, hS.F ht⟩) hS.2.2 d_Tg_isIn_24 hlk
  replace h := zo_f c1 h
  refine lv_aload_n hx hb d_Tg_isIn_9 rfl (lv_at hl 0 rfl) ?_
  refine va_get (D := D) (ci := 2) (v := .ref (A 9)) (C := R_Tg) (T := T_Tg) (N := 12) hx hb hts wu_Tg hown hK hP 4 rfl rfl 4 (by decide) (hts _ wf_Tg_25) (fun _ h9 => h9) rfl d_Tg_isIn_10 ?_
  refine lv_iload_n hx hb d_Tg_isIn_13 rfl (lv_at hl 1 rfl) ?_
  obtain ⟨i9, h⟩ := zo_i h
  refine va_iald hx hb hK hP 9 0 rfl rfl i9 d_Tg_isIn_14 ?_
  refine lv_iload_n hx hb d_Tg_isIn_15 rfl (lv_at hl 2 rfl) ?_
  refine lv_icmp_ne (tgt := 23) hx hb d_Tg_isIn_16 (by decide) (fun c2 => ?_) (fun c2 => ?_)
  · replace h := zo_f c2 h
    refine lv_iconst (v := 0) hx hb d_Tg_isIn_23 (by decide) ?_
    cases h
    exact W.zret hx hb hr (by decide) (fun t ht hW => ⟨⟨_, (), rfl, rfl, ka_at ht hP⟩, hS.F ht⟩) hS.2.2 d_Tg_isIn_24 hlk
  replace h := zo_t c2 h
  refine lv_iconst (v := 1) hx hb d_Tg_isIn_19 (by decide) ?_
  refine lv_goto (tgt := 24) hx hb d_Tg_isIn_20 (by decide) ?_
  cases h
  exact W.zret hx hb hr (by decide) (fun t ht hW => ⟨⟨_, (), rfl, rfl, ka_at ht hP⟩, hS.F ht⟩) hS.2.2 d_Tg_isIn_24 hlk
def f_Tg_quotasIn_L4 (σ : KS) : Nat → Int32 → Int32 → Int32 → Option (Int32)
  | 0, _, _, _ => none
  | n + 1, y1, y2, y3 => if (gN_made σ) < y3 then (some y2) else ((f_Tg_isIn σ y3 y1).bind fun v2 => if v2 = 0 then (f_Tg_quotasIn_L4 σ n y1 y2 (y3 + 1)) else (if y3 < 0 ∨ 61 ≤ (y3).toNatClampNeg then none else f_Tg_quotasIn_L4 σ n y1 (y2 + (gN_quota σ (y3).toNatClampNeg)) (y3 + 1)))
def f_Tg_quotasIn (σ : KS) (x1 : Int32) : Option (Int32) := f_Tg_quotasIn_L4 σ 100 x1 0 1
set_option maxRecDepth 100000 in
set_option maxHeartbeats 4000000 in
theorem c_Tg_quotasIn (l : Launch) (hl9 : l.stackTraces = false) (D : va_G) (A : Nat → Nat) (r : va_W) (sz : Nat) (σ : KS) (x1 : Int32) (z : Int32) (h : f_Tg_quotasIn σ x1 = some z) : Met l y_Tg_quotasIn (Cond.code y_Tg_quotasIn b_Tg_quotasIn 4 (some .int) :: T0) ({ frames := 1, cells := 0, slots := 0, locals := 22 } : Room) (va_Pc [.ref (A 4), .int x1] (ka_Wd D A (GW A σ r) sz)) (ka_Ri D z (GW A σ r) (va_A (GW A σ r) sz)) 0 0 (va_A (GW A σ r) sz) := by
  unfold f_Tg_quotasIn at h
  refine ka_of (own := R_Tg) (fun A9 => ka_Ri D z (GW A σ r) A9) (by decide) rfl (Nat.le_of_ble_eq_true rfl) ?_
  intro p e s m below meth c A9 ls S9 hr hlk hex X9 hP hD hl
  obtain ⟨hx, hb, hml, hown, hts⟩ := id S9
  have hK := X9.2.1
  have hS : va_S A9 s.heap s.heap [] := va_S.rf
  replace hl : lv_has ls 4 [(0, .ref (A 4)), (1, .int x1)] := hl
  have L4 : ∀ (n : Nat) (y1 y2 y3 : Int32) (H : Heap) (locs : List Loc) (ls : Array Slot), f_Tg_quotasIn_L4 σ n y1 y2 y3 = some z → va_P D vwCl (GW A σ r) H → va_D A9 (GW A σ r) → va_S A9 s.heap H locs → lv_has ls 4 [(0, .ref (A 4)), (1, .int y1), (2, .int y2), (3, .int y3)] → W p l e ({ frames := 1, cells := 0, slots := 0, locals := 22 } : Room) s m [.ref (A 4), .int x1].toArray below meth c H locs 0 0 (MQ below (ka_Ri D z (GW A σ r) A9) [.ref (A 4), .int x1].toArray s 0 0 A9) (F0 m 4 ls []) := by
    intro n
    induction n with
    | zero => intro y1 y2 y3 H locs ls h; cases h
    | succ n ih4 =>
      intro y1 y2 y3 H locs ls h hP hD hS hl
      rw [f_Tg_quotasIn_L4] at h
      refine lv_iload_n hx hb d_Tg_quotasIn_4 rfl (lv_at hl 3 rfl) ?_
      refine lv_aload_n hx hb d_Tg_quotasIn_5 rfl (lv_at hl 0 rfl) ?_
      refine va_get (D := D) (ci := 2) (v := .int (gN_made σ)) (C := R_Tg) (T := T_Tg) (N := 12) hx hb hts wu_Tg hown hK hP 4 rfl rfl 11 (by decide) (hts _ wf_Tg_46) (fun _ h9 => h9) rfl d_Tg_quotasIn_6 ?_
      refine lv_icmp_gt (tgt := 36) hx hb d_Tg_quotasIn_9 (by decide) (fun c1 => ?_) (fun c1 => ?_)
      · replace h := zo_t c1 h
        refine lv_iload_n hx hb d_Tg_quotasIn_36 rfl (lv_at hl 2 rfl) ?_
        cases h
        exact W.iret hx hb hr (fun t ht hW => ⟨⟨_, (), rfl, rfl, ka_at ht hP⟩, hS.F ht⟩) hS.2.2 d_Tg_quotasIn_37 hlk
      replace h := zo_f c1 h
      refine lv_aload_n hx hb d_Tg_quotasIn_12 rfl (lv_at hl 0 rfl) ?_
      refine lv_iload_n hx hb d_Tg_quotasIn_13 rfl (lv_at hl 3 rfl) ?_
      refine lv_iload_n hx hb d_Tg_quotasIn_14 rfl (lv_at hl 1 rfl) ?_
      obtain ⟨v2, e9, h⟩ := zo_b h
      refine ka_i (va_runV (As := [.int y3, .int y1]) (rest := []) S9 (c_Tg_isIn l hl9 D A r _ σ y3 y1 _ e9) (cwV 2 hts (tg_V wl_Tg_64 wm_Tg_isIn we_Tg_isIn wi_Tg wo_Tg_isIn) rfl rfl rfl wq_Tg_isIn ⟨Nat.le_of_ble_eq_true rfl, Nat.le_of_ble_eq_true rfl⟩) (ka_preV X9 hP hD hS 4 rfl rfl) rfl rfl hl.1 rfl (lv_room (Nat.le_of_ble_eq_true rfl)) d_Tg_quotasIn_15 ⟨Nat.le_of_ble_eq_true rfl, Nat.le_of_ble_eq_true rfl⟩) X9 hD hS rfl (fun H locs hP hD hS => ?_)
      refine lv_if_eq (tgt := 30) hx hb d_Tg_quotasIn_18 (by decide) (fun c3 => ?_) (fun c3 => ?_)
      · replace h := zo_t c3 h
        refine lv_iinc (v := y3 + 1) (lv' := [(3, .int (y3 + 1)), (0, .ref (A 4)), (1, .int y1), (2, .int y2)]) hx hb d_Tg_quotasIn_30 hl (k := 3) rfl rfl (by decide) rfl (fun ls hl => ?_)
        refine lv_goto (tgt := 4) hx hb d_Tg_quotasIn_33 (by decide) ?_
        exact ih4 y1 y2 (y3 + 1) _ _ _ h hP hD hS (lv_sub hl [1, 2, 3, 0] rfl)
      replace h := zo_f c3 h
      refine lv_iload_n hx hb d_Tg_quotasIn_21 rfl (lv_at hl 2 rfl) ?_
      refine lv_aload_n hx hb d_Tg_quotasIn_22 rfl (lv_at hl 0 rfl) ?_
      refine va_get (D := D) (ci := 2) (v := .ref (A 8)) (C := R_Tg) (T := T_Tg) (N := 12) hx hb hts wu_Tg hown hK hP 4 rfl rfl 3 (by decide) (hts _ wf_Tg_22) (fun _ h9 => h9) rfl d_Tg_quotasIn_23 ?_
      refine lv_iload_n hx hb d_Tg_quotasIn_26 rfl (lv_at hl 3 rfl) ?_
      obtain ⟨i9, h⟩ := zo_i h
      refine va_iald hx hb hK hP 8 0 rfl rfl i9 d_Tg_quotasIn_27 ?_
      refine lv_iadd hx hb d_Tg_quotasIn_28 ?_
      refine lv_istore_n (lv' := [(2, .int (y2 + (gN_quota σ (y3).toNatClampNeg))), (0, .ref (A 4)), (1, .int y1), (3, .int y3)]) hx hb d_Tg_quotasIn_29 rfl hl (by decide) rfl (fun ls hl => ?_)
      refine lv_iinc (v := y3 + 1) (lv' := [(3, .int (y3 + 1)), (2, .int (y2 + (gN_quota σ (y3).toNatClampNeg))), (0, .ref (A 4)), (1, .int y1)]) hx hb d_Tg_quotasIn_30 hl (k := 3) rfl rfl (by decide) rfl (fun ls hl => ?_)
      refine lv_goto (tgt := 4) hx hb d_Tg_quotasIn_33 (by decide) ?_
      exact ih4 y1 (y2 + (gN_quota σ (y3).toNatClampNeg)) (y3 + 1) _ _ _ h hP hD hS (lv_sub hl [2, 3, 1, 0] rfl)
  refine lv_iconst (v := 0) hx hb d_Tg_quotasIn_0 (by decide) ?_
  refine lv_istore_n (lv' := [(2, .int 0), (0, .ref (A 4)), (1, .int x1)]) hx hb d_Tg_quotasIn_1 rfl hl (by decide) rfl (fun ls hl => ?_)
  refine lv_iconst (v := 1) hx hb d_Tg_quotasIn_2 (by decide) ?_
  refine lv_istore_n (lv' := [(3, .int 1), (2, .int 0), (0, .ref (A 4)), (1, .int x1)]) hx hb d_Tg_quotasIn_3 rfl hl (by decide) rfl (fun ls hl => ?_)
  exact L4 100 x1 0 1 _ _ _ h hP hD hS (lv_sub hl [2, 3, 1, 0] rfl)
def f_Tg_useOf (σ : KS) (x1 : Int32) : Option (Int32) := if x1 < 0 ∨ 61 ≤ (x1).toNatClampNeg then none else if (gN_kind σ (x1).toNatClampNeg) = 0 then ((f_Tg_quotasIn σ x1).bind fun v1 => some (1 + v1)) else if (gN_kind σ (x1).toNatClampNeg) = 1 then (if x1 < 0 ∨ 61 ≤ (x1).toNatClampNeg then none else some (1 + (gN_cellCount σ (x1).toNatClampNeg))) else (some 2)
set_option maxRecDepth 100000 in
set_option maxHeartbeats 4000000 in
theorem c_Tg_useOf (l : Launch) (hl9 : l.stackTraces = false) (D : va_G) (A : Nat → Nat) (r : va_W) (sz : Nat) (σ : KS) (x1 : Int32) (z : Int32) (h : f_Tg_useOf σ x1 = some z) : Met l y_Tg_useOf (Cond.code y_Tg_useOf b_Tg_useOf 2 (some .int) :: T0) ({ frames := 2, cells := 0, slots := 0, locals := 45 } : Room) (va_Pc [.ref (A 4), .int x1] (ka_Wd D A (GW A σ r) sz)) (ka_Ri D z (GW A σ r) (va_A (GW A σ r) sz)) 0 0 (va_A (GW A σ r) sz) := by
  unfold f_Tg_useOf at h
  refine ka_of (own := R_Tg) (fun A9 => ka_Ri D z (GW A σ r) A9) (by decide) rfl (Nat.le_of_ble_eq_true rfl) ?_
  intro p e s m below meth c A9 ls S9 hr hlk hex X9 hP hD hl
  obtain ⟨hx, hb, hml, hown, hts⟩ := id S9
  have hK := X9.2.1
  have hS : va_S A9 s.heap s.heap [] := va_S.rf
  replace hl : lv_has ls 2 [(0, .ref (A 4)), (1, .int x1)] := hl
  refine lv_aload_n hx hb d_Tg_useOf_0 rfl (lv_at hl 0 rfl) ?_
  refine va_get (D := D) (ci := 2) (v := .ref (A 6)) (C := R_Tg) (T := T_Tg) (N := 12) hx hb hts wu_Tg hown hK hP 4 rfl rfl 1 (by decide) (hts _ wf_Tg_15) (fun _ h9 => h9) rfl d_Tg_useOf_1 ?_
  refine lv_iload_n hx hb d_Tg_useOf_4 rfl (lv_at hl 1 rfl) ?_
  obtain ⟨i9, h⟩ := zo_i h
  refine va_iald hx hb hK hP 6 0 rfl rfl i9 d_Tg_useOf_5 ?_
  by_cases c9_0 : (gN_kind σ (x1).toNatClampNeg) = 0
  · replace h := zo_t c9_0 h
    refine ka_lookIn (tgt := 32) (off := 26) hx hb d_Tg_useOf_6 c9_0 (by decide) (by decide) (by decide) ?_
    refine lv_iconst (v := 1) hx hb d_Tg_useOf_32 (by decide) ?_
    refine lv_aload_n hx hb d_Tg_useOf_33 rfl (lv_at hl 0 rfl) ?_
    refine lv_iload_n hx hb d_Tg_useOf_34 rfl (lv_at hl 1 rfl) ?_
    obtain ⟨v1, e9, h⟩ := zo_b h
    refine ka_i (va_runV (As := [.int x1]) (rest := [.int 1]) S9 (c_Tg_quotasIn l hl9 D A r _ σ x1 _ e9) (cwV 1 hts (tg_V wl_Tg_68 wm_Tg_quotasIn we_Tg_quotasIn wi_Tg wo_Tg_quotasIn) rfl rfl rfl wq_Tg_quotasIn ⟨Nat.le_of_ble_eq_true rfl, Nat.le_of_ble_eq_true rfl⟩) (ka_preV X9 hP hD hS 4 rfl rfl) rfl rfl hl.1 rfl (lv_room (Nat.le_of_ble_eq_true rfl)) d_Tg_useOf_35 ⟨Nat.le_of_ble_eq_true rfl, Nat.le_of_ble_eq_true rfl⟩) X9 hD hS rfl (fun H locs hP hD hS => ?_)
    refine lv_iadd hx hb d_Tg_useOf_38 ?_
    cases h
    exact W.iret hx hb hr (fun t ht hW => ⟨⟨_, (), rfl, rfl, ka_at ht hP⟩, hS.F ht⟩) hS.2.2 d_Tg_useOf_39 hlk
  replace h := zo_f c9_0 h
  by_cases c9_1 : (gN_kind σ (x1).toNatClampNeg) = 1
  · replace h := zo_t c9_1 h
    refine ka_lookIn (tgt := 40) (off := 34) hx hb d_Tg_useOf_6 c9_1 (by decide) (by decide) (by decide) ?_
    refine lv_iconst (v := 1) hx hb d_Tg_useOf_40 (by decide) ?_
    refine lv_aload_n hx hb d_Tg_useOf_41 rfl (lv_at hl 0 rfl) ?_
    refine va_get (D := D) (ci := 2) (v := .ref (A 14)) (C := R_Tg) (T := T_Tg) (N := 12) hx hb hts wu_Tg hown hK hP 4 rfl rfl 9 (by decide) (hts _ wf_Tg_40) (fun _ h9 => h9) rfl d_Tg_useOf_42 ?_
    refine lv_iload_n hx hb d_Tg_useOf_45 rfl (lv_at hl 1 rfl) ?_
    obtain ⟨i9, h⟩ := zo_i h
    refine va_iald hx hb hK hP 14 0 rfl rfl i9 d_Tg_useOf_46 ?_
    refine lv_iadd hx hb d_Tg_useOf_47 ?_
    cases h
    exact W.iret hx hb hr (fun t ht hW => ⟨⟨_, (), rfl, rfl, ka_at ht hP⟩, hS.F ht⟩) hS.2.2 d_Tg_useOf_48 hlk
  replace h := zo_f c9_1 h
  refine lv_lookup (tgt := 49) (off := 43) hx hb d_Tg_useOf_6 (by decide) ((lv_osw c9_0 (by decide)).trans ((lv_osw c9_1 (by decide)).trans (rfl))) (by decide) ?_
  refine lv_iconst (v := 2) hx hb d_Tg_useOf_49 (by decide) ?_
  cases h
  exact W.iret hx hb hr (fun t ht hW => ⟨⟨_, (), rfl, rfl, ka_at ht hP⟩, hS.F ht⟩) hS.2.2 d_Tg_useOf_50 hlk
def f_Tg_hasNumberLeft (σ : KS) : Option (Int32) := if 60 ≤ (gN_made σ) then (some 0) else (some 1)
set_option maxRecDepth 100000 in
set_option maxHeartbeats 4000000 in
theorem c_Tg_hasNumberLeft (l : Launch) (hl9 : l.stackTraces = false) (D : va_G) (A : Nat → Nat) (r : va_W) (sz : Nat) (σ : KS) (z : Int32) (h : f_Tg_hasNumberLeft σ = some z) : Met l y_Tg_hasNumberLeft (Cond.code y_Tg_hasNumberLeft b_Tg_hasNumberLeft 1 (some .boolean) :: T0) ({ frames := 0, cells := 0, slots := 0, locals := 0 } : Room) (va_Pc [.ref (A 4)] (ka_Wd D A (GW A σ r) sz)) (ka_Ri D z (GW A σ r) (va_A (GW A σ r) sz)) 0 0 (va_A (GW A σ r) sz) := by
  unfold f_Tg_hasNumberLeft at h
  refine ka_of (own := R_Tg) (fun A9 => ka_Ri D z (GW A σ r) A9) (by decide) rfl (Nat.le_of_ble_eq_true rfl) ?_
  intro p e s m below meth c A9 ls S9 hr hlk hex X9 hP hD hl
  obtain ⟨hx, hb, hml, hown, hts⟩ := id S9
  have hK := X9.2.1
  have hS : va_S A9 s.heap s.heap [] := va_S.rf
  replace hl : lv_has ls 1 [(0, .ref (A 4))] := hl
  refine lv_aload_n hx hb d_Tg_hasNumberLeft_0 rfl (lv_at hl 0 rfl) ?_
  refine va_get (D := D) (ci := 2) (v := .int (gN_made σ)) (C := R_Tg) (T := T_Tg) (N := 12) hx hb hts wu_Tg hown hK hP 4 rfl rfl 11 (by decide) (hts _ wf_Tg_46) (fun _ h9 => h9) rfl d_Tg_hasNumberLeft_1 ?_
  refine lv_bipush (v := 60) hx hb d_Tg_hasNumberLeft_4 (by decide) ?_
  refine lv_icmp_ge (tgt := 13) hx hb d_Tg_hasNumberLeft_6 (by decide) (fun c1 => ?_) (fun c1 => ?_)
  · replace h := zo_t c1 h
    refine lv_iconst (v := 0) hx hb d_Tg_hasNumberLeft_13 (by decide) ?_
    cases h
    exact W.zret hx hb hr (by decide) (fun t ht hW => ⟨⟨_, (), rfl, rfl, ka_at ht hP⟩, hS.F ht⟩) hS.2.2 d_Tg_hasNumberLeft_14 hlk
  replace h := zo_f c1 h
  refine lv_iconst (v := 1) hx hb d_Tg_hasNumberLeft_9 (by decide) ?_
  refine lv_goto (tgt := 14) hx hb d_Tg_hasNumberLeft_10 (by decide) ?_
  cases h
  exact W.zret hx hb hr (by decide) (fun t ht hW => ⟨⟨_, (), rfl, rfl, ka_at ht hP⟩, hS.F ht⟩) hS.2.2 d_Tg_hasNumberLeft_14 hlk
def f_Tg_depthOf (σ : KS) (x1 : Int32) : Option (Int32) := if x1 < 0 ∨ 61 ≤ (x1).toNatClampNeg then none else some (gN_depth σ (x1).toNatClampNeg)
set_option maxRecDepth 100000 in
set_option maxHeartbeats 4000000 in
theorem c_Tg_depthOf (l : Launch) (hl9 : l.stackTraces = false) (D : va_G) (A : Nat → Nat) (r : va_W) (sz : Nat) (σ : KS) (x1 : Int32) (z : Int32) (h : f_Tg_depthOf σ x1 = some z) : Met l y_Tg_depthOf (Cond.code y_Tg_depthOf b_Tg_depthOf 2 (some .int) :: T0) ({ frames := 0, cells := 0, slots := 0, locals := 0 } : Room) (va_Pc [.ref (A 4), .int x1] (ka_Wd D A (GW A σ r) sz)) (ka_Ri D z (GW A σ r) (va_A (GW A σ r) sz)) 0 0 (va_A (GW A σ r) sz) := by
  unfold f_Tg_depthOf at h
  refine ka_of (own := R_Tg) (fun A9 => ka_Ri D z (GW A σ r) A9) (by decide) rfl (Nat.le_of_ble_eq_true rfl) ?_
  intro p e s m below meth c A9 ls S9 hr hlk hex X9 hP hD hl
  obtain ⟨hx, hb, hml, hown, hts⟩ := id S9
  have hK := X9.2.1
  have hS : va_S A9 s.heap s.heap [] := va_S.rf
  replace hl : lv_has ls 2 [(0, .ref (A 4)), (1, .int x1)] := hl
  refine lv_aload_n hx hb d_Tg_depthOf_0 rfl (lv_at hl 0 rfl) ?_
  refine va_get (D := D) (ci := 2) (v := .ref (A 10)) (C := R_Tg) (T := T_Tg) (N := 12) hx hb hts wu_Tg hown hK hP 4 rfl rfl 5 (by decide) (hts _ wf_Tg_28) (fun _ h9 => h9) rfl d_Tg_depthOf_1 ?_
  refine lv_iload_n hx hb d_Tg_depthOf_4 rfl (lv_at hl 1 rfl) ?_
  obtain ⟨i9, h⟩ := zo_i h
  refine va_iald hx hb hK hP 10 0 rfl rfl i9 d_Tg_depthOf_5 ?_
  cases h
  exact W.iret hx hb hr (fun t ht hW => ⟨⟨_, (), rfl, rfl, ka_at ht hP⟩, hS.F ht⟩) hS.2.2 d_Tg_depthOf_6 hlk
def f_Tg_add (σ : KS) (x1 x2 x3 x4 : Int32) : Option (Int32 × KS) := if ((gN_made σ) + 1) < 0 ∨ 61 ≤ ((gN_made σ) + 1).toNatClampNeg then none else zl (sN_there σ (upd (gN_there σ) ((gN_made σ) + 1).toNatClampNeg (vp_nar .boolean 1))) fun u1 => if ((gN_made σ) + 1) < 0 ∨ 61 ≤ ((gN_made σ) + 1).toNatClampNeg then none else zl (sN_kind u1 (upd (gN_kind u1) ((gN_made σ) + 1).toNatClampNeg x1)) fun u2 => if ((gN_made σ) + 1) < 0 ∨ 61 ≤ ((gN_made σ) + 1).toNatClampNeg then none else zl (sN_label u2 (upd (gN_label u2) ((gN_made σ) + 1).toNatClampNeg x3)) fun u3 => if ((gN_made σ) + 1) < 0 ∨ 61 ≤ ((gN_made σ) + 1).toNatClampNeg then none else zl (sN_quota u3 (upd (gN_quota u3) ((gN_made σ) + 1).toNatClampNeg x4)) fun u4 => if ((gN_made σ) + 1) < 0 ∨ 61 ≤ ((gN_made σ) + 1).toNatClampNeg then none else zl (sN_place u4 (upd (gN_place u4) ((gN_made σ) + 1).toNatClampNeg x2)) fun u5 => if x2 = 0 then (if ((gN_made σ) + 1) < 0 ∨ 61 ≤ ((gN_made σ) + 1).toNatClampNeg then none else zl (sN_depth u5 (upd (gN_depth u5) ((gN_made σ) + 1).toNatClampNeg 0)) fun u10 => if ((gN_made σ) + 1) < 0 ∨ 61 ≤ ((gN_made σ) + 1).toNatClampNeg then none else zl (sN_clearance u10 (upd (gN_clearance u10) ((gN_made σ) + 1).toNatClampNeg (-1))) fun u11 => zl (sN_made u11 ((gN_made σ) + 1)) fun u12 => some ((gN_made σ) + 1, u12)) else (if x2 < 0 ∨ 61 ≤ (x2).toNatClampNeg then none else if ((gN_made σ) + 1) < 0 ∨ 61 ≤ ((gN_made σ) + 1).toNatClampNeg then none else zl (sN_depth u5 (upd (gN_depth u5) ((gN_made σ) + 1).toNatClampNeg ((gN_depth u5 (x2).toNatClampNeg) + 1))) fun u7 => if ((gN_made σ) + 1) < 0 ∨ 61 ≤ ((gN_made σ) + 1).toNatClampNeg then none else zl (sN_clearance u7 (upd (gN_clearance u7) ((gN_made σ) + 1).toNatClampNeg (-1))) fun u8 => zl (sN_made u8 ((gN_made σ) + 1)) fun u9 => some ((gN_made σ) + 1, u9))
set_option maxRecDepth 100000 in
set_option maxHeartbeats 4000000 in
theorem c_Tg_add (l : Launch) (hl9 : l.stackTraces = false) (D : va_G) (A : Nat → Nat) (r : va_W) (sz : Nat) (σ : KS) (x1 x2 x3 x4 : Int32) (z : Int32 × KS) (h : f_Tg_add σ x1 x2 x3 x4 = some z) : Met l y_Tg_add (Cond.code y_Tg_add b_Tg_add 6 (some .int) :: T0) ({ frames := 0, cells := 0, slots := 0, locals := 0 } : Room) (va_Pc [.ref (A 4), .int x1, .int x2, .int x3, .int x4] (ka_Wd D A (GW A σ r) sz)) (ka_Ri D z.1 (GW A z.2 r) (va_A (GW A σ r) sz)) 0 0 (va_A (GW A σ r) sz) := by
  unfold f_Tg_add at h
  refine ka_of (own := R_Tg) (fun A9 => ka_Ri D z.1 (GW A z.2 r) A9) (by decide) rfl (Nat.le_of_ble_eq_true rfl) ?_
  intro p e s m below meth c A9 ls S9 hr hlk hex X9 hP hD hl
  obtain ⟨hx, hb, hml, hown, hts⟩ := id S9
  have hK := X9.2.1
  have hS : va_S A9 s.heap s.heap [] := va_S.rf
  replace hl : lv_has ls 6 [(0, .ref (A 4)), (1, .int x1), (2, .int x2), (3, .int x3), (4, .int x4)] := hl
  refine lv_aload_n hx hb d_Tg_add_0 rfl (lv_at hl 0 rfl) ?_
  refine va_get (D := D) (ci := 2) (v := .int (gN_made σ)) (C := R_Tg) (T := T_Tg) (N := 12) hx hb hts wu_Tg hown hK hP 4 rfl rfl 11 (by decide) (hts _ wf_Tg_46) (fun _ h9 => h9) rfl d_Tg_add_1 ?_
  refine lv_iconst (v := 1) hx hb d_Tg_add_4 (by decide) ?_
  refine lv_iadd hx hb d_Tg_add_5 ?_
  refine lv_istore (lv' := [(5, .int ((gN_made σ) + 1)), (0, .ref (A 4)), (1, .int x1), (2, .int x2), (3, .int x3), (4, .int x4)]) hx hb d_Tg_add_6 hl (by decide) rfl (fun ls hl => ?_)
  refine lv_aload_n hx hb d_Tg_add_8 rfl (lv_at hl 1 rfl) ?_
  refine va_get (D := D) (ci := 2) (v := .ref (A 5)) (C := R_Tg) (T := T_Tg) (N := 12) hx hb hts wu_Tg hown hK hP 4 rfl rfl 0 (by decide) (hts _ wf_Tg_9) (fun _ h9 => h9) rfl d_Tg_add_9 ?_
  refine lv_iload hx hb d_Tg_add_12 (lv_at hl 0 rfl) ?_
  refine lv_iconst (v := 1) hx hb d_Tg_add_14 (by decide) ?_
  obtain ⟨i9, h⟩ := zo_i h
  obtain ⟨u1, hu9, h⟩ := zo_l h
  refine va_zast hx hb hK hP hD hS 5 1 rfl rfl i9 d_Tg_add_15 (fun H locs hP hD hS => ?_)
  replace hP : va_P D vwCl (GW A u1 r) H := by rw [hu9]; exact hP
  replace hD : va_D A9 (GW A u1 r) := by rw [hu9]; exact hD
  refine lv_aload_n hx hb d_Tg_add_16 rfl (lv_at hl 1 rfl) ?_
  refine va_get (D := D) (ci := 2) (v := .ref (A 6)) (C := R_Tg) (T := T_Tg) (N := 12) hx hb hts wu_Tg hown hK hP 4 rfl rfl 1 (by decide) (hts _ wf_Tg_15) (fun _ h9 => h9) rfl d_Tg_add_17 ?_
  refine lv_iload hx hb d_Tg_add_20 (lv_at hl 0 rfl) ?_
  refine lv_iload_n hx hb d_Tg_add_22 rfl (lv_at hl 2 rfl) ?_
  obtain ⟨i9, h⟩ := zo_i h
  obtain ⟨u2, hu9, h⟩ := zo_l h
  refine va_iast hx hb hK hP hD hS 6 0 rfl rfl i9 d_Tg_add_23 (fun H locs hP hD hS => ?_)
  replace hP : va_P D vwCl (GW A u2 r) H := by rw [hu9]; exact hP
  replace hD : va_D A9 (GW A u2 r) := by rw [hu9]; exact hD
  refine lv_aload_n hx hb d_Tg_add_24 rfl (lv_at hl 1 rfl) ?_
  refine va_get (D := D) (ci := 2) (v := .ref (A 7)) (C := R_Tg) (T := T_Tg) (N := 12) hx hb hts wu_Tg hown hK hP 4 rfl rfl 2 (by decide) (hts _ wf_Tg_19) (fun _ h9 => h9) rfl d_Tg_add_25 ?_
  refine lv_iload hx hb d_Tg_add_28 (lv_at hl 0 rfl) ?_
  refine lv_iload_n hx hb d_Tg_add_30 rfl (lv_at hl 4 rfl) ?_
  obtain ⟨i9, h⟩ := zo_i h
  obtain ⟨u3, hu9, h⟩ := zo_l h
  refine va_iast hx hb hK hP hD hS 7 0 rfl rfl i9 d_Tg_add_31 (fun H locs hP hD hS => ?_)
  replace hP : va_P D vwCl (GW A u3 r) H := by rw [hu9]; exact hP
  replace hD : va_D A9 (GW A u3 r) := by rw [hu9]; exact hD
  refine lv_aload_n hx hb d_Tg_add_32 rfl (lv_at hl 1 rfl) ?_
  refine va_get (D := D) (ci := 2) (v := .ref (A 8)) (C := R_Tg) (T := T_Tg) (N := 12) hx hb hts wu_Tg hown hK hP 4 rfl rfl 3 (by decide) (hts _ wf_Tg_22) (fun _ h9 => h9) rfl d_Tg_add_33 ?_
  refine lv_iload hx hb d_Tg_add_36 (lv_at hl 0 rfl) ?_
  refine lv_iload hx hb d_Tg_add_38 (lv_at hl 5 rfl) ?_
  obtain ⟨i9, h⟩ := zo_i h
  obtain ⟨u4, hu9, h⟩ := zo_l h
  refine va_iast hx hb hK hP hD hS 8 0 rfl rfl i9 d_Tg_add_40 (fun H locs hP hD hS => ?_)
  replace hP : va_P D vwCl (GW A u4 r) H := by rw [hu9]; exact hP
  replace hD : va_D A9 (GW A u4 r) := by rw [hu9]; exact hD
  refine lv_aload_n hx hb d_Tg_add_41 rfl (lv_at hl 1 rfl) ?_
  refine va_get (D := D) (ci := 2) (v := .ref (A 9)) (C := R_Tg) (T := T_Tg) (N := 12) hx hb hts wu_Tg hown hK hP 4 rfl rfl 4 (by decide) (hts _ wf_Tg_25) (fun _ h9 => h9) rfl d_Tg_add_42 ?_
  refine lv_iload hx hb d_Tg_add_45 (lv_at hl 0 rfl) ?_
  refine lv_iload_n hx hb d_Tg_add_47 rfl (lv_at hl 3 rfl) ?_
  obtain ⟨i9, h⟩ := zo_i h
  obtain ⟨u5, hu9, h⟩ := zo_l h
  refine va_iast hx hb hK hP hD hS 9 0 rfl rfl i9 d_Tg_add_48 (fun H locs hP hD hS => ?_)
  replace hP : va_P D vwCl (GW A u5 r) H := by rw [hu9]; exact hP
  replace hD : va_D A9 (GW A u5 r) := by rw [hu9]; exact hD
  refine lv_aload_n hx hb d_Tg_add_49 rfl (lv_at hl 1 rfl) ?_
  refine va_get (D := D) (ci := 2) (v := .ref (A 10)) (C := R_Tg) (T := T_Tg) (N := 12) hx hb hts wu_Tg hown hK hP 4 rfl rfl 5 (by decide) (hts _ wf_Tg_28) (fun _ h9 => h9) rfl d_Tg_add_50 ?_
  refine lv_iload hx hb d_Tg_add_53 (lv_at hl 0 rfl) ?_
  refine lv_iload_n hx hb d_Tg_add_55 rfl (lv_at hl 3 rfl) ?_
  refine lv_if_ne (tgt := 63) hx hb d_Tg_add_56 (by decide) (fun c6 => ?_) (fun c6 => ?_)
  · replace h := zo_f c6 h
    refine lv_aload_n hx hb d_Tg_add_63 rfl (lv_at hl 1 rfl) ?_
    refine va_get (D := D) (ci := 2) (v := .ref (A 10)) (C := R_Tg) (T := T_Tg) (N := 12) hx hb hts wu_Tg hown hK hP 4 rfl rfl 5 (by decide) (hts _ wf_Tg_28) (fun _ h9 => h9) rfl d_Tg_add_64 ?_
    refine lv_iload_n hx hb d_Tg_add_67 rfl (lv_at hl 3 rfl) ?_
    obtain ⟨i9, h⟩ := zo_i h
    refine va_iald hx hb hK hP 10 0 rfl rfl i9 d_Tg_add_68 ?_
    refine lv_iconst (v := 1) hx hb d_Tg_add_69 (by decide) ?_
    refine lv_iadd hx hb d_Tg_add_70 ?_
    obtain ⟨i9, h⟩ := zo_i h
    obtain ⟨u7, hu9, h⟩ := zo_l h
    refine va_iast hx hb hK hP hD hS 10 0 rfl rfl i9 d_Tg_add_71 (fun H locs hP hD hS => ?_)
    replace hP : va_P D vwCl (GW A u7 r) H := by rw [hu9]; exact hP
    replace hD : va_D A9 (GW A u7 r) := by rw [hu9]; exact hD
    refine lv_aload_n hx hb d_Tg_add_72 rfl (lv_at hl 1 rfl) ?_
    refine va_get (D := D) (ci := 2) (v := .ref (A 11)) (C := R_Tg) (T := T_Tg) (N := 12) hx hb hts wu_Tg hown hK hP 4 rfl rfl 6 (by decide) (hts _ wf_Tg_31) (fun _ h9 => h9) rfl d_Tg_add_73 ?_
    refine lv_iload hx hb d_Tg_add_76 (lv_at hl 0 rfl) ?_
    refine lv_iconst (v := (-1)) hx hb d_Tg_add_78 (by decide) ?_
    obtain ⟨i9, h⟩ := zo_i h
    obtain ⟨u8, hu9, h⟩ := zo_l h
    refine va_iast hx hb hK hP hD hS 11 0 rfl rfl i9 d_Tg_add_79 (fun H locs hP hD hS => ?_)
    replace hP : va_P D vwCl (GW A u8 r) H := by rw [hu9]; exact hP
    replace hD : va_D A9 (GW A u8 r) := by rw [hu9]; exact hD
    refine lv_aload_n hx hb d_Tg_add_80 rfl (lv_at hl 1 rfl) ?_
    refine lv_iload hx hb d_Tg_add_81 (lv_at hl 0 rfl) ?_
    obtain ⟨u9, hu9, h⟩ := zo_l h
    refine va_put (D := D) (ci := 2) (v := .int ((gN_made σ) + 1)) (ty := .int) (C := R_Tg) (T := T_Tg) (N := 12) hx hb hts wu_Tg ft_Tg fk_Tg nm_Tg hown hK hP hD hS 4 rfl rfl 11 (by decide) (hts _ wf_Tg_46) (fun _ h9 => h9) rfl (by decide +kernel) rfl rfl (Nat.le_of_ble_eq_true rfl) d_Tg_add_83 (fun H locs hP hD hS => ?_)
    replace hP : va_P D vwCl (GW A u9 r) H := by rw [hu9]; exact hP
    replace hD : va_D A9 (GW A u9 r) := by rw [hu9]; exact hD
    refine lv_iload hx hb d_Tg_add_86 (lv_at hl 0 rfl) ?_
    cases h
    exact W.iret hx hb hr (fun t ht hW => ⟨⟨_, (), rfl, rfl, ka_at ht hP⟩, hS.F ht⟩) hS.2.2 d_Tg_add_88 hlk
  replace h := zo_t c6 h
  refine lv_iconst (v := 0) hx hb d_Tg_add_59 (by decide) ?_
  refine lv_goto (tgt := 71) hx hb d_Tg_add_60 (by decide) ?_
  obtain ⟨i9, h⟩ := zo_i h
  obtain ⟨u10, hu9, h⟩ := zo_l h
  refine va_iast hx hb hK hP hD hS 10 0 rfl rfl i9 d_Tg_add_71 (fun H locs hP hD hS => ?_)
  replace hP : va_P D vwCl (GW A u10 r) H := by rw [hu9]; exact hP
  replace hD : va_D A9 (GW A u10 r) := by rw [hu9]; exact hD
  refine lv_aload_n hx hb d_Tg_add_72 rfl (lv_at hl 1 rfl) ?_
  refine va_get (D := D) (ci := 2) (v := .ref (A 11)) (C := R_Tg) (T := T_Tg) (N := 12) hx hb hts wu_Tg hown hK hP 4 rfl rfl 6 (by decide) (hts _ wf_Tg_31) (fun _ h9 => h9) rfl d_Tg_add_73 ?_
  refine lv_iload hx hb d_Tg_add_76 (lv_at hl 0 rfl) ?_
  refine lv_iconst (v := (-1)) hx hb d_Tg_add_78 (by decide) ?_
  obtain ⟨i9, h⟩ := zo_i h
  obtain ⟨u11, hu9, h⟩ := zo_l h
  refine va_iast hx hb hK hP hD hS 11 0 rfl rfl i9 d_Tg_add_79 (fun H locs hP hD hS => ?_)
  replace hP : va_P D vwCl (GW A u11 r) H := by rw [hu9]; exact hP
  replace hD : va_D A9 (GW A u11 r) := by rw [hu9]; exact hD
  refine lv_aload_n hx hb d_Tg_add_80 rfl (lv_at hl 1 rfl) ?_
  refine lv_iload hx hb d_Tg_add_81 (lv_at hl 0 rfl) ?_
  obtain ⟨u12, hu9, h⟩ := zo_l h
  refine va_put (D := D) (ci := 2) (v := .int ((gN_made σ) + 1)) (ty := .int) (C := R_Tg) (T := T_Tg) (N := 12) hx hb hts wu_Tg ft_Tg fk_Tg nm_Tg hown hK hP hD hS 4 rfl rfl 11 (by decide) (hts _ wf_Tg_46) (fun _ h9 => h9) rfl (by decide +kernel) rfl rfl (Nat.le_of_ble_eq_true rfl) d_Tg_add_83 (fun H locs hP hD hS => ?_)
  replace hP : va_P D vwCl (GW A u12 r) H := by rw [hu9]; exact hP
  replace hD : va_D A9 (GW A u12 r) := by rw [hu9]; exact hD
  refine lv_iload hx hb d_Tg_add_86 (lv_at hl 0 rfl) ?_
  cases h
  exact W.iret hx hb hr (fun t ht hW => ⟨⟨_, (), rfl, rfl, ka_at ht hP⟩, hS.F ht⟩) hS.2.2 d_Tg_add_88 hlk
def f_Tg_setCellCount (σ : KS) (x1 x2 : Int32) : Option (KS) := if x1 < 0 ∨ 61 ≤ (x1).toNatClampNeg then none else zl (sN_cellCount σ (upd (gN_cellCount σ) (x1).toNatClampNeg x2)) fun u1 => some u1
set_option maxRecDepth 100000 in
set_option maxHeartbeats 4000000 in
theorem c_Tg_setCellCount (l : Launch) (hl9 : l.stackTraces = false) (D : va_G) (A : Nat → Nat) (r : va_W) (sz : Nat) (σ : KS) (x1 x2 : Int32) (z : KS) (h : f_Tg_setCellCount σ x1 x2 = some z) : Met l y_Tg_setCellCount (Cond.code y_Tg_setCellCount b_Tg_setCellCount 3 none :: T0) ({ frames := 0, cells := 0, slots := 0, locals := 0 } : Room) (va_Pc [.ref (A 4), .int x1, .int x2] (ka_Wd D A (GW A σ r) sz)) (ka_Rv D (GW A z r) (va_A (GW A σ r) sz)) 0 0 (va_A (GW A σ r) sz) := by
  unfold f_Tg_setCellCount at h
  refine ka_of (own := R_Tg) (fun A9 => ka_Rv D (GW A z r) A9) (by decide) rfl (Nat.le_of_ble_eq_true rfl) ?_
  intro p e s m below meth c A9 ls S9 hr hlk hex X9 hP hD hl
  obtain ⟨hx, hb, hml, hown, hts⟩ := id S9
  have hK := X9.2.1
  have hS : va_S A9 s.heap s.heap [] := va_S.rf
  replace hl : lv_has ls 3 [(0, .ref (A 4)), (1, .int x1), (2, .int x2)] := hl
  refine lv_aload_n hx hb d_Tg_setCellCount_0 rfl (lv_at hl 0 rfl) ?_
  refine va_get (D := D) (ci := 2) (v := .ref (A 14)) (C := R_Tg) (T := T_Tg) (N := 12) hx hb hts wu_Tg hown hK hP 4 rfl rfl 9 (by decide) (hts _ wf_Tg_40) (fun _ h9 => h9) rfl d_Tg_setCellCount_1 ?_
  refine lv_iload_n hx hb d_Tg_setCellCount_4 rfl (lv_at hl 1 rfl) ?_
  refine lv_iload_n hx hb d_Tg_setCellCount_5 rfl (lv_at hl 2 rfl) ?_
  obtain ⟨i9, h⟩ := zo_i h
  obtain ⟨u1, hu9, h⟩ := zo_l h
  refine va_iast hx hb hK hP hD hS 14 0 rfl rfl i9 d_Tg_setCellCount_6 (fun H locs hP hD hS => ?_)
  replace hP : va_P D vwCl (GW A u1 r) H := by rw [hu9]; exact hP
  replace hD : va_D A9 (GW A u1 r) := by rw [hu9]; exact hD
  cases h
  exact W.vret hx hb hr (fun t ht hW => ⟨⟨(), rfl, trivial, ka_at ht hP⟩, hS.F ht⟩) hS.2.2 d_Tg_setCellCount_7 hlk
def f_Tg_setGuardAndEntry (σ : KS) (x1 x2 x3 : Int32) : Option (KS) := if x1 < 0 ∨ 61 ≤ (x1).toNatClampNeg then none else zl (sN_guard σ (upd (gN_guard σ) (x1).toNatClampNeg x2)) fun u1 => if x1 < 0 ∨ 61 ≤ (x1).toNatClampNeg then none else zl (sN_entry u1 (upd (gN_entry u1) (x1).toNatClampNeg x3)) fun u2 => some u2
set_option maxRecDepth 100000 in
set_option maxHeartbeats 4000000 in
theorem c_Tg_setGuardAndEntry (l : Launch) (hl9 : l.stackTraces = false) (D : va_G) (A : Nat → Nat) (r : va_W) (sz : Nat) (σ : KS) (x1 x2 x3 : Int32) (z : KS) (h : f_Tg_setGuardAndEntry σ x1 x2 x3 = some z) : Met l y_Tg_setGuardAndEntry (Cond.code y_Tg_setGuardAndEntry b_Tg_setGuardAndEntry 4 none :: T0) ({ frames := 0, cells := 0, slots := 0, locals := 0 } : Room) (va_Pc [.ref (A 4), .int x1, .int x2, .int x3] (ka_Wd D A (GW A σ r) sz)) (ka_Rv D (GW A z r) (va_A (GW A σ r) sz)) 0 0 (va_A (GW A σ r) sz) := by
  unfold f_Tg_setGuardAndEntry at h
  refine ka_of (own := R_Tg) (fun A9 => ka_Rv D (GW A z r) A9) (by decide) rfl (Nat.le_of_ble_eq_true rfl) ?_
  intro p e s m below meth c A9 ls S9 hr hlk hex X9 hP hD hl
  obtain ⟨hx, hb, hml, hown, hts⟩ := id S9
  have hK := X9.2.1
  have hS : va_S A9 s.heap s.heap [] := va_S.rf
  replace hl : lv_has ls 4 [(0, .ref (A 4)), (1, .int x1), (2, .int x2), (3, .int x3)] := hl
  refine lv_aload_n hx hb d_Tg_setGuardAndEntry_0 rfl (lv_at hl 0 rfl) ?_
  refine va_get (D := D) (ci := 2) (v := .ref (A 12)) (C := R_Tg) (T := T_Tg) (N := 12) hx hb hts wu_Tg hown hK hP 4 rfl rfl 7 (by decide) (hts _ wf_Tg_34) (fun _ h9 => h9) rfl d_Tg_setGuardAndEntry_1 ?_
  refine lv_iload_n hx hb d_Tg_setGuardAndEntry_4 rfl (lv_at hl 1 rfl) ?_
  refine lv_iload_n hx hb d_Tg_setGuardAndEntry_5 rfl (lv_at hl 2 rfl) ?_
  obtain ⟨i9, h⟩ := zo_i h
  obtain ⟨u1, hu9, h⟩ := zo_l h
  refine va_iast hx hb hK hP hD hS 12 0 rfl rfl i9 d_Tg_setGuardAndEntry_6 (fun H locs hP hD hS => ?_)
  replace hP : va_P D vwCl (GW A u1 r) H := by rw [hu9]; exact hP
  replace hD : va_D A9 (GW A u1 r) := by rw [hu9]; exact hD
  refine lv_aload_n hx hb d_Tg_setGuardAndEntry_7 rfl (lv_at hl 0 rfl) ?_
  refine va_get (D := D) (ci := 2) (v := .ref (A 13)) (C := R_Tg) (T := T_Tg) (N := 12) hx hb hts wu_Tg hown hK hP 4 rfl rfl 8 (by decide) (hts _ wf_Tg_37) (fun _ h9 => h9) rfl d_Tg_setGuardAndEntry_8 ?_
  refine lv_iload_n hx hb d_Tg_setGuardAndEntry_11 rfl (lv_at hl 1 rfl) ?_
  refine lv_iload_n hx hb d_Tg_setGuardAndEntry_12 rfl (lv_at hl 3 rfl) ?_
  obtain ⟨i9, h⟩ := zo_i h
  obtain ⟨u2, hu9, h⟩ := zo_l h
  refine va_iast hx hb hK hP hD hS 13 0 rfl rfl i9 d_Tg_setGuardAndEntry_13 (fun H locs hP hD hS => ?_)
  replace hP : va_P D vwCl (GW A u2 r) H := by rw [hu9]; exact hP
  replace hD : va_D A9 (GW A u2 r) := by rw [hu9]; exact hD
  cases h
  exact W.vret hx hb hr (fun t ht hW => ⟨⟨(), rfl, trivial, ka_at ht hP⟩, hS.F ht⟩) hS.2.2 d_Tg_setGuardAndEntry_14 hlk
def f_Tg_cellCountOf (σ : KS) (x1 : Int32) : Option (Int32) := if x1 < 0 ∨ 61 ≤ (x1).toNatClampNeg then none else some (gN_cellCount σ (x1).toNatClampNeg)
set_option maxRecDepth 100000 in
set_option maxHeartbeats 4000000 in
theorem c_Tg_cellCountOf (l : Launch) (hl9 : l.stackTraces = false) (D : va_G) (A : Nat → Nat) (r : va_W) (sz : Nat) (σ : KS) (x1 : Int32) (z : Int32) (h : f_Tg_cellCountOf σ x1 = some z) : Met l y_Tg_cellCountOf (Cond.code y_Tg_cellCountOf b_Tg_cellCountOf 2 (some .int) :: T0) ({ frames := 0, cells := 0, slots := 0, locals := 0 } : Room) (va_Pc [.ref (A 4), .int x1] (ka_Wd D A (GW A σ r) sz)) (ka_Ri D z (GW A σ r) (va_A (GW A σ r) sz)) 0 0 (va_A (GW A σ r) sz) := by
  unfold f_Tg_cellCountOf at h
  refine ka_of (own := R_Tg) (fun A9 => ka_Ri D z (GW A σ r) A9) (by decide) rfl (Nat.le_of_ble_eq_true rfl) ?_
  intro p e s m below meth c A9 ls S9 hr hlk hex X9 hP hD hl
  obtain ⟨hx, hb, hml, hown, hts⟩ := id S9
  have hK := X9.2.1
  have hS : va_S A9 s.heap s.heap [] := va_S.rf
  replace hl : lv_has ls 2 [(0, .ref (A 4)), (1, .int x1)] := hl
  refine lv_aload_n hx hb d_Tg_cellCountOf_0 rfl (lv_at hl 0 rfl) ?_
  refine va_get (D := D) (ci := 2) (v := .ref (A 14)) (C := R_Tg) (T := T_Tg) (N := 12) hx hb hts wu_Tg hown hK hP 4 rfl rfl 9 (by decide) (hts _ wf_Tg_40) (fun _ h9 => h9) rfl d_Tg_cellCountOf_1 ?_
  refine lv_iload_n hx hb d_Tg_cellCountOf_4 rfl (lv_at hl 1 rfl) ?_
  obtain ⟨i9, h⟩ := zo_i h
  refine va_iald hx hb hK hP 14 0 rfl rfl i9 d_Tg_cellCountOf_5 ?_
  cases h
  exact W.iret hx hb hr (fun t ht hW => ⟨⟨_, (), rfl, rfl, ka_at ht hP⟩, hS.F ht⟩) hS.2.2 d_Tg_cellCountOf_6 hlk
def f_Tg_cellOf (σ : KS) (x1 x2 : Int32) : Option (Int32) := if ((x1 * 8) + x2) < 0 ∨ 488 ≤ ((x1 * 8) + x2).toNatClampNeg then none else some (gN_cells σ ((x1 * 8) + x2).toNatClampNeg)
set_option maxRecDepth 100000 in
set_option maxHeartbeats 4000000 in
theorem c_Tg_cellOf (l : Launch) (hl9 : l.stackTraces = false) (D : va_G) (A : Nat → Nat) (r : va_W) (sz : Nat) (σ : KS) (x1 x2 : Int32) (z : Int32) (h : f_Tg_cellOf σ x1 x2 = some z) : Met l y_Tg_cellOf (Cond.code y_Tg_cellOf b_Tg_cellOf 3 (some .int) :: T0) ({ frames := 0, cells := 0, slots := 0, locals := 0 } : Room) (va_Pc [.ref (A 4), .int x1, .int x2] (ka_Wd D A (GW A σ r) sz)) (ka_Ri D z (GW A σ r) (va_A (GW A σ r) sz)) 0 0 (va_A (GW A σ r) sz) := by
  unfold f_Tg_cellOf at h
  refine ka_of (own := R_Tg) (fun A9 => ka_Ri D z (GW A σ r) A9) (by decide) rfl (Nat.le_of_ble_eq_true rfl) ?_
  intro p e s m below meth c A9 ls S9 hr hlk hex X9 hP hD hl
  obtain ⟨hx, hb, hml, hown, hts⟩ := id S9
  have hK := X9.2.1
  have hS : va_S A9 s.heap s.heap [] := va_S.rf
  replace hl : lv_has ls 3 [(0, .ref (A 4)), (1, .int x1), (2, .int x2)] := hl
  refine lv_aload_n hx hb d_Tg_cellOf_0 rfl (lv_at hl 0 rfl) ?_
  refine va_get (D := D) (ci := 2) (v := .ref (A 15)) (C := R_Tg) (T := T_Tg) (N := 12) hx hb hts wu_Tg hown hK hP 4 rfl rfl 10 (by decide) (hts _ wf_Tg_43) (fun _ h9 => h9) rfl d_Tg_cellOf_1 ?_
  refine lv_iload_n hx hb d_Tg_cellOf_4 rfl (lv_at hl 1 rfl) ?_
  refine lv_bipush (v := 8) hx hb d_Tg_cellOf_5 (by decide) ?_
  refine lv_imul hx hb d_Tg_cellOf_7 ?_
  refine lv_iload_n hx hb d_Tg_cellOf_8 rfl (lv_at hl 2 rfl) ?_
  refine lv_iadd hx hb d_Tg_cellOf_9 ?_
  obtain ⟨i9, h⟩ := zo_i h
  refine va_iald hx hb hK hP 15 0 rfl rfl i9 d_Tg_cellOf_10 ?_
  cases h
  exact W.iret hx hb hr (fun t ht hW => ⟨⟨_, (), rfl, rfl, ka_at ht hP⟩, hS.F ht⟩) hS.2.2 d_Tg_cellOf_11 hlk
def f_Tg_setCell (σ : KS) (x1 x2 x3 : Int32) : Option (KS) := if ((x1 * 8) + x2) < 0 ∨ 488 ≤ ((x1 * 8) + x2).toNatClampNeg then none else zl (sN_cells σ (upd (gN_cells σ) ((x1 * 8) + x2).toNatClampNeg x3)) fun u1 => some u1
set_option maxRecDepth 100000 in
set_option maxHeartbeats 4000000 in
theorem c_Tg_setCell (l : Launch) (hl9 : l.stackTraces = false) (D : va_G) (A : Nat → Nat) (r : va_W) (sz : Nat) (σ : KS) (x1 x2 x3 : Int32) (z : KS) (h : f_Tg_setCell σ x1 x2 x3 = some z) : Met l y_Tg_setCell (Cond.code y_Tg_setCell b_Tg_setCell 4 none :: T0) ({ frames := 0, cells := 0, slots := 0, locals := 0 } : Room) (va_Pc [.ref (A 4), .int x1, .int x2, .int x3] (ka_Wd D A (GW A σ r) sz)) (ka_Rv D (GW A z r) (va_A (GW A σ r) sz)) 0 0 (va_A (GW A σ r) sz) := by
  unfold f_Tg_setCell at h
  refine ka_of (own := R_Tg) (fun A9 => ka_Rv D (GW A z r) A9) (by decide) rfl (Nat.le_of_ble_eq_true rfl) ?_
  intro p e s m below meth c A9 ls S9 hr hlk hex X9 hP hD hl
  obtain ⟨hx, hb, hml, hown, hts⟩ := id S9
  have hK := X9.2.1
  have hS : va_S A9 s.heap s.heap [] := va_S.rf
  replace hl : lv_has ls 4 [(0, .ref (A 4)), (1, .int x1), (2, .int x2), (3, .int x3)] := hl
  refine lv_aload_n hx hb d_Tg_setCell_0 rfl (lv_at hl 0 rfl) ?_
  refine va_get (D := D) (ci := 2) (v := .ref (A 15)) (C := R_Tg) (T := T_Tg) (N := 12) hx hb hts wu_Tg hown hK hP 4 rfl rfl 10 (by decide) (hts _ wf_Tg_43) (fun _ h9 => h9) rfl d_Tg_setCell_1 ?_
  refine lv_iload_n hx hb d_Tg_setCell_4 rfl (lv_at hl 1 rfl) ?_
  refine lv_bipush (v := 8) hx hb d_Tg_setCell_5 (by decide) ?_
  refine lv_imul hx hb d_Tg_setCell_7 ?_
  refine lv_iload_n hx hb d_Tg_setCell_8 rfl (lv_at hl 2 rfl) ?_
  refine lv_iadd hx hb d_Tg_setCell_9 ?_
  refine lv_iload_n hx hb d_Tg_setCell_10 rfl (lv_at hl 3 rfl) ?_
  obtain ⟨i9, h⟩ := zo_i h
  obtain ⟨u1, hu9, h⟩ := zo_l h
  refine va_iast hx hb hK hP hD hS 15 0 rfl rfl i9 d_Tg_setCell_11 (fun H locs hP hD hS => ?_)
  replace hP : va_P D vwCl (GW A u1 r) H := by rw [hu9]; exact hP
  replace hD : va_D A9 (GW A u1 r) := by rw [hu9]; exact hD
  cases h
  exact W.vret hx hb hr (fun t ht hW => ⟨⟨(), rfl, trivial, ka_at ht hP⟩, hS.F ht⟩) hS.2.2 d_Tg_setCell_12 hlk
def f_Tg_setQuota (σ : KS) (x1 x2 : Int32) : Option (KS) := if x1 < 0 ∨ 61 ≤ (x1).toNatClampNeg then none else zl (sN_quota σ (upd (gN_quota σ) (x1).toNatClampNeg x2)) fun u1 => some u1
set_option maxRecDepth 100000 in
set_option maxHeartbeats 4000000 in
theorem c_Tg_setQuota (l : Launch) (hl9 : l.stackTraces = false) (D : va_G) (A : Nat → Nat) (r : va_W) (sz : Nat) (σ : KS) (x1 x2 : Int32) (z : KS) (h : f_Tg_setQuota σ x1 x2 = some z) : Met l y_Tg_setQuota (Cond.code y_Tg_setQuota b_Tg_setQuota 3 none :: T0) ({ frames := 0, cells := 0, slots := 0, locals := 0 } : Room) (va_Pc [.ref (A 4), .int x1, .int x2] (ka_Wd D A (GW A σ r) sz)) (ka_Rv D (GW A z r) (va_A (GW A σ r) sz)) 0 0 (va_A (GW A σ r) sz) := by
  unfold f_Tg_setQuota at h
  refine ka_of (own := R_Tg) (fun A9 => ka_Rv D (GW A z r) A9) (by decide) rfl (Nat.le_of_ble_eq_true rfl) ?_
  intro p e s m below meth c A9 ls S9 hr hlk hex X9 hP hD hl
  obtain ⟨hx, hb, hml, hown, hts⟩ := id S9
  have hK := X9.2.1
  have hS : va_S A9 s.heap s.heap [] := va_S.rf
  replace hl : lv_has ls 3 [(0, .ref (A 4)), (1, .int x1), (2, .int x2)] := hl
  refine lv_aload_n hx hb d_Tg_setQuota_0 rfl (lv_at hl 0 rfl) ?_
  refine va_get (D := D) (ci := 2) (v := .ref (A 8)) (C := R_Tg) (T := T_Tg) (N := 12) hx hb hts wu_Tg hown hK hP 4 rfl rfl 3 (by decide) (hts _ wf_Tg_22) (fun _ h9 => h9) rfl d_Tg_setQuota_1 ?_
  refine lv_iload_n hx hb d_Tg_setQuota_4 rfl (lv_at hl 1 rfl) ?_
  refine lv_iload_n hx hb d_Tg_setQuota_5 rfl (lv_at hl 2 rfl) ?_
  obtain ⟨i9, h⟩ := zo_i h
  obtain ⟨u1, hu9, h⟩ := zo_l h
  refine va_iast hx hb hK hP hD hS 8 0 rfl rfl i9 d_Tg_setQuota_6 (fun H locs hP hD hS => ?_)
  replace hP : va_P D vwCl (GW A u1 r) H := by rw [hu9]; exact hP
  replace hD : va_D A9 (GW A u1 r) := by rw [hu9]; exact hD
  cases h
  exact W.vret hx hb hr (fun t ht hW => ⟨⟨(), rfl, trivial, ka_at ht hP⟩, hS.F ht⟩) hS.2.2 d_Tg_setQuota_7 hlk
def f_Tg_removeTree_L13 : Nat → KS → Int32 → Int32 → Int32 → Option (Int32 × KS)
  | 0, _, _, _, _ => none
  | n + 1, u, y1, y2, y3 => if (gN_made u) < y3 then (some (y2, u)) else (if y3 < 0 ∨ 61 ≤ (y3).toNatClampNeg then none else if (gN_there u (y3).toNatClampNeg) = 0 then (f_Tg_removeTree_L13 n u y1 y2 (y3 + 1)) else (if y3 < 0 ∨ 61 ≤ (y3).toNatClampNeg then none else if (gN_place u (y3).toNatClampNeg) < 0 ∨ 61 ≤ (gN_place u (y3).toNatClampNeg).toNatClampNeg then none else if (gN_there u (gN_place u (y3).toNatClampNeg).toNatClampNeg) = 0 then (if y3 < 0 ∨ 61 ≤ (y3).toNatClampNeg then none else zl (sN_there u (upd (gN_there u) (y3).toNatClampNeg (vp_nar .boolean 0))) fun u5 => f_Tg_removeTree_L13 n u5 y1 (y2 + 1) (y3 + 1)) else (f_Tg_removeTree_L13 n u y1 y2 (y3 + 1))))
def f_Tg_removeTree (σ : KS) (x1 : Int32) : Option (Int32 × KS) := if x1 < 0 ∨ 61 ≤ (x1).toNatClampNeg then none else zl (sN_there σ (upd (gN_there σ) (x1).toNatClampNeg (vp_nar .boolean 0))) fun u1 => f_Tg_removeTree_L13 100 u1 x1 1 (x1 + 1)
set_option maxRecDepth 100000 in
set_option maxHeartbeats 4000000 in
theorem c_Tg_removeTree (l : Launch) (hl9 : l.stackTraces = false) (D : va_G) (A : Nat → Nat) (r : va_W) (sz : Nat) (σ : KS) (x1 : Int32) (z : Int32 × KS) (h : f_Tg_removeTree σ x1 = some z) : Met l y_Tg_removeTree (Cond.code y_Tg_removeTree b_Tg_removeTree 4 (some .int) :: T0) ({ frames := 0, cells := 0, slots := 0, locals := 0 } : Room) (va_Pc [.ref (A 4), .int x1] (ka_Wd D A (GW A σ r) sz)) (ka_Ri D z.1 (GW A z.2 r) (va_A (GW A σ r) sz)) 0 0 (va_A (GW A σ r) sz) := by
  unfold f_Tg_removeTree at h
  refine ka_of (own := R_Tg) (fun A9 => ka_Ri D z.1 (GW A z.2 r) A9) (by decide) rfl (Nat.le_of_ble_eq_true rfl) ?_
  intro p e s m below meth c A9 ls S9 hr hlk hex X9 hP hD hl
  obtain ⟨hx, hb, hml, hown, hts⟩ := id S9
  have hK := X9.2.1
  have hS : va_S A9 s.heap s.heap [] := va_S.rf
  replace hl : lv_has ls 4 [(0, .ref (A 4)), (1, .int x1)] := hl
  have L13 : ∀ (n : Nat) (u : KS) (y1 y2 y3 : Int32) (H : Heap) (locs : List Loc) (ls : Array Slot), f_Tg_removeTree_L13 n u y1 y2 y3 = some z → va_P D vwCl (GW A u r) H → va_D A9 (GW A u r) → va_S A9 s.heap H locs → lv_has ls 4 [(0, .ref (A 4)), (1, .int y1), (2, .int y2), (3, .int y3)] → W p l e ({ frames := 0, cells := 0, slots := 0, locals := 0 } : Room) s m [.ref (A 4), .int x1].toArray below meth c H locs 0 0 (MQ below (ka_Ri D z.1 (GW A z.2 r) A9) [.ref (A 4), .int x1].toArray s 0 0 A9) (F0 m 13 ls []) := by
    intro n
    induction n with
    | zero => intro u y1 y2 y3 H locs ls h; cases h
    | succ n ih13 =>
      intro u y1 y2 y3 H locs ls h hP hD hS hl
      rw [f_Tg_removeTree_L13] at h
      refine lv_iload_n hx hb d_Tg_removeTree_13 rfl (lv_at hl 3 rfl) ?_
      refine lv_aload_n hx hb d_Tg_removeTree_14 rfl (lv_at hl 0 rfl) ?_
      refine va_get (D := D) (ci := 2) (v := .int (gN_made u)) (C := R_Tg) (T := T_Tg) (N := 12) hx hb hts wu_Tg hown hK hP 4 rfl rfl 11 (by decide) (hts _ wf_Tg_46) (fun _ h9 => h9) rfl d_Tg_removeTree_15 ?_
      refine lv_icmp_gt (tgt := 60) hx hb d_Tg_removeTree_18 (by decide) (fun c2 => ?_) (fun c2 => ?_)
      · replace h := zo_t c2 h
        refine lv_iload_n hx hb d_Tg_removeTree_60 rfl (lv_at hl 2 rfl) ?_
        cases h
        exact W.iret hx hb hr (fun t ht hW => ⟨⟨_, (), rfl, rfl, ka_at ht hP⟩, hS.F ht⟩) hS.2.2 d_Tg_removeTree_61 hlk
      replace h := zo_f c2 h
      refine lv_aload_n hx hb d_Tg_removeTree_21 rfl (lv_at hl 0 rfl) ?_
      refine va_get (D := D) (ci := 2) (v := .ref (A 5)) (C := R_Tg) (T := T_Tg) (N := 12) hx hb hts wu_Tg hown hK hP 4 rfl rfl 0 (by decide) (hts _ wf_Tg_9) (fun _ h9 => h9) rfl d_Tg_removeTree_22 ?_
      refine lv_iload_n hx hb d_Tg_removeTree_25 rfl (lv_at hl 3 rfl) ?_
      obtain ⟨i9, h⟩ := zo_i h
      refine va_zald hx hb hK hP 5 1 rfl rfl i9 d_Tg_removeTree_26 ?_
      refine lv_if_eq (tgt := 54) hx hb d_Tg_removeTree_27 (by decide) (fun c3 => ?_) (fun c3 => ?_)
      · replace h := zo_t c3 h
        refine lv_iinc (v := y3 + 1) (lv' := [(3, .int (y3 + 1)), (0, .ref (A 4)), (1, .int y1), (2, .int y2)]) hx hb d_Tg_removeTree_54 hl (k := 3) rfl rfl (by decide) rfl (fun ls hl => ?_)
        refine lv_goto (tgt := 13) hx hb d_Tg_removeTree_57 (by decide) ?_
        exact ih13 u y1 y2 (y3 + 1) _ _ _ h hP hD hS (lv_sub hl [1, 2, 3, 0] rfl)
      replace h := zo_f c3 h
      refine lv_aload_n hx hb d_Tg_removeTree_30 rfl (lv_at hl 0 rfl) ?_
      refine va_get (D := D) (ci := 2) (v := .ref (A 5)) (C := R_Tg) (T := T_Tg) (N := 12) hx hb hts wu_Tg hown hK hP 4 rfl rfl 0 (by decide) (hts _ wf_Tg_9) (fun _ h9 => h9) rfl d_Tg_removeTree_31 ?_
      refine lv_aload_n hx hb d_Tg_removeTree_34 rfl (lv_at hl 0 rfl) ?_
      refine va_get (D := D) (ci := 2) (v := .ref (A 9)) (C := R_Tg) (T := T_Tg) (N := 12) hx hb hts wu_Tg hown hK hP 4 rfl rfl 4 (by decide) (hts _ wf_Tg_25) (fun _ h9 => h9) rfl d_Tg_removeTree_35 ?_
      refine lv_iload_n hx hb d_Tg_removeTree_38 rfl (lv_at hl 3 rfl) ?_
      obtain ⟨i9, h⟩ := zo_i h
      refine va_iald hx hb hK hP 9 0 rfl rfl i9 d_Tg_removeTree_39 ?_
      obtain ⟨i9, h⟩ := zo_i h
      refine va_zald hx hb hK hP 5 1 rfl rfl i9 d_Tg_removeTree_40 ?_
      refine lv_if_ne (tgt := 54) hx hb d_Tg_removeTree_41 (by decide) (fun c4 => ?_) (fun c4 => ?_)
      · replace h := zo_f c4 h
        refine lv_iinc (v := y3 + 1) (lv' := [(3, .int (y3 + 1)), (0, .ref (A 4)), (1, .int y1), (2, .int y2)]) hx hb d_Tg_removeTree_54 hl (k := 3) rfl rfl (by decide) rfl (fun ls hl => ?_)
        refine lv_goto (tgt := 13) hx hb d_Tg_removeTree_57 (by decide) ?_
        exact ih13 u y1 y2 (y3 + 1) _ _ _ h hP hD hS (lv_sub hl [1, 2, 3, 0] rfl)
      replace h := zo_t c4 h
      refine lv_aload_n hx hb d_Tg_removeTree_44 rfl (lv_at hl 0 rfl) ?_
      refine va_get (D := D) (ci := 2) (v := .ref (A 5)) (C := R_Tg) (T := T_Tg) (N := 12) hx hb hts wu_Tg hown hK hP 4 rfl rfl 0 (by decide) (hts _ wf_Tg_9) (fun _ h9 => h9) rfl d_Tg_removeTree_45 ?_
      refine lv_iload_n hx hb d_Tg_removeTree_48 rfl (lv_at hl 3 rfl) ?_
      refine lv_iconst (v := 0) hx hb d_Tg_removeTree_49 (by decide) ?_
      obtain ⟨i9, h⟩ := zo_i h
      obtain ⟨u5, hu9, h⟩ := zo_l h
      refine va_zast hx hb hK hP hD hS 5 1 rfl rfl i9 d_Tg_removeTree_50 (fun H locs hP hD hS => ?_)
      replace hP : va_P D vwCl (GW A u5 r) H := by rw [hu9]; exact hP
      replace hD : va_D A9 (GW A u5 r) := by rw [hu9]; exact hD
      refine lv_iinc (v := y2 + 1) (lv' := [(2, .int (y2 + 1)), (0, .ref (A 4)), (1, .int y1), (3, .int y3)]) hx hb d_Tg_removeTree_51 hl (k := 2) rfl rfl (by decide) rfl (fun ls hl => ?_)
      refine lv_iinc (v := y3 + 1) (lv' := [(3, .int (y3 + 1)), (2, .int (y2 + 1)), (0, .ref (A 4)), (1, .int y1)]) hx hb d_Tg_removeTree_54 hl (k := 3) rfl rfl (by decide) rfl (fun ls hl => ?_)
      refine lv_goto (tgt := 13) hx hb d_Tg_removeTree_57 (by decide) ?_
      exact ih13 u5 y1 (y2 + 1) (y3 + 1) _ _ _ h hP hD hS (lv_sub hl [2, 3, 1, 0] rfl)
  refine lv_aload_n hx hb d_Tg_removeTree_0 rfl (lv_at hl 0 rfl) ?_
  refine va_get (D := D) (ci := 2) (v := .ref (A 5)) (C := R_Tg) (T := T_Tg) (N := 12) hx hb hts wu_Tg hown hK hP 4 rfl rfl 0 (by decide) (hts _ wf_Tg_9) (fun _ h9 => h9) rfl d_Tg_removeTree_1 ?_
  refine lv_iload_n hx hb d_Tg_removeTree_4 rfl (lv_at hl 1 rfl) ?_
  refine lv_iconst (v := 0) hx hb d_Tg_removeTree_5 (by decide) ?_
  obtain ⟨i9, h⟩ := zo_i h
  obtain ⟨u1, hu9, h⟩ := zo_l h
  refine va_zast hx hb hK hP hD hS 5 1 rfl rfl i9 d_Tg_removeTree_6 (fun H locs hP hD hS => ?_)
  replace hP : va_P D vwCl (GW A u1 r) H := by rw [hu9]; exact hP
  replace hD : va_D A9 (GW A u1 r) := by rw [hu9]; exact hD
  refine lv_iconst (v := 1) hx hb d_Tg_removeTree_7 (by decide) ?_
  refine lv_istore_n (lv' := [(2, .int 1), (0, .ref (A 4)), (1, .int x1)]) hx hb d_Tg_removeTree_8 rfl hl (by decide) rfl (fun ls hl => ?_)
  refine lv_iload_n hx hb d_Tg_removeTree_9 rfl (lv_at hl 2 rfl) ?_
  refine lv_iconst (v := 1) hx hb d_Tg_removeTree_10 (by decide) ?_
  refine lv_iadd hx hb d_Tg_removeTree_11 ?_
  refine lv_istore_n (lv' := [(3, .int (x1 + 1)), (2, .int 1), (0, .ref (A 4)), (1, .int x1)]) hx hb d_Tg_removeTree_12 rfl hl (by decide) rfl (fun ls hl => ?_)
  exact L13 100 u1 x1 1 (x1 + 1) _ _ _ h hP hD hS (lv_sub hl [2, 3, 1, 0] rfl)
def f_Tg_guardOf (σ : KS) (x1 : Int32) : Option (Int32) := if x1 < 0 ∨ 61 ≤ (x1).toNatClampNeg then none else some (gN_guard σ (x1).toNatClampNeg)
set_option maxRecDepth 100000 in
set_option maxHeartbeats 4000000 in
theorem c_Tg_guardOf (l : Launch) (hl9 : l.stackTraces = false) (D : va_G) (A : Nat → Nat) (r : va_W) (sz : Nat) (σ : KS) (x1 : Int32) (z : Int32) (h : f_Tg_guardOf σ x1 = some z) : Met l y_Tg_guardOf (Cond.code y_Tg_guardOf b_Tg_guardOf 2 (some .int) :: T0) ({ frames := 0, cells := 0, slots := 0, locals := 0 } : Room) (va_Pc [.ref (A 4), .int x1] (ka_Wd D A (GW A σ r) sz)) (ka_Ri D z (GW A σ r) (va_A (GW A σ r) sz)) 0 0 (va_A (GW A σ r) sz) := by
  unfold f_Tg_guardOf at h
  refine ka_of (own := R_Tg) (fun A9 => ka_Ri D z (GW A σ r) A9) (by decide) rfl (Nat.le_of_ble_eq_true rfl) ?_
  intro p e s m below meth c A9 ls S9 hr hlk hex X9 hP hD hl
  obtain ⟨hx, hb, hml, hown, hts⟩ := id S9
  have hK := X9.2.1
  have hS : va_S A9 s.heap s.heap [] := va_S.rf
  replace hl : lv_has ls 2 [(0, .ref (A 4)), (1, .int x1)] := hl
  refine lv_aload_n hx hb d_Tg_guardOf_0 rfl (lv_at hl 0 rfl) ?_
  refine va_get (D := D) (ci := 2) (v := .ref (A 12)) (C := R_Tg) (T := T_Tg) (N := 12) hx hb hts wu_Tg hown hK hP 4 rfl rfl 7 (by decide) (hts _ wf_Tg_34) (fun _ h9 => h9) rfl d_Tg_guardOf_1 ?_
  refine lv_iload_n hx hb d_Tg_guardOf_4 rfl (lv_at hl 1 rfl) ?_
  obtain ⟨i9, h⟩ := zo_i h
  refine va_iald hx hb hK hP 12 0 rfl rfl i9 d_Tg_guardOf_5 ?_
  cases h
  exact W.iret hx hb hr (fun t ht hW => ⟨⟨_, (), rfl, rfl, ka_at ht hP⟩, hS.F ht⟩) hS.2.2 d_Tg_guardOf_6 hlk
def f_Tg_entryOf (σ : KS) (x1 : Int32) : Option (Int32) := if x1 < 0 ∨ 61 ≤ (x1).toNatClampNeg then none else some (gN_entry σ (x1).toNatClampNeg)
set_option maxRecDepth 100000 in
set_option maxHeartbeats 4000000 in
theorem c_Tg_entryOf (l : Launch) (hl9 : l.stackTraces = false) (D : va_G) (A : Nat → Nat) (r : va_W) (sz : Nat) (σ : KS) (x1 : Int32) (z : Int32) (h : f_Tg_entryOf σ x1 = some z) : Met l y_Tg_entryOf (Cond.code y_Tg_entryOf b_Tg_entryOf 2 (some .int) :: T0) ({ frames := 0, cells := 0, slots := 0, locals := 0 } : Room) (va_Pc [.ref (A 4), .int x1] (ka_Wd D A (GW A σ r) sz)) (ka_Ri D z (GW A σ r) (va_A (GW A σ r) sz)) 0 0 (va_A (GW A σ r) sz) := by
  unfold f_Tg_entryOf at h
  refine ka_of (own := R_Tg) (fun A9 => ka_Ri D z (GW A σ r) A9) (by decide) rfl (Nat.le_of_ble_eq_true rfl) ?_
  intro p e s m below meth c A9 ls S9 hr hlk hex X9 hP hD hl
  obtain ⟨hx, hb, hml, hown, hts⟩ := id S9
  have hK := X9.2.1
  have hS : va_S A9 s.heap s.heap [] := va_S.rf
  replace hl : lv_has ls 2 [(0, .ref (A 4)), (1, .int x1)] := hl
  refine lv_aload_n hx hb d_Tg_entryOf_0 rfl (lv_at hl 0 rfl) ?_
  refine va_get (D := D) (ci := 2) (v := .ref (A 13)) (C := R_Tg) (T := T_Tg) (N := 12) hx hb hts wu_Tg hown hK hP 4 rfl rfl 8 (by decide) (hts _ wf_Tg_37) (fun _ h9 => h9) rfl d_Tg_entryOf_1 ?_
  refine lv_iload_n hx hb d_Tg_entryOf_4 rfl (lv_at hl 1 rfl) ?_
  obtain ⟨i9, h⟩ := zo_i h
  refine va_iald hx hb hK hP 13 0 rfl rfl i9 d_Tg_entryOf_5 ?_
  cases h
  exact W.iret hx hb hr (fun t ht hW => ⟨⟨_, (), rfl, rfl, ka_at ht hP⟩, hS.F ht⟩) hS.2.2 d_Tg_entryOf_6 hlk
def f_Tg_takeFrom_27_4 (σ : KS) : Option (KS) := if ∀ i, i < (61 : Int32).toNatClampNeg → fits .boolean (.int (gN_there σ ((0 : Int32).toNatClampNeg + i))) = true then (zl (sK_there σ (va_cpy (gN_there σ) (gK_there σ) (0 : Int32).toNatClampNeg (0 : Int32).toNatClampNeg (61 : Int32).toNatClampNeg)) fun u1 => zl (sK_kind u1 (va_cpy (gN_kind u1) (gK_kind u1) (0 : Int32).toNatClampNeg (0 : Int32).toNatClampNeg (61 : Int32).toNatClampNeg)) fun u2 => zl (sK_label u2 (va_cpy (gN_label u2) (gK_label u2) (0 : Int32).toNatClampNeg (0 : Int32).toNatClampNeg (61 : Int32).toNatClampNeg)) fun u3 => zl (sK_quota u3 (va_cpy (gN_quota u3) (gK_quota u3) (0 : Int32).toNatClampNeg (0 : Int32).toNatClampNeg (61 : Int32).toNatClampNeg)) fun u4 => zl (sK_place u4 (va_cpy (gN_place u4) (gK_place u4) (0 : Int32).toNatClampNeg (0 : Int32).toNatClampNeg (61 : Int32).toNatClampNeg)) fun u5 => zl (sK_depth u5 (va_cpy (gN_depth u5) (gK_depth u5) (0 : Int32).toNatClampNeg (0 : Int32).toNatClampNeg (61 : Int32).toNatClampNeg)) fun u6 => zl (sK_clearance u6 (va_cpy (gN_clearance u6) (gK_clearance u6) (0 : Int32).toNatClampNeg (0 : Int32).toNatClampNeg (61 : Int32).toNatClampNeg)) fun u7 => zl (sK_guard u7 (va_cpy (gN_guard u7) (gK_guard u7) (0 : Int32).toNatClampNeg (0 : Int32).toNatClampNeg (61 : Int32).toNatClampNeg)) fun u8 => zl (sK_entry u8 (va_cpy (gN_entry u8) (gK_entry u8) (0 : Int32).toNatClampNeg (0 : Int32).toNatClampNeg (61 : Int32).toNatClampNeg)) fun u9 => zl (sK_cellCount u9 (va_cpy (gN_cellCount u9) (gK_cellCount u9) (0 : Int32).toNatClampNeg (0 : Int32).toNatClampNeg (61 : Int32).toNatClampNeg)) fun u10 => zl (sK_cells u10 (va_cpy (gN_cells u10) (gK_cells u10) (0 : Int32).toNatClampNeg (0 : Int32).toNatClampNeg (488 : Int32).toNatClampNeg)) fun u11 => zl (sK_made u11 (gN_made u11)) fun u12 => some u12) else none
set_option maxRecDepth 100000 in
set_option maxHeartbeats 4000000 in
theorem c_Tg_takeFrom_27_4 (l : Launch) (hl9 : l.stackTraces = false) (D : va_G) (A : Nat → Nat) (r : va_W) (sz : Nat) (σ : KS) (z : KS) (h : f_Tg_takeFrom_27_4 σ = some z) : Met l y_Tg_takeFrom (Cond.code y_Tg_takeFrom b_Tg_takeFrom 2 none :: T0) ({ frames := 1, cells := 0, slots := 0, locals := 60 } : Room) (va_Pc [.ref (A 27), .ref (A 4)] (ka_Wd D A (GW A σ r) sz)) (ka_Rv D (GW A z r) (va_A (GW A σ r) sz)) 0 0 (va_A (GW A σ r) sz) := by
  unfold f_Tg_takeFrom_27_4 at h
  refine ka_of (own := R_Tg) (fun A9 => ka_Rv D (GW A z r) A9) (by decide) rfl (Nat.le_of_ble_eq_true rfl) ?_
  intro p e s m below meth c A9 ls S9 hr hlk hex X9 hP hD hl
  obtain ⟨hx, hb, hml, hown, hts⟩ := id S9
  have hK := X9.2.1
  have hS : va_S A9 s.heap s.heap [] := va_S.rf
  replace hl : lv_has ls 2 [(0, .ref (A 27)), (1, .ref (A 4))] := hl
  refine lv_aload_n hx hb d_Tg_takeFrom_0 rfl (lv_at hl 1 rfl) ?_
  refine va_get (D := D) (ci := 2) (v := .ref (A 5)) (C := R_Tg) (T := T_Tg) (N := 12) hx hb hts wu_Tg hown hK hP 4 rfl rfl 0 (by decide) (hts _ wf_Tg_9) (fun _ h9 => h9) rfl d_Tg_takeFrom_1 ?_
  refine lv_iconst (v := 0) hx hb d_Tg_takeFrom_4 (by decide) ?_
  refine lv_aload_n hx hb d_Tg_takeFrom_5 rfl (lv_at hl 0 rfl) ?_
  refine va_get (D := D) (ci := 2) (v := .ref (A 28)) (C := R_Tg) (T := T_Tg) (N := 12) hx hb hts wu_Tg hown hK hP 27 rfl rfl 0 (by decide) (hts _ wf_Tg_9) (fun _ h9 => h9) rfl d_Tg_takeFrom_6 ?_
  refine lv_iconst (v := 0) hx hb d_Tg_takeFrom_9 (by decide) ?_
  refine lv_aload_n hx hb d_Tg_takeFrom_10 rfl (lv_at hl 0 rfl) ?_
  refine va_get (D := D) (ci := 2) (v := .ref (A 28)) (C := R_Tg) (T := T_Tg) (N := 12) hx hb hts wu_Tg hown hK hP 27 rfl rfl 0 (by decide) (hts _ wf_Tg_9) (fun _ h9 => h9) rfl d_Tg_takeFrom_11 ?_
  refine va_alen (v := 61) hx hb hK hP 28 1 rfl rfl rfl d_Tg_takeFrom_14 ?_
  obtain ⟨b9, h⟩ := zo_g h
  obtain ⟨u1, hu9, h⟩ := zo_l h
  refine va_copyi hx hb (hml.trans hl.1.symm) hown (hts _ wl_Tg_58) (hts _ wv_copy) (hts _ ws_copy) (hts _ wi_System) hK hP hD hS 5 28 1 1 rfl rfl rfl rfl rfl (by decide) (by decide) (by decide) (by decide) (by decide) b9 (Nat.le_of_ble_eq_true rfl) (by decide) d_Tg_takeFrom_15 (fun H locs hP hD hS => ?_)
  replace hP : va_P D vwCl (GW A u1 r) H := by rw [hu9]; exact hP
  replace hD : va_D A9 (GW A u1 r) := by rw [hu9]; exact hD
  refine lv_aload_n hx hb d_Tg_takeFrom_18 rfl (lv_at hl 1 rfl) ?_
  refine va_get (D := D) (ci := 2) (v := .ref (A 6)) (C := R_Tg) (T := T_Tg) (N := 12) hx hb hts wu_Tg hown hK hP 4 rfl rfl 1 (by decide) (hts _ wf_Tg_15) (fun _ h9 => h9) rfl d_Tg_takeFrom_19 ?_
  refine lv_iconst (v := 0) hx hb d_Tg_takeFrom_22 (by decide) ?_
  refine lv_aload_n hx hb d_Tg_takeFrom_23 rfl (lv_at hl 0 rfl) ?_
  refine va_get (D := D) (ci := 2) (v := .ref (A 29)) (C := R_Tg) (T := T_Tg) (N := 12) hx hb hts wu_Tg hown hK hP 27 rfl rfl 1 (by decide) (hts _ wf_Tg_15) (fun _ h9 => h9) rfl d_Tg_takeFrom_24 ?_
  refine lv_iconst (v := 0) hx hb d_Tg_takeFrom_27 (by decide) ?_
  refine lv_aload_n hx hb d_Tg_takeFrom_28 rfl (lv_at hl 0 rfl) ?_
  refine va_get (D := D) (ci := 2) (v := .ref (A 29)) (C := R_Tg) (T := T_Tg) (N := 12) hx hb hts wu_Tg hown hK hP 27 rfl rfl 1 (by decide) (hts _ wf_Tg_15) (fun _ h9 => h9) rfl d_Tg_takeFrom_29 ?_
  refine va_alen (v := 61) hx hb hK hP 29 0 rfl rfl rfl d_Tg_takeFrom_32 ?_
  obtain ⟨u2, hu9, h⟩ := zo_l h
  refine va_copyi hx hb (hml.trans hl.1.symm) hown (hts _ wl_Tg_58) (hts _ wv_copy) (hts _ ws_copy) (hts _ wi_System) hK hP hD hS 6 29 0 0 rfl rfl rfl rfl rfl (by decide) (by decide) (by decide) (by decide) (by decide) (fun _ _ => rfl) (Nat.le_of_ble_eq_true rfl) (by decide) d_Tg_takeFrom_33 (fun H locs hP hD hS => ?_)
  replace hP : va_P D vwCl (GW A u2 r) H := by rw [hu9]; exact hP
  replace hD : va_D A9 (GW A u2 r) := by rw [hu9]; exact hD
  refine lv_aload_n hx hb d_Tg_takeFrom_36 rfl (lv_at hl 1 rfl) ?_
  refine va_get (D := D) (ci := 2) (v := .ref (A 7)) (C := R_Tg) (T := T_Tg) (N := 12) hx hb hts wu_Tg hown hK hP 4 rfl rfl 2 (by decide) (hts _ wf_Tg_19) (fun _ h9 => h9) rfl d_Tg_takeFrom_37 ?_
  refine lv_iconst (v := 0) hx hb d_Tg_takeFrom_40 (by decide) ?_
  refine lv_aload_n hx hb d_Tg_takeFrom_41 rfl (lv_at hl 0 rfl) ?_
  refine va_get (D := D) (ci := 2) (v := .ref (A 30)) (C := R_Tg) (T := T_Tg) (N := 12) hx hb hts wu_Tg hown hK hP 27 rfl rfl 2 (by decide) (hts _ wf_Tg_19) (fun _ h9 => h9) rfl d_Tg_takeFrom_42 ?_
  refine lv_iconst (v := 0) hx hb d_Tg_takeFrom_45 (by decide) ?_
  refine lv_aload_n hx hb d_Tg_takeFrom_46 rfl (lv_at hl 0 rfl) ?_
  refine va_get (D := D) (ci := 2) (v := .ref (A 30)) (C := R_Tg) (T := T_Tg) (N := 12) hx hb hts wu_Tg hown hK hP 27 rfl rfl 2 (by decide) (hts _ wf_Tg_19) (fun _ h9 => h9) rfl d_Tg_takeFrom_47 ?_
  refine va_alen (v := 61) hx hb hK hP 30 0 rfl rfl rfl d_Tg_takeFrom_50 ?_
  obtain ⟨u3, hu9, h⟩ := zo_l h
  refine va_copyi hx hb (hml.trans hl.1.symm) hown (hts _ wl_Tg_58) (hts _ wv_copy) (hts _ ws_copy) (hts _ wi_System) hK hP hD hS 7 30 0 0 rfl rfl rfl rfl rfl (by decide) (by decide) (by decide) (by decide) (by decide) (fun _ _ => rfl) (Nat.le_of_ble_eq_true rfl) (by decide) d_Tg_takeFrom_51 (fun H locs hP hD hS => ?_)
  replace hP : va_P D vwCl (GW A u3 r) H := by rw [hu9]; exact hP
  replace hD : va_D A9 (GW A u3 r) := by rw [hu9]; exact hD
  refine lv_aload_n hx hb d_Tg_takeFrom_54 rfl (lv_at hl 1 rfl) ?_
  refine va_get (D := D) (ci := 2) (v := .ref (A 8)) (C := R_Tg) (T := T_Tg) (N := 12) hx hb hts wu_Tg hown hK hP 4 rfl rfl 3 (by decide) (hts _ wf_Tg_22) (fun _ h9 => h9) rfl d_Tg_takeFrom_55 ?_
  refine lv_iconst (v := 0) hx hb d_Tg_takeFrom_58 (by decide) ?_
  refine lv_aload_n hx hb d_Tg_takeFrom_59 rfl (lv_at hl 0 rfl) ?_
  refine va_get (D := D) (ci := 2) (v := .ref (A 31)) (C := R_Tg) (T := T_Tg) (N := 12) hx hb hts wu_Tg hown hK hP 27 rfl rfl 3 (by decide) (hts _ wf_Tg_22) (fun _ h9 => h9) rfl d_Tg_takeFrom_60 ?_
  refine lv_iconst (v := 0) hx hb d_Tg_takeFrom_63 (by decide) ?_
  refine lv_aload_n hx hb d_Tg_takeFrom_64 rfl (lv_at hl 0 rfl) ?_
  refine va_get (D := D) (ci := 2) (v := .ref (A 31)) (C := R_Tg) (T := T_Tg) (N := 12) hx hb hts wu_Tg hown hK hP 27 rfl rfl 3 (by decide) (hts _ wf_Tg_22) (fun _ h9 => h9) rfl d_Tg_takeFrom_65 ?_
  refine va_alen (v := 61) hx hb hK hP 31 0 rfl rfl rfl d_Tg_takeFrom_68 ?_
  obtain ⟨u4, hu9, h⟩ := zo_l h
  refine va_copyi hx hb (hml.trans hl.1.symm) hown (hts _ wl_Tg_58) (hts _ wv_copy) (hts _ ws_copy) (hts _ wi_System) hK hP hD hS 8 31 0 0 rfl rfl rfl rfl rfl (by decide) (by decide) (by decide) (by decide) (by decide) (fun _ _ => rfl) (Nat.le_of_ble_eq_true rfl) (by decide) d_Tg_takeFrom_69 (fun H locs hP hD hS => ?_)
  replace hP : va_P D vwCl (GW A u4 r) H := by rw [hu9]; exact hP
  replace hD : va_D A9 (GW A u4 r) := by rw [hu9]; exact hD
  refine lv_aload_n hx hb d_Tg_takeFrom_72 rfl (lv_at hl 1 rfl) ?_
  refine va_get (D := D) (ci := 2) (v := .ref (A 9)) (C := R_Tg) (T := T_Tg) (N := 12) hx hb hts wu_Tg hown hK hP 4 rfl rfl 4 (by decide) (hts _ wf_Tg_25) (fun _ h9 => h9) rfl d_Tg_takeFrom_73 ?_
  refine lv_iconst (v := 0) hx hb d_Tg_takeFrom_76 (by decide) ?_
  refine lv_aload_n hx hb d_Tg_takeFrom_77 rfl (lv_at hl 0 rfl) ?_
  refine va_get (D := D) (ci := 2) (v := .ref (A 32)) (C := R_Tg) (T := T_Tg) (N := 12) hx hb hts wu_Tg hown hK hP 27 rfl rfl 4 (by decide) (hts _ wf_Tg_25) (fun _ h9 => h9) rfl d_Tg_takeFrom_78 ?_
  refine lv_iconst (v := 0) hx hb d_Tg_takeFrom_81 (by decide) ?_
  refine lv_aload_n hx hb d_Tg_takeFrom_82 rfl (lv_at hl 0 rfl) ?_
  refine va_get (D := D) (ci := 2) (v := .ref (A 32)) (C := R_Tg) (T := T_Tg) (N := 12) hx hb hts wu_Tg hown hK hP 27 rfl rfl 4 (by decide) (hts _ wf_Tg_25) (fun _ h9 => h9) rfl d_Tg_takeFrom_83 ?_
  refine va_alen (v := 61) hx hb hK hP 32 0 rfl rfl rfl d_Tg_takeFrom_86 ?_
  obtain ⟨u5, hu9, h⟩ := zo_l h
  refine va_copyi hx hb (hml.trans hl.1.symm) hown (hts _ wl_Tg_58) (hts _ wv_copy) (hts _ ws_copy) (hts _ wi_System) hK hP hD hS 9 32 0 0 rfl rfl rfl rfl rfl (by decide) (by decide) (by decide) (by decide) (by decide) (fun _ _ => rfl) (Nat.le_of_ble_eq_true rfl) (by decide) d_Tg_takeFrom_87 (fun H locs hP hD hS => ?_)
  replace hP : va_P D vwCl (GW A u5 r) H := by rw [hu9]; exact hP
  replace hD : va_D A9 (GW A u5 r) := by rw [hu9]; exact hD
  refine lv_aload_n hx hb d_Tg_takeFrom_90 rfl (lv_at hl 1 rfl) ?_
  refine va_get (D := D) (ci := 2) (v := .ref (A 10)) (C := R_Tg) (T := T_Tg) (N := 12) hx hb hts wu_Tg hown hK hP 4 rfl rfl 5 (by decide) (hts _ wf_Tg_28) (fun _ h9 => h9) rfl d_Tg_takeFrom_91 ?_
  refine lv_iconst (v := 0) hx hb d_Tg_takeFrom_94 (by decide) ?_
  refine lv_aload_n hx hb d_Tg_takeFrom_95 rfl (lv_at hl 0 rfl) ?_
  refine va_get (D := D) (ci := 2) (v := .ref (A 33)) (C := R_Tg) (T := T_Tg) (N := 12) hx hb hts wu_Tg hown hK hP 27 rfl rfl 5 (by decide) (hts _ wf_Tg_28) (fun _ h9 => h9) rfl d_Tg_takeFrom_96 ?_
  refine lv_iconst (v := 0) hx hb d_Tg_takeFrom_99 (by decide) ?_
  refine lv_aload_n hx hb d_Tg_takeFrom_100 rfl (lv_at hl 0 rfl) ?_
  refine va_get (D := D) (ci := 2) (v := .ref (A 33)) (C := R_Tg) (T := T_Tg) (N := 12) hx hb hts wu_Tg hown hK hP 27 rfl rfl 5 (by decide) (hts _ wf_Tg_28) (fun _ h9 => h9) rfl d_Tg_takeFrom_101 ?_
  refine va_alen (v := 61) hx hb hK hP 33 0 rfl rfl rfl d_Tg_takeFrom_104 ?_
  obtain ⟨u6, hu9, h⟩ := zo_l h
  refine va_copyi hx hb (hml.trans hl.1.symm) hown (hts _ wl_Tg_58) (hts _ wv_copy) (hts _ ws_copy) (hts _ wi_System) hK hP hD hS 10 33 0 0 rfl rfl rfl rfl rfl (by decide) (by decide) (by decide) (by decide) (by decide) (fun _ _ => rfl) (Nat.le_of_ble_eq_true rfl) (by decide) d_Tg_takeFrom_105 (fun H locs hP hD hS => ?_)
  replace hP : va_P D vwCl (GW A u6 r) H := by rw [hu9]; exact hP
  replace hD : va_D A9 (GW A u6 r) := by rw [hu9]; exact hD
  refine lv_aload_n hx hb d_Tg_takeFrom_108 rfl (lv_at hl 1 rfl) ?_
  refine va_get (D := D) (ci := 2) (v := .ref (A 11)) (C := R_Tg) (T := T_Tg) (N := 12) hx hb hts wu_Tg hown hK hP 4 rfl rfl 6 (by decide) (hts _ wf_Tg_31) (fun _ h9 => h9) rfl d_Tg_takeFrom_109 ?_
  refine lv_iconst (v := 0) hx hb d_Tg_takeFrom_112 (by decide) ?_
  refine lv_aload_n hx hb d_Tg_takeFrom_113 rfl (lv_at hl 0 rfl) ?_
  refine va_get (D := D) (ci := 2) (v := .ref (A 34)) (C := R_Tg) (T := T_Tg) (N := 12) hx hb hts wu_Tg hown hK hP 27 rfl rfl 6 (by decide) (hts _ wf_Tg_31) (fun _ h9 => h9) rfl d_Tg_takeFrom_114 ?_
  refine lv_iconst (v := 0) hx hb d_Tg_takeFrom_117 (by decide) ?_
  refine lv_aload_n hx hb d_Tg_takeFrom_118 rfl (lv_at hl 0 rfl) ?_
  refine va_get (D := D) (ci := 2) (v := .ref (A 34)) (C := R_Tg) (T := T_Tg) (N := 12) hx hb hts wu_Tg hown hK hP 27 rfl rfl 6 (by decide) (hts _ wf_Tg_31) (fun _ h9 => h9) rfl d_Tg_takeFrom_119 ?_
  refine va_alen (v := 61) hx hb hK hP 34 0 rfl rfl rfl d_Tg_takeFrom_122 ?_
  obtain ⟨u7, hu9, h⟩ := zo_l h
  refine va_copyi hx hb (hml.trans hl.1.symm) hown (hts _ wl_Tg_58) (hts _ wv_copy) (hts _ ws_copy) (hts _ wi_System) hK hP hD hS 11 34 0 0 rfl rfl rfl rfl rfl (by decide) (by decide) (by decide) (by decide) (by decide) (fun _ _ => rfl) (Nat.le_of_ble_eq_true rfl) (by decide) d_Tg_takeFrom_123 (fun H locs hP hD hS => ?_)
  replace hP : va_P D vwCl (GW A u7 r) H := by rw [hu9]; exact hP
  replace hD : va_D A9 (GW A u7 r) := by rw [hu9]; exact hD
  refine lv_aload_n hx hb d_Tg_takeFrom_126 rfl (lv_at hl 1 rfl) ?_
  refine va_get (D := D) (ci := 2) (v := .ref (A 12)) (C := R_Tg) (T := T_Tg) (N := 12) hx hb hts wu_Tg hown hK hP 4 rfl rfl 7 (by decide) (hts _ wf_Tg_34) (fun _ h9 => h9) rfl d_Tg_takeFrom_127 ?_
  refine lv_iconst (v := 0) hx hb d_Tg_takeFrom_130 (by decide) ?_
  refine lv_aload_n hx hb d_Tg_takeFrom_131 rfl (lv_at hl 0 rfl) ?_
  refine va_get (D := D) (ci := 2) (v := .ref (A 35)) (C := R_Tg) (T := T_Tg) (N := 12) hx hb hts wu_Tg hown hK hP 27 rfl rfl 7 (by decide) (hts _ wf_Tg_34) (fun _ h9 => h9) rfl d_Tg_takeFrom_132 ?_
  refine lv_iconst (v := 0) hx hb d_Tg_takeFrom_135 (by decide) ?_
  refine lv_aload_n hx hb d_Tg_takeFrom_136 rfl (lv_at hl 0 rfl) ?_
  refine va_get (D := D) (ci := 2) (v := .ref (A 35)) (C := R_Tg) (T := T_Tg) (N := 12) hx hb hts wu_Tg hown hK hP 27 rfl rfl 7 (by decide) (hts _ wf_Tg_34) (fun _ h9 => h9) rfl d_Tg_takeFrom_137 ?_
  refine va_alen (v := 61) hx hb hK hP 35 0 rfl rfl rfl d_Tg_takeFrom_140 ?_
  obtain ⟨u8, hu9, h⟩ := zo_l h
  refine va_copyi hx hb (hml.trans hl.1.symm) hown (hts _ wl_Tg_58) (hts _ wv_copy) (hts _ ws_copy) (hts _ wi_System) hK hP hD hS 12 35 0 0 rfl rfl rfl rfl rfl (by decide) (by decide) (by decide) (by decide) (by decide) (fun _ _ => rfl) (Nat.le_of_ble_eq_true rfl) (by decide) d_Tg_takeFrom_141 (fun H locs hP hD hS => ?_)
  replace hP : va_P D vwCl (GW A u8 r) H := by rw [hu9]; exact hP
  replace hD : va_D A9 (GW A u8 r) := by rw [hu9]; exact hD
  refine lv_aload_n hx hb d_Tg_takeFrom_144 rfl (lv_at hl 1 rfl) ?_
  refine va_get (D := D) (ci := 2) (v := .ref (A 13)) (C := R_Tg) (T := T_Tg) (N := 12) hx hb hts wu_Tg hown hK hP 4 rfl rfl 8 (by decide) (hts _ wf_Tg_37) (fun _ h9 => h9) rfl d_Tg_takeFrom_145 ?_
  refine lv_iconst (v := 0) hx hb d_Tg_takeFrom_148 (by decide) ?_
  refine lv_aload_n hx hb d_Tg_takeFrom_149 rfl (lv_at hl 0 rfl) ?_
  refine va_get (D := D) (ci := 2) (v := .ref (A 36)) (C := R_Tg) (T := T_Tg) (N := 12) hx hb hts wu_Tg hown hK hP 27 rfl rfl 8 (by decide) (hts _ wf_Tg_37) (fun _ h9 => h9) rfl d_Tg_takeFrom_150 ?_
  refine lv_iconst (v := 0) hx hb d_Tg_takeFrom_153 (by decide) ?_
  refine lv_aload_n hx hb d_Tg_takeFrom_154 rfl (lv_at hl 0 rfl) ?_
  refine va_get (D := D) (ci := 2) (v := .ref (A 36)) (C := R_Tg) (T := T_Tg) (N := 12) hx hb hts wu_Tg hown hK hP 27 rfl rfl 8 (by decide) (hts _ wf_Tg_37) (fun _ h9 => h9) rfl d_Tg_takeFrom_155 ?_
  refine va_alen (v := 61) hx hb hK hP 36 0 rfl rfl rfl d_Tg_takeFrom_158 ?_
  obtain ⟨u9, hu9, h⟩ := zo_l h
  refine va_copyi hx hb (hml.trans hl.1.symm) hown (hts _ wl_Tg_58) (hts _ wv_copy) (hts _ ws_copy) (hts _ wi_System) hK hP hD hS 13 36 0 0 rfl rfl rfl rfl rfl (by decide) (by decide) (by decide) (by decide) (by decide) (fun _ _ => rfl) (Nat.le_of_ble_eq_true rfl) (by decide) d_Tg_takeFrom_159 (fun H locs hP hD hS => ?_)
  replace hP : va_P D vwCl (GW A u9 r) H := by rw [hu9]; exact hP
  replace hD : va_D A9 (GW A u9 r) := by rw [hu9]; exact hD
  refine lv_aload_n hx hb d_Tg_takeFrom_162 rfl (lv_at hl 1 rfl) ?_
  refine va_get (D := D) (ci := 2) (v := .ref (A 14)) (C := R_Tg) (T := T_Tg) (N := 12) hx hb hts wu_Tg hown hK hP 4 rfl rfl 9 (by decide) (hts _ wf_Tg_40) (fun _ h9 => h9) rfl d_Tg_takeFrom_163 ?_
  refine lv_iconst (v := 0) hx hb d_Tg_takeFrom_166 (by decide) ?_
  refine lv_aload_n hx hb d_Tg_takeFrom_167 rfl (lv_at hl 0 rfl) ?_
  refine va_get (D := D) (ci := 2) (v := .ref (A 37)) (C := R_Tg) (T := T_Tg) (N := 12) hx hb hts wu_Tg hown hK hP 27 rfl rfl 9 (by decide) (hts _ wf_Tg_40) (fun _ h9 => h9) rfl d_Tg_takeFrom_168 ?_
  refine lv_iconst (v := 0) hx hb d_Tg_takeFrom_171 (by decide) ?_
  refine lv_aload_n hx hb d_Tg_takeFrom_172 rfl (lv_at hl 0 rfl) ?_
  refine va_get (D := D) (ci := 2) (v := .ref (A 37)) (C := R_Tg) (T := T_Tg) (N := 12) hx hb hts wu_Tg hown hK hP 27 rfl rfl 9 (by decide) (hts _ wf_Tg_40) (fun _ h9 => h9) rfl d_Tg_takeFrom_173 ?_
  refine va_alen (v := 61) hx hb hK hP 37 0 rfl rfl rfl d_Tg_takeFrom_176 ?_
  obtain ⟨u10, hu9, h⟩ := zo_l h
  refine va_copyi hx hb (hml.trans hl.1.symm) hown (hts _ wl_Tg_58) (hts _ wv_copy) (hts _ ws_copy) (hts _ wi_System) hK hP hD hS 14 37 0 0 rfl rfl rfl rfl rfl (by decide) (by decide) (by decide) (by decide) (by decide) (fun _ _ => rfl) (Nat.le_of_ble_eq_true rfl) (by decide) d_Tg_takeFrom_177 (fun H locs hP hD hS => ?_)
  replace hP : va_P D vwCl (GW A u10 r) H := by rw [hu9]; exact hP
  replace hD : va_D A9 (GW A u10 r) := by rw [hu9]; exact hD
  refine lv_aload_n hx hb d_Tg_takeFrom_180 rfl (lv_at hl 1 rfl) ?_
  refine va_get (D := D) (ci := 2) (v := .ref (A 15)) (C := R_Tg) (T := T_Tg) (N := 12) hx hb hts wu_Tg hown hK hP 4 rfl rfl 10 (by decide) (hts _ wf_Tg_43) (fun _ h9 => h9) rfl d_Tg_takeFrom_181 ?_
  refine lv_iconst (v := 0) hx hb d_Tg_takeFrom_184 (by decide) ?_
  refine lv_aload_n hx hb d_Tg_takeFrom_185 rfl (lv_at hl 0 rfl) ?_
  refine va_get (D := D) (ci := 2) (v := .ref (A 38)) (C := R_Tg) (T := T_Tg) (N := 12) hx hb hts wu_Tg hown hK hP 27 rfl rfl 10 (by decide) (hts _ wf_Tg_43) (fun _ h9 => h9) rfl d_Tg_takeFrom_186 ?_
  refine lv_iconst (v := 0) hx hb d_Tg_takeFrom_189 (by decide) ?_
  refine lv_aload_n hx hb d_Tg_takeFrom_190 rfl (lv_at hl 0 rfl) ?_
  refine va_get (D := D) (ci := 2) (v := .ref (A 38)) (C := R_Tg) (T := T_Tg) (N := 12) hx hb hts wu_Tg hown hK hP 27 rfl rfl 10 (by decide) (hts _ wf_Tg_43) (fun _ h9 => h9) rfl d_Tg_takeFrom_191 ?_
  refine va_alen (v := 488) hx hb hK hP 38 0 rfl rfl rfl d_Tg_takeFrom_194 ?_
  obtain ⟨u11, hu9, h⟩ := zo_l h
  refine va_copyi hx hb (hml.trans hl.1.symm) hown (hts _ wl_Tg_58) (hts _ wv_copy) (hts _ ws_copy) (hts _ wi_System) hK hP hD hS 15 38 0 0 rfl rfl rfl rfl rfl (by decide) (by decide) (by decide) (by decide) (by decide) (fun _ _ => rfl) (Nat.le_of_ble_eq_true rfl) (by decide) d_Tg_takeFrom_195 (fun H locs hP hD hS => ?_)
  replace hP : va_P D vwCl (GW A u11 r) H := by rw [hu9]; exact hP
  replace hD : va_D A9 (GW A u11 r) := by rw [hu9]; exact hD
  refine lv_aload_n hx hb d_Tg_takeFrom_198 rfl (lv_at hl 0 rfl) ?_
  refine lv_aload_n hx hb d_Tg_takeFrom_199 rfl (lv_at hl 1 rfl) ?_
  refine va_get (D := D) (ci := 2) (v := .int (gN_made u11)) (C := R_Tg) (T := T_Tg) (N := 12) hx hb hts wu_Tg hown hK hP 4 rfl rfl 11 (by decide) (hts _ wf_Tg_46) (fun _ h9 => h9) rfl d_Tg_takeFrom_200 ?_
  obtain ⟨u12, hu9, h⟩ := zo_l h
  refine va_put (D := D) (ci := 2) (v := .int (gN_made u11)) (ty := .int) (C := R_Tg) (T := T_Tg) (N := 12) hx hb hts wu_Tg ft_Tg fk_Tg nm_Tg hown hK hP hD hS 27 rfl rfl 11 (by decide) (hts _ wf_Tg_46) (fun _ h9 => h9) rfl (by decide +kernel) rfl rfl (Nat.le_of_ble_eq_true rfl) d_Tg_takeFrom_203 (fun H locs hP hD hS => ?_)
  replace hP : va_P D vwCl (GW A u12 r) H := by rw [hu9]; exact hP
  replace hD : va_D A9 (GW A u12 r) := by rw [hu9]; exact hD
  cases h
  exact W.vret hx hb hr (fun t ht hW => ⟨⟨(), rfl, trivial, ka_at ht hP⟩, hS.F ht⟩) hS.2.2 d_Tg_takeFrom_206 hlk
def f_Tg_howMany_L4 (σ : KS) : Nat → Int32 → Int32 → Option (Int32)
  | 0, _, _ => none
  | n + 1, y1, y2 => if (gN_made σ) < y2 then (some y1) else (if y2 < 0 ∨ 61 ≤ (y2).toNatClampNeg then none else if (gN_there σ (y2).toNatClampNeg) = 0 then (f_Tg_howMany_L4 σ n y1 (y2 + 1)) else (f_Tg_howMany_L4 σ n (y1 + 1) (y2 + 1)))
def f_Tg_howMany (σ : KS) : Option (Int32) := f_Tg_howMany_L4 σ 100 0 1
set_option maxRecDepth 100000 in
set_option maxHeartbeats 4000000 in
theorem c_Tg_howMany (l : Launch) (hl9 : l.stackTraces = false) (D : va_G) (A : Nat → Nat) (r : va_W) (sz : Nat) (σ : KS) (z : Int32) (h : f_Tg_howMany σ = some z) : Met l y_Tg_howMany (Cond.code y_Tg_howMany b_Tg_howMany 3 (some .int) :: T0) ({ frames := 0, cells := 0, slots := 0, locals := 0 } : Room) (va_Pc [.ref (A 4)] (ka_Wd D A (GW A σ r) sz)) (ka_Ri D z (GW A σ r) (va_A (GW A σ r) sz)) 0 0 (va_A (GW A σ r) sz) := by
  unfold f_Tg_howMany at h
  refine ka_of (own := R_Tg) (fun A9 => ka_Ri D z (GW A σ r) A9) (by decide) rfl (Nat.le_of_ble_eq_true rfl) ?_
  intro p e s m below meth c A9 ls S9 hr hlk hex X9 hP hD hl
  obtain ⟨hx, hb, hml, hown, hts⟩ := id S9
  have hK := X9.2.1
  have hS : va_S A9 s.heap s.heap [] := va_S.rf
  replace hl : lv_has ls 3 [(0, .ref (A 4))] := hl
  have L4 : ∀ (n : Nat) (y1 y2 : Int32) (H : Heap) (locs : List Loc) (ls : Array Slot), f_Tg_howMany_L4 σ n y1 y2 = some z → va_P D vwCl (GW A σ r) H → va_D A9 (GW A σ r) → va_S A9 s.heap H locs → lv_has ls 3 [(0, .ref (A 4)), (1, .int y1), (2, .int y2)] → W p l e ({ frames := 0, cells := 0, slots := 0, locals := 0 } : Room) s m [.ref (A 4)].toArray below meth c H locs 0 0 (MQ below (ka_Ri D z (GW A σ r) A9) [.ref (A 4)].toArray s 0 0 A9) (F0 m 4 ls []) := by
    intro n
    induction n with
    | zero => intro y1 y2 H locs ls h; cases h
    | succ n ih4 =>
      intro y1 y2 H locs ls h hP hD hS hl
      rw [f_Tg_howMany_L4] at h
      refine lv_iload_n hx hb d_Tg_howMany_4 rfl (lv_at hl 2 rfl) ?_
      refine lv_aload_n hx hb d_Tg_howMany_5 rfl (lv_at hl 0 rfl) ?_
      refine va_get (D := D) (ci := 2) (v := .int (gN_made σ)) (C := R_Tg) (T := T_Tg) (N := 12) hx hb hts wu_Tg hown hK hP 4 rfl rfl 11 (by decide) (hts _ wf_Tg_46) (fun _ h9 => h9) rfl d_Tg_howMany_6 ?_
      refine lv_icmp_gt (tgt := 30) hx hb d_Tg_howMany_9 (by decide) (fun c1 => ?_) (fun c1 => ?_)
      · replace h := zo_t c1 h
        refine lv_iload_n hx hb d_Tg_howMany_30 rfl (lv_at hl 1 rfl) ?_
        cases h
        exact W.iret hx hb hr (fun t ht hW => ⟨⟨_, (), rfl, rfl, ka_at ht hP⟩, hS.F ht⟩) hS.2.2 d_Tg_howMany_31 hlk
      replace h := zo_f c1 h
      refine lv_aload_n hx hb d_Tg_howMany_12 rfl (lv_at hl 0 rfl) ?_
      refine va_get (D := D) (ci := 2) (v := .ref (A 5)) (C := R_Tg) (T := T_Tg) (N := 12) hx hb hts wu_Tg hown hK hP 4 rfl rfl 0 (by decide) (hts _ wf_Tg_9) (fun _ h9 => h9) rfl d_Tg_howMany_13 ?_
      refine lv_iload_n hx hb d_Tg_howMany_16 rfl (lv_at hl 2 rfl) ?_
      obtain ⟨i9, h⟩ := zo_i h
      refine va_zald hx hb hK hP 5 1 rfl rfl i9 d_Tg_howMany_17 ?_
      refine lv_if_eq (tgt := 24) hx hb d_Tg_howMany_18 (by decide) (fun c2 => ?_) (fun c2 => ?_)
      · replace h := zo_t c2 h
        refine lv_iinc (v := y2 + 1) (lv' := [(2, .int (y2 + 1)), (0, .ref (A 4)), (1, .int y1)]) hx hb d_Tg_howMany_24 hl (k := 2) rfl rfl (by decide) rfl (fun ls hl => ?_)
        refine lv_goto (tgt := 4) hx hb d_Tg_howMany_27 (by decide) ?_
        exact ih4 y1 (y2 + 1) _ _ _ h hP hD hS (lv_sub hl [1, 2, 0] rfl)
      replace h := zo_f c2 h
      refine lv_iinc (v := y1 + 1) (lv' := [(1, .int (y1 + 1)), (0, .ref (A 4)), (2, .int y2)]) hx hb d_Tg_howMany_21 hl (k := 1) rfl rfl (by decide) rfl (fun ls hl => ?_)
      refine lv_iinc (v := y2 + 1) (lv' := [(2, .int (y2 + 1)), (1, .int (y1 + 1)), (0, .ref (A 4))]) hx hb d_Tg_howMany_24 hl (k := 2) rfl rfl (by decide) rfl (fun ls hl => ?_)
      refine lv_goto (tgt := 4) hx hb d_Tg_howMany_27 (by decide) ?_
      exact ih4 (y1 + 1) (y2 + 1) _ _ _ h hP hD hS (lv_sub hl [2, 1, 0] rfl)
  refine lv_iconst (v := 0) hx hb d_Tg_howMany_0 (by decide) ?_
  refine lv_istore_n (lv' := [(1, .int 0), (0, .ref (A 4))]) hx hb d_Tg_howMany_1 rfl hl (by decide) rfl (fun ls hl => ?_)
  refine lv_iconst (v := 1) hx hb d_Tg_howMany_2 (by decide) ?_
  refine lv_istore_n (lv' := [(2, .int 1), (1, .int 0), (0, .ref (A 4))]) hx hb d_Tg_howMany_3 rfl hl (by decide) rfl (fun ls hl => ?_)
  exact L4 100 0 1 _ _ _ h hP hD hS (lv_sub hl [2, 1, 0] rfl)
def f_Tg_takeFrom_4_27 (σ : KS) : Option (KS) := if ∀ i, i < (61 : Int32).toNatClampNeg → fits .boolean (.int (gK_there σ ((0 : Int32).toNatClampNeg + i))) = true then (zl (sN_there σ (va_cpy (gK_there σ) (gN_there σ) (0 : Int32).toNatClampNeg (0 : Int32).toNatClampNeg (61 : Int32).toNatClampNeg)) fun u1 => zl (sN_kind u1 (va_cpy (gK_kind u1) (gN_kind u1) (0 : Int32).toNatClampNeg (0 : Int32).toNatClampNeg (61 : Int32).toNatClampNeg)) fun u2 => zl (sN_label u2 (va_cpy (gK_label u2) (gN_label u2) (0 : Int32).toNatClampNeg (0 : Int32).toNatClampNeg (61 : Int32).toNatClampNeg)) fun u3 => zl (sN_quota u3 (va_cpy (gK_quota u3) (gN_quota u3) (0 : Int32).toNatClampNeg (0 : Int32).toNatClampNeg (61 : Int32).toNatClampNeg)) fun u4 => zl (sN_place u4 (va_cpy (gK_place u4) (gN_place u4) (0 : Int32).toNatClampNeg (0 : Int32).toNatClampNeg (61 : Int32).toNatClampNeg)) fun u5 => zl (sN_depth u5 (va_cpy (gK_depth u5) (gN_depth u5) (0 : Int32).toNatClampNeg (0 : Int32).toNatClampNeg (61 : Int32).toNatClampNeg)) fun u6 => zl (sN_clearance u6 (va_cpy (gK_clearance u6) (gN_clearance u6) (0 : Int32).toNatClampNeg (0 : Int32).toNatClampNeg (61 : Int32).toNatClampNeg)) fun u7 => zl (sN_guard u7 (va_cpy (gK_guard u7) (gN_guard u7) (0 : Int32).toNatClampNeg (0 : Int32).toNatClampNeg (61 : Int32).toNatClampNeg)) fun u8 => zl (sN_entry u8 (va_cpy (gK_entry u8) (gN_entry u8) (0 : Int32).toNatClampNeg (0 : Int32).toNatClampNeg (61 : Int32).toNatClampNeg)) fun u9 => zl (sN_cellCount u9 (va_cpy (gK_cellCount u9) (gN_cellCount u9) (0 : Int32).toNatClampNeg (0 : Int32).toNatClampNeg (61 : Int32).toNatClampNeg)) fun u10 => zl (sN_cells u10 (va_cpy (gK_cells u10) (gN_cells u10) (0 : Int32).toNatClampNeg (0 : Int32).toNatClampNeg (488 : Int32).toNatClampNeg)) fun u11 => zl (sN_made u11 (gK_made u11)) fun u12 => some u12) else none
set_option maxRecDepth 100000 in
set_option maxHeartbeats 4000000 in
theorem c_Tg_takeFrom_4_27 (l : Launch) (hl9 : l.stackTraces = false) (D : va_G) (A : Nat → Nat) (r : va_W) (sz : Nat) (σ : KS) (z : KS) (h : f_Tg_takeFrom_4_27 σ = some z) : Met l y_Tg_takeFrom (Cond.code y_Tg_takeFrom b_Tg_takeFrom 2 none :: T0) ({ frames := 1, cells := 0, slots := 0, locals := 60 } : Room) (va_Pc [.ref (A 4), .ref (A 27)] (ka_Wd D A (GW A σ r) sz)) (ka_Rv D (GW A z r) (va_A (GW A σ r) sz)) 0 0 (va_A (GW A σ r) sz) := by
  unfold f_Tg_takeFrom_4_27 at h
  refine ka_of (own := R_Tg) (fun A9 => ka_Rv D (GW A z r) A9) (by decide) rfl (Nat.le_of_ble_eq_true rfl) ?_
  intro p e s m below meth c A9 ls S9 hr hlk hex X9 hP hD hl
  obtain ⟨hx, hb, hml, hown, hts⟩ := id S9
  have hK := X9.2.1
  have hS : va_S A9 s.heap s.heap [] := va_S.rf
  replace hl : lv_has ls 2 [(0, .ref (A 4)), (1, .ref (A 27))] := hl
  refine lv_aload_n hx hb d_Tg_takeFrom_0 rfl (lv_at hl 1 rfl) ?_
  refine va_get (D := D) (ci := 2) (v := .ref (A 28)) (C := R_Tg) (T := T_Tg) (N := 12) hx hb hts wu_Tg hown hK hP 27 rfl rfl 0 (by decide) (hts _ wf_Tg_9) (fun _ h9 => h9) rfl d_Tg_takeFrom_1 ?_
  refine lv_iconst (v := 0) hx hb d_Tg_takeFrom_4 (by decide) ?_
  refine lv_aload_n hx hb d_Tg_takeFrom_5 rfl (lv_at hl 0 rfl) ?_
  refine va_get (D := D) (ci := 2) (v := .ref (A 5)) (C := R_Tg) (T := T_Tg) (N := 12) hx hb hts wu_Tg hown hK hP 4 rfl rfl 0 (by decide) (hts _ wf_Tg_9) (fun _ h9 => h9) rfl d_Tg_takeFrom_6 ?_
  refine lv_iconst (v := 0) hx hb d_Tg_takeFrom_9 (by decide) ?_
  refine lv_aload_n hx hb d_Tg_takeFrom_10 rfl (lv_at hl 0 rfl) ?_
  refine va_get (D := D) (ci := 2) (v := .ref (A 5)) (C := R_Tg) (T := T_Tg) (N := 12) hx hb hts wu_Tg hown hK hP 4 rfl rfl 0 (by decide) (hts _ wf_Tg_9) (fun _ h9 => h9) rfl d_Tg_takeFrom_11 ?_
  refine va_alen (v := 61) hx hb hK hP 5 1 rfl rfl rfl d_Tg_takeFrom_14 ?_
  obtain ⟨b9, h⟩ := zo_g h
  obtain ⟨u1, hu9, h⟩ := zo_l h
  refine va_copyi hx hb (hml.trans hl.1.symm) hown (hts _ wl_Tg_58) (hts _ wv_copy) (hts _ ws_copy) (hts _ wi_System) hK hP hD hS 28 5 1 1 rfl rfl rfl rfl rfl (by decide) (by decide) (by decide) (by decide) (by decide) b9 (Nat.le_of_ble_eq_true rfl) (by decide) d_Tg_takeFrom_15 (fun H locs hP hD hS => ?_)
  replace hP : va_P D vwCl (GW A u1 r) H := by rw [hu9]; exact hP
  replace hD : va_D A9 (GW A u1 r) := by rw [hu9]; exact hD
  refine lv_aload_n hx hb d_Tg_takeFrom_18 rfl (lv_at hl 1 rfl) ?_
  refine va_get (D := D) (ci := 2) (v := .ref (A 29)) (C := R_Tg) (T := T_Tg) (N := 12) hx hb hts wu_Tg hown hK hP 27 rfl rfl 1 (by decide) (hts _ wf_Tg_15) (fun _ h9 => h9) rfl d_Tg_takeFrom_19 ?_
  refine lv_iconst (v := 0) hx hb d_Tg_takeFrom_22 (by decide) ?_
  refine lv_aload_n hx hb d_Tg_takeFrom_23 rfl (lv_at hl 0 rfl) ?_
  refine va_get (D := D) (ci := 2) (v := .ref (A 6)) (C := R_Tg) (T := T_Tg) (N := 12) hx hb hts wu_Tg hown hK hP 4 rfl rfl 1 (by decide) (hts _ wf_Tg_15) (fun _ h9 => h9) rfl d_Tg_takeFrom_24 ?_
  refine lv_iconst (v := 0) hx hb d_Tg_takeFrom_27 (by decide) ?_
  refine lv_aload_n hx hb d_Tg_takeFrom_28 rfl (lv_at hl 0 rfl) ?_
  refine va_get (D := D) (ci := 2) (v := .ref (A 6)) (C := R_Tg) (T := T_Tg) (N := 12) hx hb hts wu_Tg hown hK hP 4 rfl rfl 1 (by decide) (hts _ wf_Tg_15) (fun _ h9 => h9) rfl d_Tg_takeFrom_29 ?_
  refine va_alen (v := 61) hx hb hK hP 6 0 rfl rfl rfl d_Tg_takeFrom_32 ?_
  obtain ⟨u2, hu9, h⟩ := zo_l h
  refine va_copyi hx hb (hml.trans hl.1.symm) hown (hts _ wl_Tg_58) (hts _ wv_copy) (hts _ ws_copy) (hts _ wi_System) hK hP hD hS 29 6 0 0 rfl rfl rfl rfl rfl (by decide) (by decide) (by decide) (by decide) (by decide) (fun _ _ => rfl) (Nat.le_of_ble_eq_true rfl) (by decide) d_Tg_takeFrom_33 (fun H locs hP hD hS => ?_)
  replace hP : va_P D vwCl (GW A u2 r) H := by rw [hu9]; exact hP
  replace hD : va_D A9 (GW A u2 r) := by rw [hu9]; exact hD
  refine lv_aload_n hx hb d_Tg_takeFrom_36 rfl (lv_at hl 1 rfl) ?_
  refine va_get (D := D) (ci := 2) (v := .ref (A 30)) (C := R_Tg) (T := T_Tg) (N := 12) hx hb hts wu_Tg hown hK hP 27 rfl rfl 2 (by decide) (hts _ wf_Tg_19) (fun _ h9 => h9) rfl d_Tg_takeFrom_37 ?_
  refine lv_iconst (v := 0) hx hb d_Tg_takeFrom_40 (by decide) ?_
  refine lv_aload_n hx hb d_Tg_takeFrom_41 rfl (lv_at hl 0 rfl) ?_
  refine va_get (D := D) (ci := 2) (v := .ref (A 7)) (C := R_Tg) (T := T_Tg) (N := 12) hx hb hts wu_Tg hown hK hP 4 rfl rfl 2 (by decide) (hts _ wf_Tg_19) (fun _ h9 => h9) rfl d_Tg_takeFrom_42 ?_
  refine lv_iconst (v := 0) hx hb d_Tg_takeFrom_45 (by decide) ?_
  refine lv_aload_n hx hb d_Tg_takeFrom_46 rfl (lv_at hl 0 rfl) ?_
  refine va_get (D := D) (ci := 2) (v := .ref (A 7)) (C := R_Tg) (T := T_Tg) (N := 12) hx hb hts wu_Tg hown hK hP 4 rfl rfl 2 (by decide) (hts _ wf_Tg_19) (fun _ h9 => h9) rfl d_Tg_takeFrom_47 ?_
  refine va_alen (v := 61) hx hb hK hP 7 0 rfl rfl rfl d_Tg_takeFrom_50 ?_
  obtain ⟨u3, hu9, h⟩ := zo_l h
  refine va_copyi hx hb (hml.trans hl.1.symm) hown (hts _ wl_Tg_58) (hts _ wv_copy) (hts _ ws_copy) (hts _ wi_System) hK hP hD hS 30 7 0 0 rfl rfl rfl rfl rfl (by decide) (by decide) (by decide) (by decide) (by decide) (fun _ _ => rfl) (Nat.le_of_ble_eq_true rfl) (by decide) d_Tg_takeFrom_51 (fun H locs hP hD hS => ?_)
  replace hP : va_P D vwCl (GW A u3 r) H := by rw [hu9]; exact hP
  replace hD : va_D A9 (GW A u3 r) := by rw [hu9]; exact hD
  refine lv_aload_n hx hb d_Tg_takeFrom_54 rfl (lv_at hl 1 rfl) ?_
  refine va_get (D := D) (ci := 2) (v := .ref (A 31)) (C := R_Tg) (T := T_Tg) (N := 12) hx hb hts wu_Tg hown hK hP 27 rfl rfl 3 (by decide) (hts _ wf_Tg_22) (fun _ h9 => h9) rfl d_Tg_takeFrom_55 ?_
  refine lv_iconst (v := 0) hx hb d_Tg_takeFrom_58 (by decide) ?_
  refine lv_aload_n hx hb d_Tg_takeFrom_59 rfl (lv_at hl 0 rfl) ?_
  refine va_get (D := D) (ci := 2) (v := .ref (A 8)) (C := R_Tg) (T := T_Tg) (N := 12) hx hb hts wu_Tg hown hK hP 4 rfl rfl 3 (by decide) (hts _ wf_Tg_22) (fun _ h9 => h9) rfl d_Tg_takeFrom_60 ?_
  refine lv_iconst (v := 0) hx hb d_Tg_takeFrom_63 (by decide) ?_
  refine lv_aload_n hx hb d_Tg_takeFrom_64 rfl (lv_at hl 0 rfl) ?_
  refine va_get (D := D) (ci := 2) (v := .ref (A 8)) (C := R_Tg) (T := T_Tg) (N := 12) hx hb hts wu_Tg hown hK hP 4 rfl rfl 3 (by decide) (hts _ wf_Tg_22) (fun _ h9 => h9) rfl d_Tg_takeFrom_65 ?_
  refine va_alen (v := 61) hx hb hK hP 8 0 rfl rfl rfl d_Tg_takeFrom_68 ?_
  obtain ⟨u4, hu9, h⟩ := zo_l h
  refine va_copyi hx hb (hml.trans hl.1.symm) hown (hts _ wl_Tg_58) (hts _ wv_copy) (hts _ ws_copy) (hts _ wi_System) hK hP hD hS 31 8 0 0 rfl rfl rfl rfl rfl (by decide) (by decide) (by decide) (by decide) (by decide) (fun _ _ => rfl) (Nat.le_of_ble_eq_true rfl) (by decide) d_Tg_takeFrom_69 (fun H locs hP hD hS => ?_)
  replace hP : va_P D vwCl (GW A u4 r) H := by rw [hu9]; exact hP
  replace hD : va_D A9 (GW A u4 r) := by rw [hu9]; exact hD
  refine lv_aload_n hx hb d_Tg_takeFrom_72 rfl (lv_at hl 1 rfl) ?_
  refine va_get (D := D) (ci := 2) (v := .ref (A 32)) (C := R_Tg) (T := T_Tg) (N := 12) hx hb hts wu_Tg hown hK hP 27 rfl rfl 4 (by decide) (hts _ wf_Tg_25) (fun _ h9 => h9) rfl d_Tg_takeFrom_73 ?_
  refine lv_iconst (v := 0) hx hb d_Tg_takeFrom_76 (by decide) ?_
  refine lv_aload_n hx hb d_Tg_takeFrom_77 rfl (lv_at hl 0 rfl) ?_
  refine va_get (D := D) (ci := 2) (v := .ref (A 9)) (C := R_Tg) (T := T_Tg) (N := 12) hx hb hts wu_Tg hown hK hP 4 rfl rfl 4 (by decide) (hts _ wf_Tg_25) (fun _ h9 => h9) rfl d_Tg_takeFrom_78 ?_
  refine lv_iconst (v := 0) hx hb d_Tg_takeFrom_81 (by decide) ?_
  refine lv_aload_n hx hb d_Tg_takeFrom_82 rfl (lv_at hl 0 rfl) ?_
  refine va_get (D := D) (ci := 2) (v := .ref (A 9)) (C := R_Tg) (T := T_Tg) (N := 12) hx hb hts wu_Tg hown hK hP 4 rfl rfl 4 (by decide) (hts _ wf_Tg_25) (fun _ h9 => h9) rfl d_Tg_takeFrom_83 ?_
  refine va_alen (v := 61) hx hb hK hP 9 0 rfl rfl rfl d_Tg_takeFrom_86 ?_
  obtain ⟨u5, hu9, h⟩ := zo_l h
  refine va_copyi hx hb (hml.trans hl.1.symm) hown (hts _ wl_Tg_58) (hts _ wv_copy) (hts _ ws_copy) (hts _ wi_System) hK hP hD hS 32 9 0 0 rfl rfl rfl rfl rfl (by decide) (by decide) (by decide) (by decide) (by decide) (fun _ _ => rfl) (Nat.le_of_ble_eq_true rfl) (by decide) d_Tg_takeFrom_87 (fun H locs hP hD hS => ?_)
  replace hP : va_P D vwCl (GW A u5 r) H := by rw [hu9]; exact hP
  replace hD : va_D A9 (GW A u5 r) := by rw [hu9]; exact hD
  refine lv_aload_n hx hb d_Tg_takeFrom_90 rfl (lv_at hl 1 rfl) ?_
  refine va_get (D := D) (ci := 2) (v := .ref (A 33)) (C := R_Tg) (T := T_Tg) (N := 12) hx hb hts wu_Tg hown hK hP 27 rfl rfl 5 (by decide) (hts _ wf_Tg_28) (fun _ h9 => h9) rfl d_Tg_takeFrom_91 ?_
  refine lv_iconst (v := 0) hx hb d_Tg_takeFrom_94 (by decide) ?_
  refine lv_aload_n hx hb d_Tg_takeFrom_95 rfl (lv_at hl 0 rfl) ?_
  refine va_get (D := D) (ci := 2) (v := .ref (A 10)) (C := R_Tg) (T := T_Tg) (N := 12) hx hb hts wu_Tg hown hK hP 4 rfl rfl 5 (by decide) (hts _ wf_Tg_28) (fun _ h9 => h9) rfl d_Tg_takeFrom_96 ?_
  refine lv_iconst (v := 0) hx hb d_Tg_takeFrom_99 (by decide) ?_
  refine lv_aload_n hx hb d_Tg_takeFrom_100 rfl (lv_at hl 0 rfl) ?_
  refine va_get (D := D) (ci := 2) (v := .ref (A 10)) (C := R_Tg) (T := T_Tg) (N := 12) hx hb hts wu_Tg hown hK hP 4 rfl rfl 5 (by decide) (hts _ wf_Tg_28) (fun _ h9 => h9) rfl d_Tg_takeFrom_101 ?_
  refine va_alen (v := 61) hx hb hK hP 10 0 rfl rfl rfl d_Tg_takeFrom_104 ?_
  obtain ⟨u6, hu9, h⟩ := zo_l h
  refine va_copyi hx hb (hml.trans hl.1.symm) hown (hts _ wl_Tg_58) (hts _ wv_copy) (hts _ ws_copy) (hts _ wi_System) hK hP hD hS 33 10 0 0 rfl rfl rfl rfl rfl (by decide) (by decide) (by decide) (by decide) (by decide) (fun _ _ => rfl) (Nat.le_of_ble_eq_true rfl) (by decide) d_Tg_takeFrom_105 (fun H locs hP hD hS => ?_)
  replace hP : va_P D vwCl (GW A u6 r) H := by rw [hu9]; exact hP
  replace hD : va_D A9 (GW A u6 r) := by rw [hu9]; exact hD
  refine lv_aload_n hx hb d_Tg_takeFrom_108 rfl (lv_at hl 1 rfl) ?_
  refine va_get (D := D) (ci := 2) (v := .ref (A 34)) (C := R_Tg) (T := T_Tg) (N := 12) hx hb hts wu_Tg hown hK hP 27 rfl rfl 6 (by decide) (hts _ wf_Tg_31) (fun _ h9 => h9) rfl d_Tg_takeFrom_109 ?_
  refine lv_iconst (v := 0) hx hb d_Tg_takeFrom_112 (by decide) ?_
  refine lv_aload_n hx hb d_Tg_takeFrom_113 rfl (lv_at hl 0 rfl) ?_
  refine va_get (D := D) (ci := 2) (v := .ref (A 11)) (C := R_Tg) (T := T_Tg) (N := 12) hx hb hts wu_Tg hown hK hP 4 rfl rfl 6 (by decide) (hts _ wf_Tg_31) (fun _ h9 => h9) rfl d_Tg_takeFrom_114 ?_
  refine lv_iconst (v := 0) hx hb d_Tg_takeFrom_117 (by decide) ?_
  refine lv_aload_n hx hb d_Tg_takeFrom_118 rfl (lv_at hl 0 rfl) ?_
  refine va_get (D := D) (ci := 2) (v := .ref (A 11)) (C := R_Tg) (T := T_Tg) (N := 12) hx hb hts wu_Tg hown hK hP 4 rfl rfl 6 (by decide) (hts _ wf_Tg_31) (fun _ h9 => h9) rfl d_Tg_takeFrom_119 ?_
  refine va_alen (v := 61) hx hb hK hP 11 0 rfl rfl rfl d_Tg_takeFrom_122 ?_
  obtain ⟨u7, hu9, h⟩ := zo_l h
  refine va_copyi hx hb (hml.trans hl.1.symm) hown (hts _ wl_Tg_58) (hts _ wv_copy) (hts _ ws_copy) (hts _ wi_System) hK hP hD hS 34 11 0 0 rfl rfl rfl rfl rfl (by decide) (by decide) (by decide) (by decide) (by decide) (fun _ _ => rfl) (Nat.le_of_ble_eq_true rfl) (by decide) d_Tg_takeFrom_123 (fun H locs hP hD hS => ?_)
  replace hP : va_P D vwCl (GW A u7 r) H := by rw [hu9]; exact hP
  replace hD : va_D A9 (GW A u7 r) := by rw [hu9]; exact hD
  refine lv_aload_n hx hb d_Tg_takeFrom_126 rfl (lv_at hl 1 rfl) ?_
  refine va_get (D := D) (ci := 2) (v := .ref (A 35)) (C := R_Tg) (T := T_Tg) (N := 12) hx hb hts wu_Tg hown hK hP 27 rfl rfl 7 (by decide) (hts _ wf_Tg_34) (fun _ h9 => h9) rfl d_Tg_takeFrom_127 ?_
  refine lv_iconst (v := 0) hx hb d_Tg_takeFrom_130 (by decide) ?_
  refine lv_aload_n hx hb d_Tg_takeFrom_131 rfl (lv_at hl 0 rfl) ?_
  refine va_get (D := D) (ci := 2) (v := .ref (A 12)) (C := R_Tg) (T := T_Tg) (N := 12) hx hb hts wu_Tg hown hK hP 4 rfl rfl 7 (by decide) (hts _ wf_Tg_34) (fun _ h9 => h9) rfl d_Tg_takeFrom_132 ?_
  refine lv_iconst (v := 0) hx hb d_Tg_takeFrom_135 (by decide) ?_
  refine lv_aload_n hx hb d_Tg_takeFrom_136 rfl (lv_at hl 0 rfl) ?_
  refine va_get (D := D) (ci := 2) (v := .ref (A 12)) (C := R_Tg) (T := T_Tg) (N := 12) hx hb hts wu_Tg hown hK hP 4 rfl rfl 7 (by decide) (hts _ wf_Tg_34) (fun _ h9 => h9) rfl d_Tg_takeFrom_137 ?_
  refine va_alen (v := 61) hx hb hK hP 12 0 rfl rfl rfl d_Tg_takeFrom_140 ?_
  obtain ⟨u8, hu9, h⟩ := zo_l h
  refine va_copyi hx hb (hml.trans hl.1.symm) hown (hts _ wl_Tg_58) (hts _ wv_copy) (hts _ ws_copy) (hts _ wi_System) hK hP hD hS 35 12 0 0 rfl rfl rfl rfl rfl (by decide) (by decide) (by decide) (by decide) (by decide) (fun _ _ => rfl) (Nat.le_of_ble_eq_true rfl) (by decide) d_Tg_takeFrom_141 (fun H locs hP hD hS => ?_)
  replace hP : va_P D vwCl (GW A u8 r) H := by rw [hu9]; exact hP
  replace hD : va_D A9 (GW A u8 r) := by rw [hu9]; exact hD
  refine lv_aload_n hx hb d_Tg_takeFrom_144 rfl (lv_at hl 1 rfl) ?_
  refine va_get (D := D) (ci := 2) (v := .ref (A 36)) (C := R_Tg) (T := T_Tg) (N := 12) hx hb hts wu_Tg hown hK hP 27 rfl rfl 8 (by decide) (hts _ wf_Tg_37) (fun _ h9 => h9) rfl d_Tg_takeFrom_145 ?_
  refine lv_iconst (v := 0) hx hb d_Tg_takeFrom_148 (by decide) ?_
  refine lv_aload_n hx hb d_Tg_takeFrom_149 rfl (lv_at hl 0 rfl) ?_
  refine va_get (D := D) (ci := 2) (v := .ref (A 13)) (C := R_Tg) (T := T_Tg) (N := 12) hx hb hts wu_Tg hown hK hP 4 rfl rfl 8 (by decide) (hts _ wf_Tg_37) (fun _ h9 => h9) rfl d_Tg_takeFrom_150 ?_
  refine lv_iconst (v := 0) hx hb d_Tg_takeFrom_153 (by decide) ?_
  refine lv_aload_n hx hb d_Tg_takeFrom_154 rfl (lv_at hl 0 rfl) ?_
  refine va_get (D := D) (ci := 2) (v := .ref (A 13)) (C := R_Tg) (T := T_Tg) (N := 12) hx hb hts wu_Tg hown hK hP 4 rfl rfl 8 (by decide) (hts _ wf_Tg_37) (fun _ h9 => h9) rfl d_Tg_takeFrom_155 ?_
  refine va_alen (v := 61) hx hb hK hP 13 0 rfl rfl rfl d_Tg_takeFrom_158 ?_
  obtain ⟨u9, hu9, h⟩ := zo_l h
  refine va_copyi hx hb (hml.trans hl.1.symm) hown (hts _ wl_Tg_58) (hts _ wv_copy) (hts _ ws_copy) (hts _ wi_System) hK hP hD hS 36 13 0 0 rfl rfl rfl rfl rfl (by decide) (by decide) (by decide) (by decide) (by decide) (fun _ _ => rfl) (Nat.le_of_ble_eq_true rfl) (by decide) d_Tg_takeFrom_159 (fun H locs hP hD hS => ?_)
  replace hP : va_P D vwCl (GW A u9 r) H := by rw [hu9]; exact hP
  replace hD : va_D A9 (GW A u9 r) := by rw [hu9]; exact hD
  refine lv_aload_n hx hb d_Tg_takeFrom_162 rfl (lv_at hl 1 rfl) ?_
  refine va_get (D := D) (ci := 2) (v := .ref (A 37)) (C := R_Tg) (T := T_Tg) (N := 12) hx hb hts wu_Tg hown hK hP 27 rfl rfl 9 (by decide) (hts _ wf_Tg_40) (fun _ h9 => h9) rfl d_Tg_takeFrom_163 ?_
  refine lv_iconst (v := 0) hx hb d_Tg_takeFrom_166 (by decide) ?_
  refine lv_aload_n hx hb d_Tg_takeFrom_167 rfl (lv_at hl 0 rfl) ?_
  refine va_get (D := D) (ci := 2) (v := .ref (A 14)) (C := R_Tg) (T := T_Tg) (N := 12) hx hb hts wu_Tg hown hK hP 4 rfl rfl 9 (by decide) (hts _ wf_Tg_40) (fun _ h9 => h9) rfl d_Tg_takeFrom_168 ?_
  refine lv_iconst (v := 0) hx hb d_Tg_takeFrom_171 (by decide) ?_
  refine lv_aload_n hx hb d_Tg_takeFrom_172 rfl (lv_at hl 0 rfl) ?_
  refine va_get (D := D) (ci := 2) (v := .ref (A 14)) (C := R_Tg) (T := T_Tg) (N := 12) hx hb hts wu_Tg hown hK hP 4 rfl rfl 9 (by decide) (hts _ wf_Tg_40) (fun _ h9 => h9) rfl d_Tg_takeFrom_173 ?_
  refine va_alen (v := 61) hx hb hK hP 14 0 rfl rfl rfl d_Tg_takeFrom_176 ?_
  obtain ⟨u10, hu9, h⟩ := zo_l h
  refine va_copyi hx hb (hml.trans hl.1.symm) hown (hts _ wl_Tg_58) (hts _ wv_copy) (hts _ ws_copy) (hts _ wi_System) hK hP hD hS 37 14 0 0 rfl rfl rfl rfl rfl (by decide) (by decide) (by decide) (by decide) (by decide) (fun _ _ => rfl) (Nat.le_of_ble_eq_true rfl) (by decide) d_Tg_takeFrom_177 (fun H locs hP hD hS => ?_)
  replace hP : va_P D vwCl (GW A u10 r) H := by rw [hu9]; exact hP
  replace hD : va_D A9 (GW A u10 r) := by rw [hu9]; exact hD
  refine lv_aload_n hx hb d_Tg_takeFrom_180 rfl (lv_at hl 1 rfl) ?_
  refine va_get (D := D) (ci := 2) (v := .ref (A 38)) (C := R_Tg) (T := T_Tg) (N := 12) hx hb hts wu_Tg hown hK hP 27 rfl rfl 10 (by decide) (hts _ wf_Tg_43) (fun _ h9 => h9) rfl d_Tg_takeFrom_181 ?_
  refine lv_iconst (v := 0) hx hb d_Tg_takeFrom_184 (by decide) ?_
  refine lv_aload_n hx hb d_Tg_takeFrom_185 rfl (lv_at hl 0 rfl) ?_
  refine va_get (D := D) (ci := 2) (v := .ref (A 15)) (C := R_Tg) (T := T_Tg) (N := 12) hx hb hts wu_Tg hown hK hP 4 rfl rfl 10 (by decide) (hts _ wf_Tg_43) (fun _ h9 => h9) rfl d_Tg_takeFrom_186 ?_
  refine lv_iconst (v := 0) hx hb d_Tg_takeFrom_189 (by decide) ?_
  refine lv_aload_n hx hb d_Tg_takeFrom_190 rfl (lv_at hl 0 rfl) ?_
  refine va_get (D := D) (ci := 2) (v := .ref (A 15)) (C := R_Tg) (T := T_Tg) (N := 12) hx hb hts wu_Tg hown hK hP 4 rfl rfl 10 (by decide) (hts _ wf_Tg_43) (fun _ h9 => h9) rfl d_Tg_takeFrom_191 ?_
  refine va_alen (v := 488) hx hb hK hP 15 0 rfl rfl rfl d_Tg_takeFrom_194 ?_
  obtain ⟨u11, hu9, h⟩ := zo_l h
  refine va_copyi hx hb (hml.trans hl.1.symm) hown (hts _ wl_Tg_58) (hts _ wv_copy) (hts _ ws_copy) (hts _ wi_System) hK hP hD hS 38 15 0 0 rfl rfl rfl rfl rfl (by decide) (by decide) (by decide) (by decide) (by decide) (fun _ _ => rfl) (Nat.le_of_ble_eq_true rfl) (by decide) d_Tg_takeFrom_195 (fun H locs hP hD hS => ?_)
  replace hP : va_P D vwCl (GW A u11 r) H := by rw [hu9]; exact hP
  replace hD : va_D A9 (GW A u11 r) := by rw [hu9]; exact hD
  refine lv_aload_n hx hb d_Tg_takeFrom_198 rfl (lv_at hl 0 rfl) ?_
  refine lv_aload_n hx hb d_Tg_takeFrom_199 rfl (lv_at hl 1 rfl) ?_
  refine va_get (D := D) (ci := 2) (v := .int (gK_made u11)) (C := R_Tg) (T := T_Tg) (N := 12) hx hb hts wu_Tg hown hK hP 27 rfl rfl 11 (by decide) (hts _ wf_Tg_46) (fun _ h9 => h9) rfl d_Tg_takeFrom_200 ?_
  obtain ⟨u12, hu9, h⟩ := zo_l h
  refine va_put (D := D) (ci := 2) (v := .int (gK_made u11)) (ty := .int) (C := R_Tg) (T := T_Tg) (N := 12) hx hb hts wu_Tg ft_Tg fk_Tg nm_Tg hown hK hP hD hS 4 rfl rfl 11 (by decide) (hts _ wf_Tg_46) (fun _ h9 => h9) rfl (by decide +kernel) rfl rfl (Nat.le_of_ble_eq_true rfl) d_Tg_takeFrom_203 (fun H locs hP hD hS => ?_)
  replace hP : va_P D vwCl (GW A u12 r) H := by rw [hu9]; exact hP
  replace hD : va_D A9 (GW A u12 r) := by rw [hu9]; exact hD
  cases h
  exact W.vret hx hb hr (fun t ht hW => ⟨⟨(), rfl, trivial, ka_at ht hP⟩, hS.F ht⟩) hS.2.2 d_Tg_takeFrom_206 hlk
def f_Tg_kindOf (σ : KS) (x1 : Int32) : Option (Int32) := if x1 < 0 ∨ 61 ≤ (x1).toNatClampNeg then none else some (gN_kind σ (x1).toNatClampNeg)
set_option maxRecDepth 100000 in
set_option maxHeartbeats 4000000 in
theorem c_Tg_kindOf (l : Launch) (hl9 : l.stackTraces = false) (D : va_G) (A : Nat → Nat) (r : va_W) (sz : Nat) (σ : KS) (x1 : Int32) (z : Int32) (h : f_Tg_kindOf σ x1 = some z) : Met l y_Tg_kindOf (Cond.code y_Tg_kindOf b_Tg_kindOf 2 (some .int) :: T0) ({ frames := 0, cells := 0, slots := 0, locals := 0 } : Room) (va_Pc [.ref (A 4), .int x1] (ka_Wd D A (GW A σ r) sz)) (ka_Ri D z (GW A σ r) (va_A (GW A σ r) sz)) 0 0 (va_A (GW A σ r) sz) := by
  unfold f_Tg_kindOf at h
  refine ka_of (own := R_Tg) (fun A9 => ka_Ri D z (GW A σ r) A9) (by decide) rfl (Nat.le_of_ble_eq_true rfl) ?_
  intro p e s m below meth c A9 ls S9 hr hlk hex X9 hP hD hl
  obtain ⟨hx, hb, hml, hown, hts⟩ := id S9
  have hK := X9.2.1
  have hS : va_S A9 s.heap s.heap [] := va_S.rf
  replace hl : lv_has ls 2 [(0, .ref (A 4)), (1, .int x1)] := hl
  refine lv_aload_n hx hb d_Tg_kindOf_0 rfl (lv_at hl 0 rfl) ?_
  refine va_get (D := D) (ci := 2) (v := .ref (A 6)) (C := R_Tg) (T := T_Tg) (N := 12) hx hb hts wu_Tg hown hK hP 4 rfl rfl 1 (by decide) (hts _ wf_Tg_15) (fun _ h9 => h9) rfl d_Tg_kindOf_1 ?_
  refine lv_iload_n hx hb d_Tg_kindOf_4 rfl (lv_at hl 1 rfl) ?_
  obtain ⟨i9, h⟩ := zo_i h
  refine va_iald hx hb hK hP 6 0 rfl rfl i9 d_Tg_kindOf_5 ?_
  cases h
  exact W.iret hx hb hr (fun t ht hW => ⟨⟨_, (), rfl, rfl, ka_at ht hP⟩, hS.F ht⟩) hS.2.2 d_Tg_kindOf_6 hlk
def f_Tg_placeOf (σ : KS) (x1 : Int32) : Option (Int32) := if x1 < 0 ∨ 61 ≤ (x1).toNatClampNeg then none else some (gN_place σ (x1).toNatClampNeg)
set_option maxRecDepth 100000 in
set_option maxHeartbeats 4000000 in
theorem c_Tg_placeOf (l : Launch) (hl9 : l.stackTraces = false) (D : va_G) (A : Nat → Nat) (r : va_W) (sz : Nat) (σ : KS) (x1 : Int32) (z : Int32) (h : f_Tg_placeOf σ x1 = some z) : Met l y_Tg_placeOf (Cond.code y_Tg_placeOf b_Tg_placeOf 2 (some .int) :: T0) ({ frames := 0, cells := 0, slots := 0, locals := 0 } : Room) (va_Pc [.ref (A 4), .int x1] (ka_Wd D A (GW A σ r) sz)) (ka_Ri D z (GW A σ r) (va_A (GW A σ r) sz)) 0 0 (va_A (GW A σ r) sz) := by
  unfold f_Tg_placeOf at h
  refine ka_of (own := R_Tg) (fun A9 => ka_Ri D z (GW A σ r) A9) (by decide) rfl (Nat.le_of_ble_eq_true rfl) ?_
  intro p e s m below meth c A9 ls S9 hr hlk hex X9 hP hD hl
  obtain ⟨hx, hb, hml, hown, hts⟩ := id S9
  have hK := X9.2.1
  have hS : va_S A9 s.heap s.heap [] := va_S.rf
  replace hl : lv_has ls 2 [(0, .ref (A 4)), (1, .int x1)] := hl
  refine lv_aload_n hx hb d_Tg_placeOf_0 rfl (lv_at hl 0 rfl) ?_
  refine va_get (D := D) (ci := 2) (v := .ref (A 9)) (C := R_Tg) (T := T_Tg) (N := 12) hx hb hts wu_Tg hown hK hP 4 rfl rfl 4 (by decide) (hts _ wf_Tg_25) (fun _ h9 => h9) rfl d_Tg_placeOf_1 ?_
  refine lv_iload_n hx hb d_Tg_placeOf_4 rfl (lv_at hl 1 rfl) ?_
  obtain ⟨i9, h⟩ := zo_i h
  refine va_iald hx hb hK hP 9 0 rfl rfl i9 d_Tg_placeOf_5 ?_
  cases h
  exact W.iret hx hb hr (fun t ht hW => ⟨⟨_, (), rfl, rfl, ka_at ht hP⟩, hS.F ht⟩) hS.2.2 d_Tg_placeOf_6 hlk
def f_Tg_nthIn_L5 (σ : KS) : Nat → Int32 → Int32 → Int32 → Int32 → Option (Int32)
  | 0, _, _, _, _ => none
  | n + 1, y1, y2, y3, y4 => if (gN_made σ) < y4 then (some 0) else ((f_Tg_isIn σ y4 y1).bind fun v2 => if v2 = 0 then (f_Tg_nthIn_L5 σ n y1 y2 y3 (y4 + 1)) else (if y3 = y2 then (some y4) else (f_Tg_nthIn_L5 σ n y1 y2 (y3 + 1) (y4 + 1))))
def f_Tg_nthIn (σ : KS) (x1 x2 : Int32) : Option (Int32) := f_Tg_nthIn_L5 σ 100 x1 x2 0 1
set_option maxRecDepth 100000 in
set_option maxHeartbeats 4000000 in
theorem c_Tg_nthIn (l : Launch) (hl9 : l.stackTraces = false) (D : va_G) (A : Nat → Nat) (r : va_W) (sz : Nat) (σ : KS) (x1 x2 : Int32) (z : Int32) (h : f_Tg_nthIn σ x1 x2 = some z) : Met l y_Tg_nthIn (Cond.code y_Tg_nthIn b_Tg_nthIn 5 (some .int) :: T0) ({ frames := 1, cells := 0, slots := 0, locals := 22 } : Room) (va_Pc [.ref (A 4), .int x1, .int x2] (ka_Wd D A (GW A σ r) sz)) (ka_Ri D z (GW A σ r) (va_A (GW A σ r) sz)) 0 0 (va_A (GW A σ r) sz) := by
  unfold f_Tg_nthIn at h
  refine ka_of (own := R_Tg) (fun A9 => ka_Ri D z (GW A σ r) A9) (by decide) rfl (Nat.le_of_ble_eq_true rfl) ?_
  intro p e s m below meth c A9 ls S9 hr hlk hex X9 hP hD hl
  obtain ⟨hx, hb, hml, hown, hts⟩ := id S9
  have hK := X9.2.1
  have hS : va_S A9 s.heap s.heap [] := va_S.rf
  replace hl : lv_has ls 5 [(0, .ref (A 4)), (1, .int x1), (2, .int x2)] := hl
  have L5 : ∀ (n : Nat) (y1 y2 y3 y4 : Int32) (H : Heap) (locs : List Loc) (ls : Array Slot), f_Tg_nthIn_L5 σ n y1 y2 y3 y4 = some z → va_P D vwCl (GW A σ r) H → va_D A9 (GW A σ r) → va_S A9 s.heap H locs → lv_has ls 5 [(0, .ref (A 4)), (1, .int y1), (2, .int y2), (3, .int y3), (4, .int y4)] → W p l e ({ frames := 1, cells := 0, slots := 0, locals := 22 } : Room) s m [.ref (A 4), .int x1, .int x2].toArray below meth c H locs 0 0 (MQ below (ka_Ri D z (GW A σ r) A9) [.ref (A 4), .int x1, .int x2].toArray s 0 0 A9) (F0 m 5 ls []) := by
    intro n
    induction n with
    | zero => intro y1 y2 y3 y4 H locs ls h; cases h
    | succ n ih5 =>
      intro y1 y2 y3 y4 H locs ls h hP hD hS hl
      rw [f_Tg_nthIn_L5] at h
      refine lv_iload hx hb d_Tg_nthIn_5 (lv_at hl 4 rfl) ?_
      refine lv_aload_n hx hb d_Tg_nthIn_7 rfl (lv_at hl 0 rfl) ?_
      refine va_get (D := D) (ci := 2) (v := .int (gN_made σ)) (C := R_Tg) (T := T_Tg) (N := 12) hx hb hts wu_Tg hown hK hP 4 rfl rfl 11 (by decide) (hts _ wf_Tg_46) (fun _ h9 => h9) rfl d_Tg_nthIn_8 ?_
      refine lv_icmp_gt (tgt := 41) hx hb d_Tg_nthIn_11 (by decide) (fun c1 => ?_) (fun c1 => ?_)
      · replace h := zo_t c1 h
        refine lv_iconst (v := 0) hx hb d_Tg_nthIn_41 (by decide) ?_
        cases h
        exact W.iret hx hb hr (fun t ht hW => ⟨⟨_, (), rfl, rfl, ka_at ht hP⟩, hS.F ht⟩) hS.2.2 d_Tg_nthIn_42 hlk
      replace h := zo_f c1 h
      refine lv_aload_n hx hb d_Tg_nthIn_14 rfl (lv_at hl 0 rfl) ?_
      refine lv_iload hx hb d_Tg_nthIn_15 (lv_at hl 4 rfl) ?_
      refine lv_iload_n hx hb d_Tg_nthIn_17 rfl (lv_at hl 1 rfl) ?_
      obtain ⟨v2, e9, h⟩ := zo_b h
      refine ka_i (va_runV (As := [.int y4, .int y1]) (rest := []) S9 (c_Tg_isIn l hl9 D A r _ σ y4 y1 _ e9) (cwV 2 hts (tg_V wl_Tg_64 wm_Tg_isIn we_Tg_isIn wi_Tg wo_Tg_isIn) rfl rfl rfl wq_Tg_isIn ⟨Nat.le_of_ble_eq_true rfl, Nat.le_of_ble_eq_true rfl⟩) (ka_preV X9 hP hD hS 4 rfl rfl) rfl rfl hl.1 rfl (lv_room (Nat.le_of_ble_eq_true rfl)) d_Tg_nthIn_18 ⟨Nat.le_of_ble_eq_true rfl, Nat.le_of_ble_eq_true rfl⟩) X9 hD hS rfl (fun H locs hP hD hS => ?_)
      refine lv_if_eq (tgt := 35) hx hb d_Tg_nthIn_21 (by decide) (fun c3 => ?_) (fun c3 => ?_)
      · replace h := zo_t c3 h
        refine lv_iinc (v := y4 + 1) (lv' := [(4, .int (y4 + 1)), (0, .ref (A 4)), (1, .int y1), (2, .int y2), (3, .int y3)]) hx hb d_Tg_nthIn_35 hl (k := 4) rfl rfl (by decide) rfl (fun ls hl => ?_)
        refine lv_goto (tgt := 5) hx hb d_Tg_nthIn_38 (by decide) ?_
        exact ih5 y1 y2 y3 (y4 + 1) _ _ _ h hP hD hS (lv_sub hl [1, 2, 3, 4, 0] rfl)
      replace h := zo_f c3 h
      refine lv_iload_n hx hb d_Tg_nthIn_24 rfl (lv_at hl 3 rfl) ?_
      refine lv_iload_n hx hb d_Tg_nthIn_25 rfl (lv_at hl 2 rfl) ?_
      refine lv_icmp_ne (tgt := 32) hx hb d_Tg_nthIn_26 (by decide) (fun c4 => ?_) (fun c4 => ?_)
      · replace h := zo_f c4 h
        refine lv_iinc (v := y3 + 1) (lv' := [(3, .int (y3 + 1)), (0, .ref (A 4)), (1, .int y1), (2, .int y2), (4, .int y4)]) hx hb d_Tg_nthIn_32 hl (k := 3) rfl rfl (by decide) rfl (fun ls hl => ?_)
        refine lv_iinc (v := y4 + 1) (lv' := [(4, .int (y4 + 1)), (3, .int (y3 + 1)), (0, .ref (A 4)), (1, .int y1), (2, .int y2)]) hx hb d_Tg_nthIn_35 hl (k := 4) rfl rfl (by decide) rfl (fun ls hl => ?_)
        refine lv_goto (tgt := 5) hx hb d_Tg_nthIn_38 (by decide) ?_
        exact ih5 y1 y2 (y3 + 1) (y4 + 1) _ _ _ h hP hD hS (lv_sub hl [2, 3, 4, 1, 0] rfl)
      replace h := zo_t c4 h
      refine lv_iload hx hb d_Tg_nthIn_29 (lv_at hl 4 rfl) ?_
      cases h
      exact W.iret hx hb hr (fun t ht hW => ⟨⟨_, (), rfl, rfl, ka_at ht hP⟩, hS.F ht⟩) hS.2.2 d_Tg_nthIn_31 hlk
  refine lv_iconst (v := 0) hx hb d_Tg_nthIn_0 (by decide) ?_
  refine lv_istore_n (lv' := [(3, .int 0), (0, .ref (A 4)), (1, .int x1), (2, .int x2)]) hx hb d_Tg_nthIn_1 rfl hl (by decide) rfl (fun ls hl => ?_)
  refine lv_iconst (v := 1) hx hb d_Tg_nthIn_2 (by decide) ?_
  refine lv_istore (lv' := [(4, .int 1), (3, .int 0), (0, .ref (A 4)), (1, .int x1), (2, .int x2)]) hx hb d_Tg_nthIn_3 hl (by decide) rfl (fun ls hl => ?_)
  exact L5 100 x1 x2 0 1 _ _ _ h hP hD hS (lv_sub hl [2, 3, 4, 1, 0] rfl)
