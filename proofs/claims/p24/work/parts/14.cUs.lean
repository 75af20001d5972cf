def f_Us_isThere (σ : KS) (x1 : Int32) : Option (Int32) := if x1 < 0 ∨ 4 ≤ (x1).toNatClampNeg then none else if vp_nar .boolean (gN_uthere σ (x1).toNatClampNeg) = (gN_uthere σ (x1).toNatClampNeg) then some (gN_uthere σ (x1).toNatClampNeg) else none
set_option maxRecDepth 100000 in
set_option maxHeartbeats 4000000 in
theorem c_Us_isThere (l : Launch) (hl9 : l.stackTraces = false) (D : va_G) (A : Nat → Nat) (r : va_W) (sz : Nat) (σ : KS) (x1 : Int32) (z : Int32) (h : f_Us_isThere σ x1 = some z) : Met l y_Us_isThere (Cond.code y_Us_isThere b_Us_isThere 2 (some .boolean) :: T0) ({ frames := 0, cells := 0, slots := 0, locals := 0 } : Room) (va_Pc [.ref (A 16), .int x1] (ka_Wd D A (GW A σ r) sz)) (ka_Ri D z (GW A σ r) (va_A (GW A σ r) sz)) 0 0 (va_A (GW A σ r) sz) := by
  unfold f_Us_isThere at h
  refine ka_of (own := R_Us) (fun A9 => ka_Ri D z (GW A σ r) A9) (by decide) rfl (Nat.le_of_ble_eq_true rfl) ?_
  intro p e s m below meth c A9 ls S9 hr hlk hex X9 hP hD hl
  obtain ⟨hx, hb, hml, hown, hts⟩ := id S9
  have hK := X9.2.1
  have hS : va_S A9 s.heap s.heap [] := va_S.rf
  replace hl : lv_has ls 2 [(0, .ref (A 16)), (1, .int x1)] := hl
  refine lv_aload_n hx hb d_Us_isThere_0 rfl (lv_at hl 0 rfl) ?_
  refine va_get (D := D) (ci := 3) (v := .ref (A 17)) (C := R_Us) (T := T_Us) (N := 7) hx hb hts wu_Us hown hK hP 16 rfl rfl 0 (by decide) (hts _ wf_Us_9) (fun _ h9 => h9) rfl d_Us_isThere_1 ?_
  refine lv_iload_n hx hb d_Us_isThere_4 rfl (lv_at hl 1 rfl) ?_
  obtain ⟨i9, h⟩ := zo_i h
  refine va_zald hx hb hK hP 17 1 rfl rfl i9 d_Us_isThere_5 ?_
  obtain ⟨b9, h⟩ := zo_g h
  cases h
  exact W.zret hx hb hr (zo_nar b9) (fun t ht hW => ⟨⟨_, (), rfl, rfl, ka_at ht hP⟩, hS.F ht⟩) hS.2.2 d_Us_isThere_6 hlk
def f_Us_setCategories (σ : KS) (x1 x2 x3 : Int32) : Option (KS) := if x1 < 0 ∨ 4 ≤ (x1).toNatClampNeg then none else zl (sN_firstCategory σ (upd (gN_firstCategory σ) (x1).toNatClampNeg x2)) fun u1 => if x1 < 0 ∨ 4 ≤ (x1).toNatClampNeg then none else zl (sN_secondCategory u1 (upd (gN_secondCategory u1) (x1).toNatClampNeg x3)) fun u2 => some u2
set_option maxRecDepth 100000 in
set_option maxHeartbeats 4000000 in
theorem c_Us_setCategories (l : Launch) (hl9 : l.stackTraces = false) (D : va_G) (A : Nat → Nat) (r : va_W) (sz : Nat) (σ : KS) (x1 x2 x3 : Int32) (z : KS) (h : f_Us_setCategories σ x1 x2 x3 = some z) : Met l y_Us_setCategories (Cond.code y_Us_setCategories b_Us_setCategories 4 none :: T0) ({ frames := 0, cells := 0, slots := 0, locals := 0 } : Room) (va_Pc [.ref (A 16), .int x1, .int x2, .int x3] (ka_Wd D A (GW A σ r) sz)) (ka_Rv D (GW A z r) (va_A (GW A σ r) sz)) 0 0 (va_A (GW A σ r) sz) := by
  unfold f_Us_setCategories at h
  refine ka_of (own := R_Us) (fun A9 => ka_Rv D (GW A z r) A9) (by decide) rfl (Nat.le_of_ble_eq_true rfl) ?_
  intro p e s m below meth c A9 ls S9 hr hlk hex X9 hP hD hl
  obtain ⟨hx, hb, hml, hown, hts⟩ := id S9
  have hK := X9.2.1
  have hS : va_S A9 s.heap s.heap [] := va_S.rf
  replace hl : lv_has ls 4 [(0, .ref (A 16)), (1, .int x1), (2, .int x2), (3, .int x3)] := hl
  refine lv_aload_n hx hb d_Us_setCategories_0 rfl (lv_at hl 0 rfl) ?_
  refine va_get (D := D) (ci := 3) (v := .ref (A 19)) (C := R_Us) (T := T_Us) (N := 7) hx hb hts wu_Us hown hK hP 16 rfl rfl 2 (by decide) (hts _ wf_Us_19) (fun _ h9 => h9) rfl d_Us_setCategories_1 ?_
  refine lv_iload_n hx hb d_Us_setCategories_4 rfl (lv_at hl 1 rfl) ?_
  refine lv_iload_n hx hb d_Us_setCategories_5 rfl (lv_at hl 2 rfl) ?_
  obtain ⟨i9, h⟩ := zo_i h
  obtain ⟨u1, hu9, h⟩ := zo_l h
  refine va_iast hx hb hK hP hD hS 19 0 rfl rfl i9 d_Us_setCategories_6 (fun H locs hP hD hS => ?_)
  replace hP : va_P D vwCl (GW A u1 r) H := by rw [hu9]; exact hP
  replace hD : va_D A9 (GW A u1 r) := by rw [hu9]; exact hD
  refine lv_aload_n hx hb d_Us_setCategories_7 rfl (lv_at hl 0 rfl) ?_
  refine va_get (D := D) (ci := 3) (v := .ref (A 20)) (C := R_Us) (T := T_Us) (N := 7) hx hb hts wu_Us hown hK hP 16 rfl rfl 3 (by decide) (hts _ wf_Us_22) (fun _ h9 => h9) rfl d_Us_setCategories_8 ?_
  refine lv_iload_n hx hb d_Us_setCategories_11 rfl (lv_at hl 1 rfl) ?_
  refine lv_iload_n hx hb d_Us_setCategories_12 rfl (lv_at hl 3 rfl) ?_
  obtain ⟨i9, h⟩ := zo_i h
  obtain ⟨u2, hu9, h⟩ := zo_l h
  refine va_iast hx hb hK hP hD hS 20 0 rfl rfl i9 d_Us_setCategories_13 (fun H locs hP hD hS => ?_)
  replace hP : va_P D vwCl (GW A u2 r) H := by rw [hu9]; exact hP
  replace hD : va_D A9 (GW A u2 r) := by rw [hu9]; exact hD
  cases h
  exact W.vret hx hb hr (fun t ht hW => ⟨⟨(), rfl, trivial, ka_at ht hP⟩, hS.F ht⟩) hS.2.2 d_Us_setCategories_14 hlk
def f_Us_setObjects (σ : KS) (x1 x2 x3 x4 : Int32) : Option (KS) := if x1 < 0 ∨ 4 ≤ (x1).toNatClampNeg then none else zl (sN_home σ (upd (gN_home σ) (x1).toNatClampNeg x2)) fun u1 => if x1 < 0 ∨ 4 ≤ (x1).toNatClampNeg then none else zl (sN_directory u1 (upd (gN_directory u1) (x1).toNatClampNeg x3)) fun u2 => if x1 < 0 ∨ 4 ≤ (x1).toNatClampNeg then none else zl (sN_gate u2 (upd (gN_gate u2) (x1).toNatClampNeg x4)) fun u3 => some u3
set_option maxRecDepth 100000 in
set_option maxHeartbeats 4000000 in
theorem c_Us_setObjects (l : Launch) (hl9 : l.stackTraces = false) (D : va_G) (A : Nat → Nat) (r : va_W) (sz : Nat) (σ : KS) (x1 x2 x3 x4 : Int32) (z : KS) (h : f_Us_setObjects σ x1 x2 x3 x4 = some z) : Met l y_Us_setObjects (Cond.code y_Us_setObjects b_Us_setObjects 5 none :: T0) ({ frames := 0, cells := 0, slots := 0, locals := 0 } : Room) (va_Pc [.ref (A 16), .int x1, .int x2, .int x3, .int x4] (ka_Wd D A (GW A σ r) sz)) (ka_Rv D (GW A z r) (va_A (GW A σ r) sz)) 0 0 (va_A (GW A σ r) sz) := by
  unfold f_Us_setObjects at h
  refine ka_of (own := R_Us) (fun A9 => ka_Rv D (GW A z r) A9) (by decide) rfl (Nat.le_of_ble_eq_true rfl) ?_
  intro p e s m below meth c A9 ls S9 hr hlk hex X9 hP hD hl
  obtain ⟨hx, hb, hml, hown, hts⟩ := id S9
  have hK := X9.2.1
  have hS : va_S A9 s.heap s.heap [] := va_S.rf
  replace hl : lv_has ls 5 [(0, .ref (A 16)), (1, .int x1), (2, .int x2), (3, .int x3), (4, .int x4)] := hl
  refine lv_aload_n hx hb d_Us_setObjects_0 rfl (lv_at hl 0 rfl) ?_
  refine va_get (D := D) (ci := 3) (v := .ref (A 21)) (C := R_Us) (T := T_Us) (N := 7) hx hb hts wu_Us hown hK hP 16 rfl rfl 4 (by decide) (hts _ wf_Us_25) (fun _ h9 => h9) rfl d_Us_setObjects_1 ?_
  refine lv_iload_n hx hb d_Us_setObjects_4 rfl (lv_at hl 1 rfl) ?_
  refine lv_iload_n hx hb d_Us_setObjects_5 rfl (lv_at hl 2 rfl) ?_
  obtain ⟨i9, h⟩ := zo_i h
  obtain ⟨u1, hu9, h⟩ := zo_l h
  refine va_iast hx hb hK hP hD hS 21 0 rfl rfl i9 d_Us_setObjects_6 (fun H locs hP hD hS => ?_)
  replace hP : va_P D vwCl (GW A u1 r) H := by rw [hu9]; exact hP
  replace hD : va_D A9 (GW A u1 r) := by rw [hu9]; exact hD
  refine lv_aload_n hx hb d_Us_setObjects_7 rfl (lv_at hl 0 rfl) ?_
  refine va_get (D := D) (ci := 3) (v := .ref (A 22)) (C := R_Us) (T := T_Us) (N := 7) hx hb hts wu_Us hown hK hP 16 rfl rfl 5 (by decide) (hts _ wf_Us_28) (fun _ h9 => h9) rfl d_Us_setObjects_8 ?_
  refine lv_iload_n hx hb d_Us_setObjects_11 rfl (lv_at hl 1 rfl) ?_
  refine lv_iload_n hx hb d_Us_setObjects_12 rfl (lv_at hl 3 rfl) ?_
  obtain ⟨i9, h⟩ := zo_i h
  obtain ⟨u2, hu9, h⟩ := zo_l h
  refine va_iast hx hb hK hP hD hS 22 0 rfl rfl i9 d_Us_setObjects_13 (fun H locs hP hD hS => ?_)
  replace hP : va_P D vwCl (GW A u2 r) H := by rw [hu9]; exact hP
  replace hD : va_D A9 (GW A u2 r) := by rw [hu9]; exact hD
  refine lv_aload_n hx hb d_Us_setObjects_14 rfl (lv_at hl 0 rfl) ?_
  refine va_get (D := D) (ci := 3) (v := .ref (A 23)) (C := R_Us) (T := T_Us) (N := 7) hx hb hts wu_Us hown hK hP 16 rfl rfl 6 (by decide) (hts _ wf_Us_31) (fun _ h9 => h9) rfl d_Us_setObjects_15 ?_
  refine lv_iload_n hx hb d_Us_setObjects_18 rfl (lv_at hl 1 rfl) ?_
  refine lv_iload hx hb d_Us_setObjects_19 (lv_at hl 4 rfl) ?_
  obtain ⟨i9, h⟩ := zo_i h
  obtain ⟨u3, hu9, h⟩ := zo_l h
  refine va_iast hx hb hK hP hD hS 23 0 rfl rfl i9 d_Us_setObjects_21 (fun H locs hP hD hS => ?_)
  replace hP : va_P D vwCl (GW A u3 r) H := by rw [hu9]; exact hP
  replace hD : va_D A9 (GW A u3 r) := by rw [hu9]; exact hD
  cases h
  exact W.vret hx hb hr (fun t ht hW => ⟨⟨(), rfl, trivial, ka_at ht hP⟩, hS.F ht⟩) hS.2.2 d_Us_setObjects_22 hlk
def f_Us_add (σ : KS) (x1 x2 : Int32) : Option (KS) := if x1 < 0 ∨ 4 ≤ (x1).toNatClampNeg then none else zl (sN_uthere σ (upd (gN_uthere σ) (x1).toNatClampNeg (vp_nar .boolean 1))) fun u1 => if x1 < 0 ∨ 4 ≤ (x1).toNatClampNeg then none else zl (sN_password u1 (upd (gN_password u1) (x1).toNatClampNeg x2)) fun u2 => some u2
set_option maxRecDepth 100000 in
set_option maxHeartbeats 4000000 in
theorem c_Us_add (l : Launch) (hl9 : l.stackTraces = false) (D : va_G) (A : Nat → Nat) (r : va_W) (sz : Nat) (σ : KS) (x1 x2 : Int32) (z : KS) (h : f_Us_add σ x1 x2 = some z) : Met l y_Us_add (Cond.code y_Us_add b_Us_add 3 none :: T0) ({ frames := 0, cells := 0, slots := 0, locals := 0 } : Room) (va_Pc [.ref (A 16), .int x1, .int x2] (ka_Wd D A (GW A σ r) sz)) (ka_Rv D (GW A z r) (va_A (GW A σ r) sz)) 0 0 (va_A (GW A σ r) sz) := by
  unfold f_Us_add at h
  refine ka_of (own := R_Us) (fun A9 => ka_Rv D (GW A z r) A9) (by decide) rfl (Nat.le_of_ble_eq_true rfl) ?_
  intro p e s m below meth c A9 ls S9 hr hlk hex X9 hP hD hl
  obtain ⟨hx, hb, hml, hown, hts⟩ := id S9
  have hK := X9.2.1
  have hS : va_S A9 s.heap s.heap [] := va_S.rf
  replace hl : lv_has ls 3 [(0, .ref (A 16)), (1, .int x1), (2, .int x2)] := hl
  refine lv_aload_n hx hb d_Us_add_0 rfl (lv_at hl 0 rfl) ?_
  refine va_get (D := D) (ci := 3) (v := .ref (A 17)) (C := R_Us) (T := T_Us) (N := 7) hx hb hts wu_Us hown hK hP 16 rfl rfl 0 (by decide) (hts _ wf_Us_9) (fun _ h9 => h9) rfl d_Us_add_1 ?_
  refine lv_iload_n hx hb d_Us_add_4 rfl (lv_at hl 1 rfl) ?_
  refine lv_iconst (v := 1) hx hb d_Us_add_5 (by decide) ?_
  obtain ⟨i9, h⟩ := zo_i h
  obtain ⟨u1, hu9, h⟩ := zo_l h
  refine va_zast hx hb hK hP hD hS 17 1 rfl rfl i9 d_Us_add_6 (fun H locs hP hD hS => ?_)
  replace hP : va_P D vwCl (GW A u1 r) H := by rw [hu9]; exact hP
  replace hD : va_D A9 (GW A u1 r) := by rw [hu9]; exact hD
  refine lv_aload_n hx hb d_Us_add_7 rfl (lv_at hl 0 rfl) ?_
  refine va_get (D := D) (ci := 3) (v := .ref (A 18)) (C := R_Us) (T := T_Us) (N := 7) hx hb hts wu_Us hown hK hP 16 rfl rfl 1 (by decide) (hts _ wf_Us_15) (fun _ h9 => h9) rfl d_Us_add_8 ?_
  refine lv_iload_n hx hb d_Us_add_11 rfl (lv_at hl 1 rfl) ?_
  refine lv_iload_n hx hb d_Us_add_12 rfl (lv_at hl 2 rfl) ?_
  obtain ⟨i9, h⟩ := zo_i h
  obtain ⟨u2, hu9, h⟩ := zo_l h
  refine va_iast hx hb hK hP hD hS 18 0 rfl rfl i9 d_Us_add_13 (fun H locs hP hD hS => ?_)
  replace hP : va_P D vwCl (GW A u2 r) H := by rw [hu9]; exact hP
  replace hD : va_D A9 (GW A u2 r) := by rw [hu9]; exact hD
  cases h
  exact W.vret hx hb hr (fun t ht hW => ⟨⟨(), rfl, trivial, ka_at ht hP⟩, hS.F ht⟩) hS.2.2 d_Us_add_14 hlk
def f_Us_passwordOf (σ : KS) (x1 : Int32) : Option (Int32) := if x1 < 0 ∨ 4 ≤ (x1).toNatClampNeg then none else some (gN_password σ (x1).toNatClampNeg)
set_option maxRecDepth 100000 in
set_option maxHeartbeats 4000000 in
theorem c_Us_passwordOf (l : Launch) (hl9 : l.stackTraces = false) (D : va_G) (A : Nat → Nat) (r : va_W) (sz : Nat) (σ : KS) (x1 : Int32) (z : Int32) (h : f_Us_passwordOf σ x1 = some z) : Met l y_Us_passwordOf (Cond.code y_Us_passwordOf b_Us_passwordOf 2 (some .int) :: T0) ({ frames := 0, cells := 0, slots := 0, locals := 0 } : Room) (va_Pc [.ref (A 16), .int x1] (ka_Wd D A (GW A σ r) sz)) (ka_Ri D z (GW A σ r) (va_A (GW A σ r) sz)) 0 0 (va_A (GW A σ r) sz) := by
  unfold f_Us_passwordOf at h
  refine ka_of (own := R_Us) (fun A9 => ka_Ri D z (GW A σ r) A9) (by decide) rfl (Nat.le_of_ble_eq_true rfl) ?_
  intro p e s m below meth c A9 ls S9 hr hlk hex X9 hP hD hl
  obtain ⟨hx, hb, hml, hown, hts⟩ := id S9
  have hK := X9.2.1
  have hS : va_S A9 s.heap s.heap [] := va_S.rf
  replace hl : lv_has ls 2 [(0, .ref (A 16)), (1, .int x1)] := hl
  refine lv_aload_n hx hb d_Us_passwordOf_0 rfl (lv_at hl 0 rfl) ?_
  refine va_get (D := D) (ci := 3) (v := .ref (A 18)) (C := R_Us) (T := T_Us) (N := 7) hx hb hts wu_Us hown hK hP 16 rfl rfl 1 (by decide) (hts _ wf_Us_15) (fun _ h9 => h9) rfl d_Us_passwordOf_1 ?_
  refine lv_iload_n hx hb d_Us_passwordOf_4 rfl (lv_at hl 1 rfl) ?_
  obtain ⟨i9, h⟩ := zo_i h
  refine va_iald hx hb hK hP 18 0 rfl rfl i9 d_Us_passwordOf_5 ?_
  cases h
  exact W.iret hx hb hr (fun t ht hW => ⟨⟨_, (), rfl, rfl, ka_at ht hP⟩, hS.F ht⟩) hS.2.2 d_Us_passwordOf_6 hlk
def f_Us_firstCategoryOf (σ : KS) (x1 : Int32) : Option (Int32) := if x1 < 0 ∨ 4 ≤ (x1).toNatClampNeg then none else some (gN_firstCategory σ (x1).toNatClampNeg)
set_option maxRecDepth 100000 in
set_option maxHeartbeats 4000000 in
theorem c_Us_firstCategoryOf (l : Launch) (hl9 : l.stackTraces = false) (D : va_G) (A : Nat → Nat) (r : va_W) (sz : Nat) (σ : KS) (x1 : Int32) (z : Int32) (h : f_Us_firstCategoryOf σ x1 = some z) : Met l y_Us_firstCategoryOf (Cond.code y_Us_firstCategoryOf b_Us_firstCategoryOf 2 (some .int) :: T0) ({ frames := 0, cells := 0, slots := 0, locals := 0 } : Room) (va_Pc [.ref (A 16), .int x1] (ka_Wd D A (GW A σ r) sz)) (ka_Ri D z (GW A σ r) (va_A (GW A σ r) sz)) 0 0 (va_A (GW A σ r) sz) := by
  unfold f_Us_firstCategoryOf at h
  refine ka_of (own := R_Us) (fun A9 => ka_Ri D z (GW A σ r) A9) (by decide) rfl (Nat.le_of_ble_eq_true rfl) ?_
  intro p e s m below meth c A9 ls S9 hr hlk hex X9 hP hD hl
  obtain ⟨hx, hb, hml, hown, hts⟩ := id S9
  have hK := X9.2.1
  have hS : va_S A9 s.heap s.heap [] := va_S.rf
  replace hl : lv_has ls 2 [(0, .ref (A 16)), (1, .int x1)] := hl
  refine lv_aload_n hx hb d_Us_firstCategoryOf_0 rfl (lv_at hl 0 rfl) ?_
  refine va_get (D := D) (ci := 3) (v := .ref (A 19)) (C := R_Us) (T := T_Us) (N := 7) hx hb hts wu_Us hown hK hP 16 rfl rfl 2 (by decide) (hts _ wf_Us_19) (fun _ h9 => h9) rfl d_Us_firstCategoryOf_1 ?_
  refine lv_iload_n hx hb d_Us_firstCategoryOf_4 rfl (lv_at hl 1 rfl) ?_
  obtain ⟨i9, h⟩ := zo_i h
  refine va_iald hx hb hK hP 19 0 rfl rfl i9 d_Us_firstCategoryOf_5 ?_
  cases h
  exact W.iret hx hb hr (fun t ht hW => ⟨⟨_, (), rfl, rfl, ka_at ht hP⟩, hS.F ht⟩) hS.2.2 d_Us_firstCategoryOf_6 hlk
def f_Us_secondCategoryOf (σ : KS) (x1 : Int32) : Option (Int32) := if x1 < 0 ∨ 4 ≤ (x1).toNatClampNeg then none else some (gN_secondCategory σ (x1).toNatClampNeg)
set_option maxRecDepth 100000 in
set_option maxHeartbeats 4000000 in
theorem c_Us_secondCategoryOf (l : Launch) (hl9 : l.stackTraces = false) (D : va_G) (A : Nat → Nat) (r : va_W) (sz : Nat) (σ : KS) (x1 : Int32) (z : Int32) (h : f_Us_secondCategoryOf σ x1 = some z) : Met l y_Us_secondCategoryOf (Cond.code y_Us_secondCategoryOf b_Us_secondCategoryOf 2 (some .int) :: T0) ({ frames := 0, cells := 0, slots := 0, locals := 0 } : Room) (va_Pc [.ref (A 16), .int x1] (ka_Wd D A (GW A σ r) sz)) (ka_Ri D z (GW A σ r) (va_A (GW A σ r) sz)) 0 0 (va_A (GW A σ r) sz) := by
  unfold f_Us_secondCategoryOf at h
  refine ka_of (own := R_Us) (fun A9 => ka_Ri D z (GW A σ r) A9) (by decide) rfl (Nat.le_of_ble_eq_true rfl) ?_
  intro p e s m below meth c A9 ls S9 hr hlk hex X9 hP hD hl
  obtain ⟨hx, hb, hml, hown, hts⟩ := id S9
  have hK := X9.2.1
  have hS : va_S A9 s.heap s.heap [] := va_S.rf
  replace hl : lv_has ls 2 [(0, .ref (A 16)), (1, .int x1)] := hl
  refine lv_aload_n hx hb d_Us_secondCategoryOf_0 rfl (lv_at hl 0 rfl) ?_
  refine va_get (D := D) (ci := 3) (v := .ref (A 20)) (C := R_Us) (T := T_Us) (N := 7) hx hb hts wu_Us hown hK hP 16 rfl rfl 3 (by decide) (hts _ wf_Us_22) (fun _ h9 => h9) rfl d_Us_secondCategoryOf_1 ?_
  refine lv_iload_n hx hb d_Us_secondCategoryOf_4 rfl (lv_at hl 1 rfl) ?_
  obtain ⟨i9, h⟩ := zo_i h
  refine va_iald hx hb hK hP 20 0 rfl rfl i9 d_Us_secondCategoryOf_5 ?_
  cases h
  exact W.iret hx hb hr (fun t ht hW => ⟨⟨_, (), rfl, rfl, ka_at ht hP⟩, hS.F ht⟩) hS.2.2 d_Us_secondCategoryOf_6 hlk
def f_Us_gateOf (σ : KS) (x1 : Int32) : Option (Int32) := if x1 < 0 ∨ 4 ≤ (x1).toNatClampNeg then none else some (gN_gate σ (x1).toNatClampNeg)
set_option maxRecDepth 100000 in
set_option maxHeartbeats 4000000 in
theorem c_Us_gateOf (l : Launch) (hl9 : l.stackTraces = false) (D : va_G) (A : Nat → Nat) (r : va_W) (sz : Nat) (σ : KS) (x1 : Int32) (z : Int32) (h : f_Us_gateOf σ x1 = some z) : Met l y_Us_gateOf (Cond.code y_Us_gateOf b_Us_gateOf 2 (some .int) :: T0) ({ frames := 0, cells := 0, slots := 0, locals := 0 } : Room) (va_Pc [.ref (A 16), .int x1] (ka_Wd D A (GW A σ r) sz)) (ka_Ri D z (GW A σ r) (va_A (GW A σ r) sz)) 0 0 (va_A (GW A σ r) sz) := by
  unfold f_Us_gateOf at h
  refine ka_of (own := R_Us) (fun A9 => ka_Ri D z (GW A σ r) A9) (by decide) rfl (Nat.le_of_ble_eq_true rfl) ?_
  intro p e s m below meth c A9 ls S9 hr hlk hex X9 hP hD hl
  obtain ⟨hx, hb, hml, hown, hts⟩ := id S9
  have hK := X9.2.1
  have hS : va_S A9 s.heap s.heap [] := va_S.rf
  replace hl : lv_has ls 2 [(0, .ref (A 16)), (1, .int x1)] := hl
  refine lv_aload_n hx hb d_Us_gateOf_0 rfl (lv_at hl 0 rfl) ?_
  refine va_get (D := D) (ci := 3) (v := .ref (A 23)) (C := R_Us) (T := T_Us) (N := 7) hx hb hts wu_Us hown hK hP 16 rfl rfl 6 (by decide) (hts _ wf_Us_31) (fun _ h9 => h9) rfl d_Us_gateOf_1 ?_
  refine lv_iload_n hx hb d_Us_gateOf_4 rfl (lv_at hl 1 rfl) ?_
  obtain ⟨i9, h⟩ := zo_i h
  refine va_iald hx hb hK hP 23 0 rfl rfl i9 d_Us_gateOf_5 ?_
  cases h
  exact W.iret hx hb hr (fun t ht hW => ⟨⟨_, (), rfl, rfl, ka_at ht hP⟩, hS.F ht⟩) hS.2.2 d_Us_gateOf_6 hlk
def f_Us_homeOf (σ : KS) (x1 : Int32) : Option (Int32) := if x1 < 0 ∨ 4 ≤ (x1).toNatClampNeg then none else some (gN_home σ (x1).toNatClampNeg)
set_option maxRecDepth 100000 in
set_option maxHeartbeats 4000000 in
theorem c_Us_homeOf (l : Launch) (hl9 : l.stackTraces = false) (D : va_G) (A : Nat → Nat) (r : va_W) (sz : Nat) (σ : KS) (x1 : Int32) (z : Int32) (h : f_Us_homeOf σ x1 = some z) : Met l y_Us_homeOf (Cond.code y_Us_homeOf b_Us_homeOf 2 (some .int) :: T0) ({ frames := 0, cells := 0, slots := 0, locals := 0 } : Room) (va_Pc [.ref (A 16), .int x1] (ka_Wd D A (GW A σ r) sz)) (ka_Ri D z (GW A σ r) (va_A (GW A σ r) sz)) 0 0 (va_A (GW A σ r) sz) := by
  unfold f_Us_homeOf at h
  refine ka_of (own := R_Us) (fun A9 => ka_Ri D z (GW A σ r) A9) (by decide) rfl (Nat.le_of_ble_eq_true rfl) ?_
  intro p e s m below meth c A9 ls S9 hr hlk hex X9 hP hD hl
  obtain ⟨hx, hb, hml, hown, hts⟩ := id S9
  have hK := X9.2.1
  have hS : va_S A9 s.heap s.heap [] := va_S.rf
  replace hl : lv_has ls 2 [(0, .ref (A 16)), (1, .int x1)] := hl
  refine lv_aload_n hx hb d_Us_homeOf_0 rfl (lv_at hl 0 rfl) ?_
  refine va_get (D := D) (ci := 3) (v := .ref (A 21)) (C := R_Us) (T := T_Us) (N := 7) hx hb hts wu_Us hown hK hP 16 rfl rfl 4 (by decide) (hts _ wf_Us_25) (fun _ h9 => h9) rfl d_Us_homeOf_1 ?_
  refine lv_iload_n hx hb d_Us_homeOf_4 rfl (lv_at hl 1 rfl) ?_
  obtain ⟨i9, h⟩ := zo_i h
  refine va_iald hx hb hK hP 21 0 rfl rfl i9 d_Us_homeOf_5 ?_
  cases h
  exact W.iret hx hb hr (fun t ht hW => ⟨⟨_, (), rfl, rfl, ka_at ht hP⟩, hS.F ht⟩) hS.2.2 d_Us_homeOf_6 hlk
def f_Us_directoryOf (σ : KS) (x1 : Int32) : Option (Int32) := if x1 < 0 ∨ 4 ≤ (x1).toNatClampNeg then none else some (gN_directory σ (x1).toNatClampNeg)
set_option maxRecDepth 100000 in
set_option maxHeartbeats 4000000 in
theorem c_Us_directoryOf (l : Launch) (hl9 : l.stackTraces = false) (D : va_G) (A : Nat → Nat) (r : va_W) (sz : Nat) (σ : KS) (x1 : Int32) (z : Int32) (h : f_Us_directoryOf σ x1 = some z) : Met l y_Us_directoryOf (Cond.code y_Us_directoryOf b_Us_directoryOf 2 (some .int) :: T0) ({ frames := 0, cells := 0, slots := 0, locals := 0 } : Room) (va_Pc [.ref (A 16), .int x1] (ka_Wd D A (GW A σ r) sz)) (ka_Ri D z (GW A σ r) (va_A (GW A σ r) sz)) 0 0 (va_A (GW A σ r) sz) := by
  unfold f_Us_directoryOf at h
  refine ka_of (own := R_Us) (fun A9 => ka_Ri D z (GW A σ r) A9) (by decide) rfl (Nat.le_of_ble_eq_true rfl) ?_
  intro p e s m below meth c A9 ls S9 hr hlk hex X9 hP hD hl
  obtain ⟨hx, hb, hml, hown, hts⟩ := id S9
  have hK := X9.2.1
  have hS : va_S A9 s.heap s.heap [] := va_S.rf
  replace hl : lv_has ls 2 [(0, .ref (A 16)), (1, .int x1)] := hl
  refine lv_aload_n hx hb d_Us_directoryOf_0 rfl (lv_at hl 0 rfl) ?_
  refine va_get (D := D) (ci := 3) (v := .ref (A 22)) (C := R_Us) (T := T_Us) (N := 7) hx hb hts wu_Us hown hK hP 16 rfl rfl 5 (by decide) (hts _ wf_Us_28) (fun _ h9 => h9) rfl d_Us_directoryOf_1 ?_
  refine lv_iload_n hx hb d_Us_directoryOf_4 rfl (lv_at hl 1 rfl) ?_
  obtain ⟨i9, h⟩ := zo_i h
  refine va_iald hx hb hK hP 22 0 rfl rfl i9 d_Us_directoryOf_5 ?_
  cases h
  exact W.iret hx hb hr (fun t ht hW => ⟨⟨_, (), rfl, rfl, ka_at ht hP⟩, hS.F ht⟩) hS.2.2 d_Us_directoryOf_6 hlk
def f_Us_takeFrom_39_16 (σ : KS) : Option (KS) := if ∀ i, i < (4 : Int32).toNatClampNeg → fits .boolean (.int (gN_uthere σ ((0 : Int32).toNatClampNeg + i))) = true then (zl (sK_uthere σ (va_cpy (gN_uthere σ) (gK_uthere σ) (0 : Int32).toNatClampNeg (0 : Int32).toNatClampNeg (4 : Int32).toNatClampNeg)) fun u1 => zl (sK_password u1 (va_cpy (gN_password u1) (gK_password u1) (0 : Int32).toNatClampNeg (0 : Int32).toNatClampNeg (4 : Int32).toNatClampNeg)) fun u2 => zl (sK_firstCategory u2 (va_cpy (gN_firstCategory u2) (gK_firstCategory u2) (0 : Int32).toNatClampNeg (0 : Int32).toNatClampNeg (4 : Int32).toNatClampNeg)) fun u3 => zl (sK_secondCategory u3 (va_cpy (gN_secondCategory u3) (gK_secondCategory u3) (0 : Int32).toNatClampNeg (0 : Int32).toNatClampNeg (4 : Int32).toNatClampNeg)) fun u4 => zl (sK_home u4 (va_cpy (gN_home u4) (gK_home u4) (0 : Int32).toNatClampNeg (0 : Int32).toNatClampNeg (4 : Int32).toNatClampNeg)) fun u5 => zl (sK_directory u5 (va_cpy (gN_directory u5) (gK_directory u5) (0 : Int32).toNatClampNeg (0 : Int32).toNatClampNeg (4 : Int32).toNatClampNeg)) fun u6 => zl (sK_gate u6 (va_cpy (gN_gate u6) (gK_gate u6) (0 : Int32).toNatClampNeg (0 : Int32).toNatClampNeg (4 : Int32).toNatClampNeg)) fun u7 => some u7) else none
set_option maxRecDepth 100000 in
set_option maxHeartbeats 4000000 in
theorem c_Us_takeFrom_39_16 (l : Launch) (hl9 : l.stackTraces = false) (D : va_G) (A : Nat → Nat) (r : va_W) (sz : Nat) (σ : KS) (z : KS) (h : f_Us_takeFrom_39_16 σ = some z) : Met l y_Us_takeFrom (Cond.code y_Us_takeFrom b_Us_takeFrom 2 none :: T0) ({ frames := 1, cells := 0, slots := 0, locals := 60 } : Room) (va_Pc [.ref (A 39), .ref (A 16)] (ka_Wd D A (GW A σ r) sz)) (ka_Rv D (GW A z r) (va_A (GW A σ r) sz)) 0 0 (va_A (GW A σ r) sz) := by
  unfold f_Us_takeFrom_39_16 at h
  refine ka_of (own := R_Us) (fun A9 => ka_Rv D (GW A z r) A9) (by decide) rfl (Nat.le_of_ble_eq_true rfl) ?_
  intro p e s m below meth c A9 ls S9 hr hlk hex X9 hP hD hl
  obtain ⟨hx, hb, hml, hown, hts⟩ := id S9
  have hK := X9.2.1
  have hS : va_S A9 s.heap s.heap [] := va_S.rf
  replace hl : lv_has ls 2 [(0, .ref (A 39)), (1, .ref (A 16))] := hl
  refine lv_aload_n hx hb d_Us_takeFrom_0 rfl (lv_at hl 1 rfl) ?_
  refine va_get (D := D) (ci := 3) (v := .ref (A 17)) (C := R_Us) (T := T_Us) (N := 7) hx hb hts wu_Us hown hK hP 16 rfl rfl 0 (by decide) (hts _ wf_Us_9) (fun _ h9 => h9) rfl d_Us_takeFrom_1 ?_
  refine lv_iconst (v := 0) hx hb d_Us_takeFrom_4 (by decide) ?_
  refine lv_aload_n hx hb d_Us_takeFrom_5 rfl (lv_at hl 0 rfl) ?_
  refine va_get (D := D) (ci := 3) (v := .ref (A 40)) (C := R_Us) (T := T_Us) (N := 7) hx hb hts wu_Us hown hK hP 39 rfl rfl 0 (by decide) (hts _ wf_Us_9) (fun _ h9 => h9) rfl d_Us_takeFrom_6 ?_
  refine lv_iconst (v := 0) hx hb d_Us_takeFrom_9 (by decide) ?_
  refine lv_iconst (v := 4) hx hb d_Us_takeFrom_10 (by decide) ?_
  obtain ⟨b9, h⟩ := zo_g h
  obtain ⟨u1, hu9, h⟩ := zo_l h
  refine va_copyi hx hb (hml.trans hl.1.symm) hown (hts _ wl_Us_34) (hts _ wv_copy) (hts _ ws_copy) (hts _ wi_System) hK hP hD hS 17 40 1 1 rfl rfl rfl rfl rfl (by decide) (by decide) (by decide) (by decide) (by decide) b9 (Nat.le_of_ble_eq_true rfl) (by decide) d_Us_takeFrom_11 (fun H locs hP hD hS => ?_)
  replace hP : va_P D vwCl (GW A u1 r) H := by rw [hu9]; exact hP
  replace hD : va_D A9 (GW A u1 r) := by rw [hu9]; exact hD
  refine lv_aload_n hx hb d_Us_takeFrom_14 rfl (lv_at hl 1 rfl) ?_
  refine va_get (D := D) (ci := 3) (v := .ref (A 18)) (C := R_Us) (T := T_Us) (N := 7) hx hb hts wu_Us hown hK hP 16 rfl rfl 1 (by decide) (hts _ wf_Us_15) (fun _ h9 => h9) rfl d_Us_takeFrom_15 ?_
  refine lv_iconst (v := 0) hx hb d_Us_takeFrom_18 (by decide) ?_
  refine lv_aload_n hx hb d_Us_takeFrom_19 rfl (lv_at hl 0 rfl) ?_
  refine va_get (D := D) (ci := 3) (v := .ref (A 41)) (C := R_Us) (T := T_Us) (N := 7) hx hb hts wu_Us hown hK hP 39 rfl rfl 1 (by decide) (hts _ wf_Us_15) (fun _ h9 => h9) rfl d_Us_takeFrom_20 ?_
  refine lv_iconst (v := 0) hx hb d_Us_takeFrom_23 (by decide) ?_
  refine lv_iconst (v := 4) hx hb d_Us_takeFrom_24 (by decide) ?_
  obtain ⟨u2, hu9, h⟩ := zo_l h
  refine va_copyi hx hb (hml.trans hl.1.symm) hown (hts _ wl_Us_34) (hts _ wv_copy) (hts _ ws_copy) (hts _ wi_System) hK hP hD hS 18 41 0 0 rfl rfl rfl rfl rfl (by decide) (by decide) (by decide) (by decide) (by decide) (fun _ _ => rfl) (Nat.le_of_ble_eq_true rfl) (by decide) d_Us_takeFrom_25 (fun H locs hP hD hS => ?_)
  replace hP : va_P D vwCl (GW A u2 r) H := by rw [hu9]; exact hP
  replace hD : va_D A9 (GW A u2 r) := by rw [hu9]; exact hD
  refine lv_aload_n hx hb d_Us_takeFrom_28 rfl (lv_at hl 1 rfl) ?_
  refine va_get (D := D) (ci := 3) (v := .ref (A 19)) (C := R_Us) (T := T_Us) (N := 7) hx hb hts wu_Us hown hK hP 16 rfl rfl 2 (by decide) (hts _ wf_Us_19) (fun _ h9 => h9) rfl d_Us_takeFrom_29 ?_
  refine lv_iconst (v := 0) hx hb d_Us_takeFrom_32 (by decide) ?_
  refine lv_aload_n hx hb d_Us_takeFrom_33 rfl (lv_at hl 0 rfl) ?_
  refine va_get (D := D) (ci := 3) (v := .ref (A 42)) (C := R_Us) (T := T_Us) (N := 7) hx hb hts wu_Us hown hK hP 39 rfl rfl 2 (by decide) (hts _ wf_Us_19) (fun _ h9 => h9) rfl d_Us_takeFrom_34 ?_
  refine lv_iconst (v := 0) hx hb d_Us_takeFrom_37 (by decide) ?_
  refine lv_iconst (v := 4) hx hb d_Us_takeFrom_38 (by decide) ?_
  obtain ⟨u3, hu9, h⟩ := zo_l h
  refine va_copyi hx hb (hml.trans hl.1.symm) hown (hts _ wl_Us_34) (hts _ wv_copy) (hts _ ws_copy) (hts _ wi_System) hK hP hD hS 19 42 0 0 rfl rfl rfl rfl rfl (by decide) (by decide) (by decide) (by decide) (by decide) (fun _ _ => rfl) (Nat.le_of_ble_eq_true rfl) (by decide) d_Us_takeFrom_39 (fun H locs hP hD hS => ?_)
  replace hP : va_P D vwCl (GW A u3 r) H := by rw [hu9]; exact hP
  replace hD : va_D A9 (GW A u3 r) := by rw [hu9]; exact hD
  refine lv_aload_n hx hb d_Us_takeFrom_42 rfl (lv_at hl 1 rfl) ?_
  refine va_get (D := D) (ci := 3) (v := .ref (A 20)) (C := R_Us) (T := T_Us) (N := 7) hx hb hts wu_Us hown hK hP 16 rfl rfl 3 (by decide) (hts _ wf_Us_22) (fun _ h9 => h9) rfl d_Us_takeFrom_43 ?_
  refine lv_iconst (v := 0) hx hb d_Us_takeFrom_46 (by decide) ?_
  refine lv_aload_n hx hb d_Us_takeFrom_47 rfl (lv_at hl 0 rfl) ?_
  refine va_get (D := D) (ci := 3) (v := .ref (A 43)) (C := R_Us) (T := T_Us) (N := 7) hx hb hts wu_Us hown hK hP 39 rfl rfl 3 (by decide) (hts _ wf_Us_22) (fun _ h9 => h9) rfl d_Us_takeFrom_48 ?_
  refine lv_iconst (v := 0) hx hb d_Us_takeFrom_51 (by decide) ?_
  refine lv_iconst (v := 4) hx hb d_Us_takeFrom_52 (by decide) ?_
  obtain ⟨u4, hu9, h⟩ := zo_l h
  refine va_copyi hx hb (hml.trans hl.1.symm) hown (hts _ wl_Us_34) (hts _ wv_copy) (hts _ ws_copy) (hts _ wi_System) hK hP hD hS 20 43 0 0 rfl rfl rfl rfl rfl (by decide) (by decide) (by decide) (by decide) (by decide) (fun _ _ => rfl) (Nat.le_of_ble_eq_true rfl) (by decide) d_Us_takeFrom_53 (fun H locs hP hD hS => ?_)
  replace hP : va_P D vwCl (GW A u4 r) H := by rw [hu9]; exact hP
  replace hD : va_D A9 (GW A u4 r) := by rw [hu9]; exact hD
  refine lv_aload_n hx hb d_Us_takeFrom_56 rfl (lv_at hl 1 rfl) ?_
  refine va_get (D := D) (ci := 3) (v := .ref (A 21)) (C := R_Us) (T := T_Us) (N := 7) hx hb hts wu_Us hown hK hP 16 rfl rfl 4 (by decide) (hts _ wf_Us_25) (fun _ h9 => h9) rfl d_Us_takeFrom_57 ?_
  refine lv_iconst (v := 0) hx hb d_Us_takeFrom_60 (by decide) ?_
  refine lv_aload_n hx hb d_Us_takeFrom_61 rfl (lv_at hl 0 rfl) ?_
  refine va_get (D := D) (ci := 3) (v := .ref (A 44)) (C := R_Us) (T := T_Us) (N := 7) hx hb hts wu_Us hown hK hP 39 rfl rfl 4 (by decide) (hts _ wf_Us_25) (fun _ h9 => h9) rfl d_Us_takeFrom_62 ?_
  refine lv_iconst (v := 0) hx hb d_Us_takeFrom_65 (by decide) ?_
  refine lv_iconst (v := 4) hx hb d_Us_takeFrom_66 (by decide) ?_
  obtain ⟨u5, hu9, h⟩ := zo_l h
  refine va_copyi hx hb (hml.trans hl.1.symm) hown (hts _ wl_Us_34) (hts _ wv_copy) (hts _ ws_copy) (hts _ wi_System) hK hP hD hS 21 44 0 0 rfl rfl rfl rfl rfl (by decide) (by decide) (by decide) (by decide) (by decide) (fun _ _ => rfl) (Nat.le_of_ble_eq_true rfl) (by decide) d_Us_takeFrom_67 (fun H locs hP hD hS => ?_)
  replace hP : va_P D vwCl (GW A u5 r) H := by rw [hu9]; exact hP
  replace hD : va_D A9 (GW A u5 r) := by rw [hu9]; exact hD
  refine lv_aload_n hx hb d_Us_takeFrom_70 rfl (lv_at hl 1 rfl) ?_
  refine va_get (D := D) (ci := 3) (v := .ref (A 22)) (C := R_Us) (T := T_Us) (N := 7) hx hb hts wu_Us hown hK hP 16 rfl rfl 5 (by decide) (hts _ wf_Us_28) (fun _ h9 => h9) rfl d_Us_takeFrom_71 ?_
  refine lv_iconst (v := 0) hx hb d_Us_takeFrom_74 (by decide) ?_
  refine lv_aload_n hx hb d_Us_takeFrom_75 rfl (lv_at hl 0 rfl) ?_
  refine va_get (D := D) (ci := 3) (v := .ref (A 45)) (C := R_Us) (T := T_Us) (N := 7) hx hb hts wu_Us hown hK hP 39 rfl rfl 5 (by decide) (hts _ wf_Us_28) (fun _ h9 => h9) rfl d_Us_takeFrom_76 ?_
  refine lv_iconst (v := 0) hx hb d_Us_takeFrom_79 (by decide) ?_
  refine lv_iconst (v := 4) hx hb d_Us_takeFrom_80 (by decide) ?_
  obtain ⟨u6, hu9, h⟩ := zo_l h
  refine va_copyi hx hb (hml.trans hl.1.symm) hown (hts _ wl_Us_34) (hts _ wv_copy) (hts _ ws_copy) (hts _ wi_System) hK hP hD hS 22 45 0 0 rfl rfl rfl rfl rfl (by decide) (by decide) (by decide) (by decide) (by decide) (fun _ _ => rfl) (Nat.le_of_ble_eq_true rfl) (by decide) d_Us_takeFrom_81 (fun H locs hP hD hS => ?_)
  replace hP : va_P D vwCl (GW A u6 r) H := by rw [hu9]; exact hP
  replace hD : va_D A9 (GW A u6 r) := by rw [hu9]; exact hD
  refine lv_aload_n hx hb d_Us_takeFrom_84 rfl (lv_at hl 1 rfl) ?_
  refine va_get (D := D) (ci := 3) (v := .ref (A 23)) (C := R_Us) (T := T_Us) (N := 7) hx hb hts wu_Us hown hK hP 16 rfl rfl 6 (by decide) (hts _ wf_Us_31) (fun _ h9 => h9) rfl d_Us_takeFrom_85 ?_
  refine lv_iconst (v := 0) hx hb d_Us_takeFrom_88 (by decide) ?_
  refine lv_aload_n hx hb d_Us_takeFrom_89 rfl (lv_at hl 0 rfl) ?_
  refine va_get (D := D) (ci := 3) (v := .ref (A 46)) (C := R_Us) (T := T_Us) (N := 7) hx hb hts wu_Us hown hK hP 39 rfl rfl 6 (by decide) (hts _ wf_Us_31) (fun _ h9 => h9) rfl d_Us_takeFrom_90 ?_
  refine lv_iconst (v := 0) hx hb d_Us_takeFrom_93 (by decide) ?_
  refine lv_iconst (v := 4) hx hb d_Us_takeFrom_94 (by decide) ?_
  obtain ⟨u7, hu9, h⟩ := zo_l h
  refine va_copyi hx hb (hml.trans hl.1.symm) hown (hts _ wl_Us_34) (hts _ wv_copy) (hts _ ws_copy) (hts _ wi_System) hK hP hD hS 23 46 0 0 rfl rfl rfl rfl rfl (by decide) (by decide) (by decide) (by decide) (by decide) (fun _ _ => rfl) (Nat.le_of_ble_eq_true rfl) (by decide) d_Us_takeFrom_95 (fun H locs hP hD hS => ?_)
  replace hP : va_P D vwCl (GW A u7 r) H := by rw [hu9]; exact hP
  replace hD : va_D A9 (GW A u7 r) := by rw [hu9]; exact hD
  cases h
  exact W.vret hx hb hr (fun t ht hW => ⟨⟨(), rfl, trivial, ka_at ht hP⟩, hS.F ht⟩) hS.2.2 d_Us_takeFrom_98 hlk
def f_Us_takeFrom_16_39 (σ : KS) : Option (KS) := if ∀ i, i < (4 : Int32).toNatClampNeg → fits .boolean (.int (gK_uthere σ ((0 : Int32).toNatClampNeg + i))) = true then (zl (sN_uthere σ (va_cpy (gK_uthere σ) (gN_uthere σ) (0 : Int32).toNatClampNeg (0 : Int32).toNatClampNeg (4 : Int32).toNatClampNeg)) fun u1 => zl (sN_password u1 (va_cpy (gK_password u1) (gN_password u1) (0 : Int32).toNatClampNeg (0 : Int32).toNatClampNeg (4 : Int32).toNatClampNeg)) fun u2 => zl (sN_firstCategory u2 (va_cpy (gK_firstCategory u2) (gN_firstCategory u2) (0 : Int32).toNatClampNeg (0 : Int32).toNatClampNeg (4 : Int32).toNatClampNeg)) fun u3 => zl (sN_secondCategory u3 (va_cpy (gK_secondCategory u3) (gN_secondCategory u3) (0 : Int32).toNatClampNeg (0 : Int32).toNatClampNeg (4 : Int32).toNatClampNeg)) fun u4 => zl (sN_home u4 (va_cpy (gK_home u4) (gN_home u4) (0 : Int32).toNatClampNeg (0 : Int32).toNatClampNeg (4 : Int32).toNatClampNeg)) fun u5 => zl (sN_directory u5 (va_cpy (gK_directory u5) (gN_directory u5) (0 : Int32).toNatClampNeg (0 : Int32).toNatClampNeg (4 : Int32).toNatClampNeg)) fun u6 => zl (sN_gate u6 (va_cpy (gK_gate u6) (gN_gate u6) (0 : Int32).toNatClampNeg (0 : Int32).toNatClampNeg (4 : Int32).toNatClampNeg)) fun u7 => some u7) else none
set_option maxRecDepth 100000 in
set_option maxHeartbeats 4000000 in
theorem c_Us_takeFrom_16_39 (l : Launch) (hl9 : l.stackTraces = false) (D : va_G) (A : Nat → Nat) (r : va_W) (sz : Nat) (σ : KS) (z : KS) (h : f_Us_takeFrom_16_39 σ = some z) : Met l y_Us_takeFrom (Cond.code y_Us_takeFrom b_Us_takeFrom 2 none :: T0) ({ frames := 1, cells := 0, slots := 0, locals := 60 } : Room) (va_Pc [.ref (A 16), .ref (A 39)] (ka_Wd D A (GW A σ r) sz)) (ka_Rv D (GW A z r) (va_A (GW A σ r) sz)) 0 0 (va_A (GW A σ r) sz) := by
  unfold f_Us_takeFrom_16_39 at h
  refine ka_of (own := R_Us) (fun A9 => ka_Rv D (GW A z r) A9) (by decide) rfl (Nat.le_of_ble_eq_true rfl) ?_
  intro p e s m below meth c A9 ls S9 hr hlk hex X9 hP hD hl
  obtain ⟨hx, hb, hml, hown, hts⟩ := id S9
  have hK := X9.2.1
  have hS : va_S A9 s.heap s.heap [] := va_S.rf
  replace hl : lv_has ls 2 [(0, .ref (A 16)), (1, .ref (A 39))] := hl
  refine lv_aload_n hx hb d_Us_takeFrom_0 rfl (lv_at hl 1 rfl) ?_
  refine va_get (D := D) (ci := 3) (v := .ref (A 40)) (C := R_Us) (T := T_Us) (N := 7) hx hb hts wu_Us hown hK hP 39 rfl rfl 0 (by decide) (hts _ wf_Us_9) (fun _ h9 => h9) rfl d_Us_takeFrom_1 ?_
  refine lv_iconst (v := 0) hx hb d_Us_takeFrom_4 (by decide) ?_
  refine lv_aload_n hx hb d_Us_takeFrom_5 rfl (lv_at hl 0 rfl) ?_
  refine va_get (D := D) (ci := 3) (v := .ref (A 17)) (C := R_Us) (T := T_Us) (N := 7) hx hb hts wu_Us hown hK hP 16 rfl rfl 0 (by decide) (hts _ wf_Us_9) (fun _ h9 => h9) rfl d_Us_takeFrom_6 ?_
  refine lv_iconst (v := 0) hx hb d_Us_takeFrom_9 (by decide) ?_
  refine lv_iconst (v := 4) hx hb d_Us_takeFrom_10 (by decide) ?_
  obtain ⟨b9, h⟩ := zo_g h
  obtain ⟨u1, hu9, h⟩ := zo_l h
  refine va_copyi hx hb (hml.trans hl.1.symm) hown (hts _ wl_Us_34) (hts _ wv_copy) (hts _ ws_copy) (hts _ wi_System) hK hP hD hS 40 17 1 1 rfl rfl rfl rfl rfl (by decide) (by decide) (by decide) (by decide) (by decide) b9 (Nat.le_of_ble_eq_true rfl) (by decide) d_Us_takeFrom_11 (fun H locs hP hD hS => ?_)
  replace hP : va_P D vwCl (GW A u1 r) H := by rw [hu9]; exact hP
  replace hD : va_D A9 (GW A u1 r) := by rw [hu9]; exact hD
  refine lv_aload_n hx hb d_Us_takeFrom_14 rfl (lv_at hl 1 rfl) ?_
  refine va_get (D := D) (ci := 3) (v := .ref (A 41)) (C := R_Us) (T := T_Us) (N := 7) hx hb hts wu_Us hown hK hP 39 rfl rfl 1 (by decide) (hts _ wf_Us_15) (fun _ h9 => h9) rfl d_Us_takeFrom_15 ?_
  refine lv_iconst (v := 0) hx hb d_Us_takeFrom_18 (by decide) ?_
  refine lv_aload_n hx hb d_Us_takeFrom_19 rfl (lv_at hl 0 rfl) ?_
  refine va_get (D := D) (ci := 3) (v := .ref (A 18)) (C := R_Us) (T := T_Us) (N := 7) hx hb hts wu_Us hown hK hP 16 rfl rfl 1 (by decide) (hts _ wf_Us_15) (fun _ h9 => h9) rfl d_Us_takeFrom_20 ?_
  refine lv_iconst (v := 0) hx hb d_Us_takeFrom_23 (by decide) ?_
  refine lv_iconst (v := 4) hx hb d_Us_takeFrom_24 (by decide) ?_
  obtain ⟨u2, hu9, h⟩ := zo_l h
  refine va_copyi hx hb (hml.trans hl.1.symm) hown (hts _ wl_Us_34) (hts _ wv_copy) (hts _ ws_copy) (hts _ wi_System) hK hP hD hS 41 18 0 0 rfl rfl rfl rfl rfl (by decide) (by decide) (by decide) (by decide) (by decide) (fun _ _ => rfl) (Nat.le_of_ble_eq_true rfl) (by decide) d_Us_takeFrom_25 (fun H locs hP hD hS => ?_)
  replace hP : va_P D vwCl (GW A u2 r) H := by rw [hu9]; exact hP
  replace hD : va_D A9 (GW A u2 r) := by rw [hu9]; exact hD
  refine lv_aload_n hx hb d_Us_takeFrom_28 rfl (lv_at hl 1 rfl) ?_
  refine va_get (D := D) (ci := 3) (v := .ref (A 42)) (C := R_Us) (T := T_Us) (N := 7) hx hb hts wu_Us hown hK hP 39 rfl rfl 2 (by decide) (hts _ wf_Us_19) (fun _ h9 => h9) rfl d_Us_takeFrom_29 ?_
  refine lv_iconst (v := 0) hx hb d_Us_takeFrom_32 (by decide) ?_
  refine lv_aload_n hx hb d_Us_takeFrom_33 rfl (lv_at hl 0 rfl) ?_
  refine va_get (D := D) (ci := 3) (v := .ref (A 19)) (C := R_Us) (T := T_Us) (N := 7) hx hb hts wu_Us hown hK hP 16 rfl rfl 2 (by decide) (hts _ wf_Us_19) (fun _ h9 => h9) rfl d_Us_takeFrom_34 ?_
  refine lv_iconst (v := 0) hx hb d_Us_takeFrom_37 (by decide) ?_
  refine lv_iconst (v := 4) hx hb d_Us_takeFrom_38 (by decide) ?_
  obtain ⟨u3, hu9, h⟩ := zo_l h
  refine va_copyi hx hb (hml.trans hl.1.symm) hown (hts _ wl_Us_34) (hts _ wv_copy) (hts _ ws_copy) (hts _ wi_System) hK hP hD hS 42 19 0 0 rfl rfl rfl rfl rfl (by decide) (by decide) (by decide) (by decide) (by decide) (fun _ _ => rfl) (Nat.le_of_ble_eq_true rfl) (by decide) d_Us_takeFrom_39 (fun H locs hP hD hS => ?_)
  replace hP : va_P D vwCl (GW A u3 r) H := by rw [hu9]; exact hP
  replace hD : va_D A9 (GW A u3 r) := by rw [hu9]; exact hD
  refine lv_aload_n hx hb d_Us_takeFrom_42 rfl (lv_at hl 1 rfl) ?_
  refine va_get (D := D) (ci := 3) (v := .ref (A 43)) (C := R_Us) (T := T_Us) (N := 7) hx hb hts wu_Us hown hK hP 39 rfl rfl 3 (by decide) (hts _ wf_Us_22) (fun _ h9 => h9) rfl d_Us_takeFrom_43 ?_
  refine lv_iconst (v := 0) hx hb d_Us_takeFrom_46 (by decide) ?_
  refine lv_aload_n hx hb d_Us_takeFrom_47 rfl (lv_at hl 0 rfl) ?_
  refine va_get (D := D) (ci := 3) (v := .ref (A 20)) (C := R_Us) (T := T_Us) (N := 7) hx hb hts wu_Us hown hK hP 16 rfl rfl 3 (by decide) (hts _ wf_Us_22) (fun _ h9 => h9) rfl d_Us_takeFrom_48 ?_
  refine lv_iconst (v := 0) hx hb d_Us_takeFrom_51 (by decide) ?_
  refine lv_iconst (v := 4) hx hb d_Us_takeFrom_52 (by decide) ?_
  obtain ⟨u4, hu9, h⟩ := zo_l h
  refine va_copyi hx hb (hml.trans hl.1.symm) hown (hts _ wl_Us_34) (hts _ wv_copy) (hts _ ws_copy) (hts _ wi_System) hK hP hD hS 43 20 0 0 rfl rfl rfl rfl rfl (by decide) (by decide) (by decide) (by decide) (by decide) (fun _ _ => rfl) (Nat.le_of_ble_eq_true rfl) (by decide) d_Us_takeFrom_53 (fun H locs hP hD hS => ?_)
  replace hP : va_P D vwCl (GW A u4 r) H := by rw [hu9]; exact hP
  replace hD : va_D A9 (GW A u4 r) := by rw [hu9]; exact hD
  refine lv_aload_n hx hb d_Us_takeFrom_56 rfl (lv_at hl 1 rfl) ?_
  refine va_get (D := D) (ci := 3) (v := .ref (A 44)) (C := R_Us) (T := T_Us) (N := 7) hx hb hts wu_Us hown hK hP 39 rfl rfl 4 (by decide) (hts _ wf_Us_25) (fun _ h9 => h9) rfl d_Us_takeFrom_57 ?_
  refine lv_iconst (v := 0) hx hb d_Us_takeFrom_60 (by decide) ?_
  refine lv_aload_n hx hb d_Us_takeFrom_61 rfl (lv_at hl 0 rfl) ?_
  refine va_get (D := D) (ci := 3) (v := .ref (A 21)) (C := R_Us) (T := T_Us) (N := 7) hx hb hts wu_Us hown hK hP 16 rfl rfl 4 (by decide) (hts _ wf_Us_25) (fun _ h9 => h9) rfl d_Us_takeFrom_62 ?_
  refine lv_iconst (v := 0) hx hb d_Us_takeFrom_65 (by decide) ?_
  refine lv_iconst (v := 4) hx hb d_Us_takeFrom_66 (by decide) ?_
  obtain ⟨u5, hu9, h⟩ := zo_l h
  refine va_copyi hx hb (hml.trans hl.1.symm) hown (hts _ wl_Us_34) (hts _ wv_copy) (hts _ ws_copy) (hts _ wi_System) hK hP hD hS 44 21 0 0 rfl rfl rfl rfl rfl (by decide) (by decide) (by decide) (by decide) (by decide) (fun _ _ => rfl) (Nat.le_of_ble_eq_true rfl) (by decide) d_Us_takeFrom_67 (fun H locs hP hD hS => ?_)
  replace hP : va_P D vwCl (GW A u5 r) H := by rw [hu9]; exact hP
  replace hD : va_D A9 (GW A u5 r) := by rw [hu9]; exact hD
  refine lv_aload_n hx hb d_Us_takeFrom_70 rfl (lv_at hl 1 rfl) ?_
  refine va_get (D := D) (ci := 3) (v := .ref (A 45)) (C := R_Us) (T := T_Us) (N := 7) hx hb hts wu_Us hown hK hP 39 rfl rfl 5 (by decide) (hts _ wf_Us_28) (fun _ h9 => h9) rfl d_Us_takeFrom_71 ?_
  refine lv_iconst (v := 0) hx hb d_Us_takeFrom_74 (by decide) ?_
  refine lv_aload_n hx hb d_Us_takeFrom_75 rfl (lv_at hl 0 rfl) ?_
  refine va_get (D := D) (ci := 3) (v := .ref (A 22)) (C := R_Us) (T := T_Us) (N := 7) hx hb hts wu_Us hown hK hP 16 rfl rfl 5 (by decide) (hts _ wf_Us_28) (fun _ h9 => h9) rfl d_Us_takeFrom_76 ?_
  refine lv_iconst (v := 0) hx hb d_Us_takeFrom_79 (by decide) ?_
  refine lv_iconst (v := 4) hx hb d_Us_takeFrom_80 (by decide) ?_
  obtain ⟨u6, hu9, h⟩ := zo_l h
  refine va_copyi hx hb (hml.trans hl.1.symm) hown (hts _ wl_Us_34) (hts _ wv_copy) (hts _ ws_copy) (hts _ wi_System) hK hP hD hS 45 22 0 0 rfl rfl rfl rfl rfl (by decide) (by decide) (by decide) (by decide) (by decide) (fun _ _ => rfl) (Nat.le_of_ble_eq_true rfl) (by decide) d_Us_takeFrom_81 (fun H locs hP hD hS => ?_)
  replace hP : va_P D vwCl (GW A u6 r) H := by rw [hu9]; exact hP
  replace hD : va_D A9 (GW A u6 r) := by rw [hu9]; exact hD
  refine lv_aload_n hx hb d_Us_takeFrom_84 rfl (lv_at hl 1 rfl) ?_
  refine va_get (D := D) (ci := 3) (v := .ref (A 46)) (C := R_Us) (T := T_Us) (N := 7) hx hb hts wu_Us hown hK hP 39 rfl rfl 6 (by decide) (hts _ wf_Us_31) (fun _ h9 => h9) rfl d_Us_takeFrom_85 ?_
  refine lv_iconst (v := 0) hx hb d_Us_takeFrom_88 (by decide) ?_
  refine lv_aload_n hx hb d_Us_takeFrom_89 rfl (lv_at hl 0 rfl) ?_
  refine va_get (D := D) (ci := 3) (v := .ref (A 23)) (C := R_Us) (T := T_Us) (N := 7) hx hb hts wu_Us hown hK hP 16 rfl rfl 6 (by decide) (hts _ wf_Us_31) (fun _ h9 => h9) rfl d_Us_takeFrom_90 ?_
  refine lv_iconst (v := 0) hx hb d_Us_takeFrom_93 (by decide) ?_
  refine lv_iconst (v := 4) hx hb d_Us_takeFrom_94 (by decide) ?_
  obtain ⟨u7, hu9, h⟩ := zo_l h
  refine va_copyi hx hb (hml.trans hl.1.symm) hown (hts _ wl_Us_34) (hts _ wv_copy) (hts _ ws_copy) (hts _ wi_System) hK hP hD hS 46 23 0 0 rfl rfl rfl rfl rfl (by decide) (by decide) (by decide) (by decide) (by decide) (fun _ _ => rfl) (Nat.le_of_ble_eq_true rfl) (by decide) d_Us_takeFrom_95 (fun H locs hP hD hS => ?_)
  replace hP : va_P D vwCl (GW A u7 r) H := by rw [hu9]; exact hP
  replace hD : va_D A9 (GW A u7 r) := by rw [hu9]; exact hD
  cases h
  exact W.vret hx hb hr (fun t ht hW => ⟨⟨(), rfl, trivial, ka_at ht hP⟩, hS.F ht⟩) hS.2.2 d_Us_takeFrom_98 hlk
def f_Us_howMany_L4 (σ : KS) : Nat → Int32 → Int32 → Option (Int32)
  | 0, _, _ => none
  | n + 1, y1, y2 => if 4 ≤ y2 then (some y1) else (if y2 < 0 ∨ 4 ≤ (y2).toNatClampNeg then none else if (gN_uthere σ (y2).toNatClampNeg) = 0 then (f_Us_howMany_L4 σ n y1 (y2 + 1)) else (f_Us_howMany_L4 σ n (y1 + 1) (y2 + 1)))
def f_Us_howMany (σ : KS) : Option (Int32) := f_Us_howMany_L4 σ 100 0 0
set_option maxRecDepth 100000 in
set_option maxHeartbeats 4000000 in
theorem c_Us_howMany (l : Launch) (hl9 : l.stackTraces = false) (D : va_G) (A : Nat → Nat) (r : va_W) (sz : Nat) (σ : KS) (z : Int32) (h : f_Us_howMany σ = some z) : Met l y_Us_howMany (Cond.code y_Us_howMany b_Us_howMany 3 (some .int) :: T0) ({ frames := 0, cells := 0, slots := 0, locals := 0 } : Room) (va_Pc [.ref (A 16)] (ka_Wd D A (GW A σ r) sz)) (ka_Ri D z (GW A σ r) (va_A (GW A σ r) sz)) 0 0 (va_A (GW A σ r) sz) := by
  unfold f_Us_howMany at h
  refine ka_of (own := R_Us) (fun A9 => ka_Ri D z (GW A σ r) A9) (by decide) rfl (Nat.le_of_ble_eq_true rfl) ?_
  intro p e s m below meth c A9 ls S9 hr hlk hex X9 hP hD hl
  obtain ⟨hx, hb, hml, hown, hts⟩ := id S9
  have hK := X9.2.1
  have hS : va_S A9 s.heap s.heap [] := va_S.rf
  replace hl : lv_has ls 3 [(0, .ref (A 16))] := hl
  have L4 : ∀ (n : Nat) (y1 y2 : Int32) (H : Heap) (locs : List Loc) (ls : Array Slot), f_Us_howMany_L4 σ n y1 y2 = some z → va_P D vwCl (GW A σ r) H → va_D A9 (GW A σ r) → va_S A9 s.heap H locs → lv_has ls 3 [(0, .ref (A 16)), (1, .int y1), (2, .int y2)] → W p l e ({ frames := 0, cells := 0, slots := 0, locals := 0 } : Room) s m [.ref (A 16)].toArray below meth c H locs 0 0 (MQ below (ka_Ri D z (GW A σ r) A9) [.ref (A 16)].toArray s 0 0 A9) (F0 m 4 ls []) := by
    intro n
    induction n with
    | zero => intro y1 y2 H locs ls h; cases h
    | succ n ih4 =>
      intro y1 y2 H locs ls h hP hD hS hl
      rw [f_Us_howMany_L4] at h
      refine lv_iload_n hx hb d_Us_howMany_4 rfl (lv_at hl 2 rfl) ?_
      refine lv_iconst (v := 4) hx hb d_Us_howMany_5 (by decide) ?_
      refine lv_icmp_ge (tgt := 27) hx hb d_Us_howMany_6 (by decide) (fun c1 => ?_) (fun c1 => ?_)
      · replace h := zo_t c1 h
        refine lv_iload_n hx hb d_Us_howMany_27 rfl (lv_at hl 1 rfl) ?_
        cases h
        exact W.iret hx hb hr (fun t ht hW => ⟨⟨_, (), rfl, rfl, ka_at ht hP⟩, hS.F ht⟩) hS.2.2 d_Us_howMany_28 hlk
      replace h := zo_f c1 h
      refine lv_aload_n hx hb d_Us_howMany_9 rfl (lv_at hl 0 rfl) ?_
      refine va_get (D := D) (ci := 3) (v := .ref (A 17)) (C := R_Us) (T := T_Us) (N := 7) hx hb hts wu_Us hown hK hP 16 rfl rfl 0 (by decide) (hts _ wf_Us_9) (fun _ h9 => h9) rfl d_Us_howMany_10 ?_
      refine lv_iload_n hx hb d_Us_howMany_13 rfl (lv_at hl 2 rfl) ?_
      obtain ⟨i9, h⟩ := zo_i h
      refine va_zald hx hb hK hP 17 1 rfl rfl i9 d_Us_howMany_14 ?_
      refine lv_if_eq (tgt := 21) hx hb d_Us_howMany_15 (by decide) (fun c2 => ?_) (fun c2 => ?_)
      · replace h := zo_t c2 h
        refine lv_iinc (v := y2 + 1) (lv' := [(2, .int (y2 + 1)), (0, .ref (A 16)), (1, .int y1)]) hx hb d_Us_howMany_21 hl (k := 2) rfl rfl (by decide) rfl (fun ls hl => ?_)
        refine lv_goto (tgt := 4) hx hb d_Us_howMany_24 (by decide) ?_
        exact ih4 y1 (y2 + 1) _ _ _ h hP hD hS (lv_sub hl [1, 2, 0] rfl)
      replace h := zo_f c2 h
      refine lv_iinc (v := y1 + 1) (lv' := [(1, .int (y1 + 1)), (0, .ref (A 16)), (2, .int y2)]) hx hb d_Us_howMany_18 hl (k := 1) rfl rfl (by decide) rfl (fun ls hl => ?_)
      refine lv_iinc (v := y2 + 1) (lv' := [(2, .int (y2 + 1)), (1, .int (y1 + 1)), (0, .ref (A 16))]) hx hb d_Us_howMany_21 hl (k := 2) rfl rfl (by decide) rfl (fun ls hl => ?_)
      refine lv_goto (tgt := 4) hx hb d_Us_howMany_24 (by decide) ?_
      exact ih4 (y1 + 1) (y2 + 1) _ _ _ h hP hD hS (lv_sub hl [2, 1, 0] rfl)
  refine lv_iconst (v := 0) hx hb d_Us_howMany_0 (by decide) ?_
  refine lv_istore_n (lv' := [(1, .int 0), (0, .ref (A 16))]) hx hb d_Us_howMany_1 rfl hl (by decide) rfl (fun ls hl => ?_)
  refine lv_iconst (v := 0) hx hb d_Us_howMany_2 (by decide) ?_
  refine lv_istore_n (lv' := [(2, .int 0), (1, .int 0), (0, .ref (A 16))]) hx hb d_Us_howMany_3 rfl hl (by decide) rfl (fun ls hl => ?_)
  exact L4 100 0 0 _ _ _ h hP hD hS (lv_sub hl [2, 1, 0] rfl)
