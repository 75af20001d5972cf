def TL (A : Nat → Nat) (σ : KS) : va_W := [(A 4, .inr (2, [.ref (A 5), .ref (A 6), .ref (A 7), .ref (A 8), .ref (A 9), .ref (A 10), .ref (A 11), .ref (A 12), .ref (A 13), .ref (A 14), .ref (A 15), .int (gN_made σ)])),
  (A 5, .inl (A 901, 61, .inl (gN_there σ))),
  (A 6, .inl (A 900, 61, .inl (gN_kind σ))),
  (A 7, .inl (A 900, 61, .inl (gN_label σ))),
  (A 8, .inl (A 900, 61, .inl (gN_quota σ))),
  (A 9, .inl (A 900, 61, .inl (gN_place σ))),
  (A 10, .inl (A 900, 61, .inl (gN_depth σ))),
  (A 11, .inl (A 900, 61, .inl (gN_clearance σ))),
  (A 12, .inl (A 900, 61, .inl (gN_guard σ))),
  (A 13, .inl (A 900, 61, .inl (gN_entry σ))),
  (A 14, .inl (A 900, 61, .inl (gN_cellCount σ))),
  (A 15, .inl (A 900, 488, .inl (gN_cells σ)))]
def TW (A : Nat → Nat) (σ : KS) (r : va_W) : va_W := TL A σ ++ r
def SL (A : Nat → Nat) (σ : KS) : va_W := [(A 1, .inr (1, [.ref (A 2), .ref (A 4), .ref (A 16), .int (gN_categories σ)])),
  (A 2, .inr (0, [.ref (A 3), .int (gN_size σ)])),
  (A 3, .inl (A 900, 60, .inl (gN_packed σ))),
  (A 4, .inr (2, [.ref (A 5), .ref (A 6), .ref (A 7), .ref (A 8), .ref (A 9), .ref (A 10), .ref (A 11), .ref (A 12), .ref (A 13), .ref (A 14), .ref (A 15), .int (gN_made σ)])),
  (A 5, .inl (A 901, 61, .inl (gN_there σ))),
  (A 6, .inl (A 900, 61, .inl (gN_kind σ))),
  (A 7, .inl (A 900, 61, .inl (gN_label σ))),
  (A 8, .inl (A 900, 61, .inl (gN_quota σ))),
  (A 9, .inl (A 900, 61, .inl (gN_place σ))),
  (A 10, .inl (A 900, 61, .inl (gN_depth σ))),
  (A 11, .inl (A 900, 61, .inl (gN_clearance σ))),
  (A 12, .inl (A 900, 61, .inl (gN_guard σ))),
  (A 13, .inl (A 900, 61, .inl (gN_entry σ))),
  (A 14, .inl (A 900, 61, .inl (gN_cellCount σ))),
  (A 15, .inl (A 900, 488, .inl (gN_cells σ))),
  (A 16, .inr (3, [.ref (A 17), .ref (A 18), .ref (A 19), .ref (A 20), .ref (A 21), .ref (A 22), .ref (A 23)])),
  (A 17, .inl (A 901, 4, .inl (gN_uthere σ))),
  (A 18, .inl (A 900, 4, .inl (gN_password σ))),
  (A 19, .inl (A 900, 4, .inl (gN_firstCategory σ))),
  (A 20, .inl (A 900, 4, .inl (gN_secondCategory σ))),
  (A 21, .inl (A 900, 4, .inl (gN_home σ))),
  (A 22, .inl (A 900, 4, .inl (gN_directory σ))),
  (A 23, .inl (A 900, 4, .inl (gN_gate σ)))]
def k0 : SS := ((fun _ => 0), 0, (fun _ => 0), (fun _ => 0), (fun _ => 0), (fun _ => 0), (fun _ => 0), (fun _ => 0), (fun _ => 0), (fun _ => 0), (fun _ => 0), (fun _ => 0), (fun _ => 0), 0, (fun _ => 0), (fun _ => 0), (fun _ => 0), (fun _ => 0), (fun _ => 0), (fun _ => 0), (fun _ => 0), 0)
set_option maxRecDepth 100000 in
set_option maxHeartbeats 4000000 in
theorem c_Tg_add_t (l : Launch) (hl9 : l.stackTraces = false) (D : va_G) (A : Nat → Nat) (r : va_W) (sz : Nat) (σ : KS) (x1 x2 x3 x4 : Int32) (z : Int32 × KS) (h : f_Tg_add σ x1 x2 x3 x4 = some z) : Met l y_Tg_add (Cond.code y_Tg_add b_Tg_add 6 (some .int) :: T0) ({ frames := 0, cells := 0, slots := 0, locals := 0 } : Room) (va_Pc [.ref (A 4), .int x1, .int x2, .int x3, .int x4] (ka_Wd D A (TW A σ r) sz)) (ka_Ri D z.1 (TW A z.2 r) (va_A (TW A σ r) sz)) 0 0 (va_A (TW A σ r) sz) := by
  unfold f_Tg_add at h
  refine ka_of (own := R_Tg) (fun A9 => ka_Ri D z.1 (TW A z.2 r) A9) (by decide) rfl (Nat.le_of_ble_eq_true rfl) ?_
  intro p e s m below meth c A9 ls S9 hr hlk hex X9 hP hD hl
  obtain ⟨hx, hb, hml, hown, hts⟩ := id S9
  have hK := X9.2.1
  have hS : va_S A9 s.heap s.heap [] := va_S.rf
  replace hl : lv_has ls 6 [(0, .ref (A 4)), (1, .int x1), (2, .int x2), (3, .int x3), (4, .int x4)] := hl
  refine lv_aload_n hx hb d_Tg_add_0 rfl (lv_at hl 0 rfl) ?_
  refine va_get (D := D) (ci := 2) (v := .int (gN_made σ)) (C := R_Tg) (T := T_Tg) (N := 12) hx hb hts wu_Tg hown hK hP 0 rfl rfl 11 (by decide) (hts _ wf_Tg_46) (fun _ h9 => h9) rfl d_Tg_add_1 ?_
  refine lv_iconst (v := 1) hx hb d_Tg_add_4 (by decide) ?_
  refine lv_iadd hx hb d_Tg_add_5 ?_
  refine lv_istore (lv' := [(5, .int ((gN_made σ) + 1)), (0, .ref (A 4)), (1, .int x1), (2, .int x2), (3, .int x3), (4, .int x4)]) hx hb d_Tg_add_6 hl (by decide) rfl (fun ls hl => ?_)
  refine lv_aload_n hx hb d_Tg_add_8 rfl (lv_at hl 1 rfl) ?_
  refine va_get (D := D) (ci := 2) (v := .ref (A 5)) (C := R_Tg) (T := T_Tg) (N := 12) hx hb hts wu_Tg hown hK hP 0 rfl rfl 0 (by decide) (hts _ wf_Tg_9) (fun _ h9 => h9) rfl d_Tg_add_9 ?_
  refine lv_iload hx hb d_Tg_add_12 (lv_at hl 0 rfl) ?_
  refine lv_iconst (v := 1) hx hb d_Tg_add_14 (by decide) ?_
  obtain ⟨i9, h⟩ := zo_i h
  obtain ⟨u1, hu9, h⟩ := zo_l h
  refine va_zast hx hb hK hP hD hS 1 1 rfl rfl i9 d_Tg_add_15 (fun H locs hP hD hS => ?_)
  replace hP : va_P D vwCl (TW A u1 r) H := by rw [hu9]; exact hP
  replace hD : va_D A9 (TW A u1 r) := by rw [hu9]; exact hD
  refine lv_aload_n hx hb d_Tg_add_16 rfl (lv_at hl 1 rfl) ?_
  refine va_get (D := D) (ci := 2) (v := .ref (A 6)) (C := R_Tg) (T := T_Tg) (N := 12) hx hb hts wu_Tg hown hK hP 0 rfl rfl 1 (by decide) (hts _ wf_Tg_15) (fun _ h9 => h9) rfl d_Tg_add_17 ?_
  refine lv_iload hx hb d_Tg_add_20 (lv_at hl 0 rfl) ?_
  refine lv_iload_n hx hb d_Tg_add_22 rfl (lv_at hl 2 rfl) ?_
  obtain ⟨i9, h⟩ := zo_i h
  obtain ⟨u2, hu9, h⟩ := zo_l h
  refine va_iast hx hb hK hP hD hS 2 0 rfl rfl i9 d_Tg_add_23 (fun H locs hP hD hS => ?_)
  replace hP : va_P D vwCl (TW A u2 r) H := by rw [hu9]; exact hP
  replace hD : va_D A9 (TW A u2 r) := by rw [hu9]; exact hD
  refine lv_aload_n hx hb d_Tg_add_24 rfl (lv_at hl 1 rfl) ?_
  refine va_get (D := D) (ci := 2) (v := .ref (A 7)) (C := R_Tg) (T := T_Tg) (N := 12) hx hb hts wu_Tg hown hK hP 0 rfl rfl 2 (by decide) (hts _ wf_Tg_19) (fun _ h9 => h9) rfl d_Tg_add_25 ?_
  refine lv_iload hx hb d_Tg_add_28 (lv_at hl 0 rfl) ?_
  refine lv_iload_n hx hb d_Tg_add_30 rfl (lv_at hl 4 rfl) ?_
  obtain ⟨i9, h⟩ := zo_i h
  obtain ⟨u3, hu9, h⟩ := zo_l h
  refine va_iast hx hb hK hP hD hS 3 0 rfl rfl i9 d_Tg_add_31 (fun H locs hP hD hS => ?_)
  replace hP : va_P D vwCl (TW A u3 r) H := by rw [hu9]; exact hP
  replace hD : va_D A9 (TW A u3 r) := by rw [hu9]; exact hD
  refine lv_aload_n hx hb d_Tg_add_32 rfl (lv_at hl 1 rfl) ?_
  refine va_get (D := D) (ci := 2) (v := .ref (A 8)) (C := R_Tg) (T := T_Tg) (N := 12) hx hb hts wu_Tg hown hK hP 0 rfl rfl 3 (by decide) (hts _ wf_Tg_22) (fun _ h9 => h9) rfl d_Tg_add_33 ?_
  refine lv_iload hx hb d_Tg_add_36 (lv_at hl 0 rfl) ?_
  refine lv_iload hx hb d_Tg_add_38 (lv_at hl 5 rfl) ?_
  obtain ⟨i9, h⟩ := zo_i h
  obtain ⟨u4, hu9, h⟩ := zo_l h
  refine va_iast hx hb hK hP hD hS 4 0 rfl rfl i9 d_Tg_add_40 (fun H locs hP hD hS => ?_)
  replace hP : va_P D vwCl (TW A u4 r) H := by rw [hu9]; exact hP
  replace hD : va_D A9 (TW A u4 r) := by rw [hu9]; exact hD
  refine lv_aload_n hx hb d_Tg_add_41 rfl (lv_at hl 1 rfl) ?_
  refine va_get (D := D) (ci := 2) (v := .ref (A 9)) (C := R_Tg) (T := T_Tg) (N := 12) hx hb hts wu_Tg hown hK hP 0 rfl rfl 4 (by decide) (hts _ wf_Tg_25) (fun _ h9 => h9) rfl d_Tg_add_42 ?_
  refine lv_iload hx hb d_Tg_add_45 (lv_at hl 0 rfl) ?_
  refine lv_iload_n hx hb d_Tg_add_47 rfl (lv_at hl 3 rfl) ?_
  obtain ⟨i9, h⟩ := zo_i h
  obtain ⟨u5, hu9, h⟩ := zo_l h
  refine va_iast hx hb hK hP hD hS 5 0 rfl rfl i9 d_Tg_add_48 (fun H locs hP hD hS => ?_)
  replace hP : va_P D vwCl (TW A u5 r) H := by rw [hu9]; exact hP
  replace hD : va_D A9 (TW A u5 r) := by rw [hu9]; exact hD
  refine lv_aload_n hx hb d_Tg_add_49 rfl (lv_at hl 1 rfl) ?_
  refine va_get (D := D) (ci := 2) (v := .ref (A 10)) (C := R_Tg) (T := T_Tg) (N := 12) hx hb hts wu_Tg hown hK hP 0 rfl rfl 5 (by decide) (hts _ wf_Tg_28) (fun _ h9 => h9) rfl d_Tg_add_50 ?_
  refine lv_iload hx hb d_Tg_add_53 (lv_at hl 0 rfl) ?_
  refine lv_iload_n hx hb d_Tg_add_55 rfl (lv_at hl 3 rfl) ?_
  refine lv_if_ne (tgt := 63) hx hb d_Tg_add_56 (by decide) (fun c6 => ?_) (fun c6 => ?_)
  · replace h := zo_f c6 h
    refine lv_aload_n hx hb d_Tg_add_63 rfl (lv_at hl 1 rfl) ?_
    refine va_get (D := D) (ci := 2) (v := .ref (A 10)) (C := R_Tg) (T := T_Tg) (N := 12) hx hb hts wu_Tg hown hK hP 0 rfl rfl 5 (by decide) (hts _ wf_Tg_28) (fun _ h9 => h9) rfl d_Tg_add_64 ?_
    refine lv_iload_n hx hb d_Tg_add_67 rfl (lv_at hl 3 rfl) ?_
    obtain ⟨i9, h⟩ := zo_i h
    refine va_iald hx hb hK hP 6 0 rfl rfl i9 d_Tg_add_68 ?_
    refine lv_iconst (v := 1) hx hb d_Tg_add_69 (by decide) ?_
    refine lv_iadd hx hb d_Tg_add_70 ?_
    obtain ⟨i9, h⟩ := zo_i h
    obtain ⟨u7, hu9, h⟩ := zo_l h
    refine va_iast hx hb hK hP hD hS 6 0 rfl rfl i9 d_Tg_add_71 (fun H locs hP hD hS => ?_)
    replace hP : va_P D vwCl (TW A u7 r) H := by rw [hu9]; exact hP
    replace hD : va_D A9 (TW A u7 r) := by rw [hu9]; exact hD
    refine lv_aload_n hx hb d_Tg_add_72 rfl (lv_at hl 1 rfl) ?_
    refine va_get (D := D) (ci := 2) (v := .ref (A 11)) (C := R_Tg) (T := T_Tg) (N := 12) hx hb hts wu_Tg hown hK hP 0 rfl rfl 6 (by decide) (hts _ wf_Tg_31) (fun _ h9 => h9) rfl d_Tg_add_73 ?_
    refine lv_iload hx hb d_Tg_add_76 (lv_at hl 0 rfl) ?_
    refine lv_iconst (v := (-1)) hx hb d_Tg_add_78 (by decide) ?_
    obtain ⟨i9, h⟩ := zo_i h
    obtain ⟨u8, hu9, h⟩ := zo_l h
    refine va_iast hx hb hK hP hD hS 7 0 rfl rfl i9 d_Tg_add_79 (fun H locs hP hD hS => ?_)
    replace hP : va_P D vwCl (TW A u8 r) H := by rw [hu9]; exact hP
    replace hD : va_D A9 (TW A u8 r) := by rw [hu9]; exact hD
    refine lv_aload_n hx hb d_Tg_add_80 rfl (lv_at hl 1 rfl) ?_
    refine lv_iload hx hb d_Tg_add_81 (lv_at hl 0 rfl) ?_
    obtain ⟨u9, hu9, h⟩ := zo_l h
    refine va_put (D := D) (ci := 2) (v := .int ((gN_made σ) + 1)) (ty := .int) (C := R_Tg) (T := T_Tg) (N := 12) hx hb hts wu_Tg ft_Tg fk_Tg nm_Tg hown hK hP hD hS 0 rfl rfl 11 (by decide) (hts _ wf_Tg_46) (fun _ h9 => h9) rfl (by decide +kernel) rfl rfl (Nat.le_of_ble_eq_true rfl) d_Tg_add_83 (fun H locs hP hD hS => ?_)
    replace hP : va_P D vwCl (TW A u9 r) H := by rw [hu9]; exact hP
    replace hD : va_D A9 (TW A u9 r) := by rw [hu9]; exact hD
    refine lv_iload hx hb d_Tg_add_86 (lv_at hl 0 rfl) ?_
    cases h
    exact W.iret hx hb hr (fun t ht hW => ⟨⟨_, (), rfl, rfl, ka_at ht hP⟩, hS.F ht⟩) hS.2.2 d_Tg_add_88 hlk
  replace h := zo_t c6 h
  refine lv_iconst (v := 0) hx hb d_Tg_add_59 (by decide) ?_
  refine lv_goto (tgt := 71) hx hb d_Tg_add_60 (by decide) ?_
  obtain ⟨i9, h⟩ := zo_i h
  obtain ⟨u10, hu9, h⟩ := zo_l h
  refine va_iast hx hb hK hP hD hS 6 0 rfl rfl i9 d_Tg_add_71 (fun H locs hP hD hS => ?_)
  replace hP : va_P D vwCl (TW A u10 r) H := by rw [hu9]; exact hP
  replace hD : va_D A9 (TW A u10 r) := by rw [hu9]; exact hD
  refine lv_aload_n hx hb d_Tg_add_72 rfl (lv_at hl 1 rfl) ?_
  refine va_get (D := D) (ci := 2) (v := .ref (A 11)) (C := R_Tg) (T := T_Tg) (N := 12) hx hb hts wu_Tg hown hK hP 0 rfl rfl 6 (by decide) (hts _ wf_Tg_31) (fun _ h9 => h9) rfl d_Tg_add_73 ?_
  refine lv_iload hx hb d_Tg_add_76 (lv_at hl 0 rfl) ?_
  refine lv_iconst (v := (-1)) hx hb d_Tg_add_78 (by decide) ?_
  obtain ⟨i9, h⟩ := zo_i h
  obtain ⟨u11, hu9, h⟩ := zo_l h
  refine va_iast hx hb hK hP hD hS 7 0 rfl rfl i9 d_Tg_add_79 (fun H locs hP hD hS => ?_)
  replace hP : va_P D vwCl (TW A u11 r) H := by rw [hu9]; exact hP
  replace hD : va_D A9 (TW A u11 r) := by rw [hu9]; exact hD
  refine lv_aload_n hx hb d_Tg_add_80 rfl (lv_at hl 1 rfl) ?_
  refine lv_iload hx hb d_Tg_add_81 (lv_at hl 0 rfl) ?_
  obtain ⟨u12, hu9, h⟩ := zo_l h
  refine va_put (D := D) (ci := 2) (v := .int ((gN_made σ) + 1)) (ty := .int) (C := R_Tg) (T := T_Tg) (N := 12) hx hb hts wu_Tg ft_Tg fk_Tg nm_Tg hown hK hP hD hS 0 rfl rfl 11 (by decide) (hts _ wf_Tg_46) (fun _ h9 => h9) rfl (by decide +kernel) rfl rfl (Nat.le_of_ble_eq_true rfl) d_Tg_add_83 (fun H locs hP hD hS => ?_)
  replace hP : va_P D vwCl (TW A u12 r) H := by rw [hu9]; exact hP
  replace hD : va_D A9 (TW A u12 r) := by rw [hu9]; exact hD
  refine lv_iload hx hb d_Tg_add_86 (lv_at hl 0 rfl) ?_
  cases h
  exact W.iret hx hb hr (fun t ht hW => ⟨⟨_, (), rfl, rfl, ka_at ht hP⟩, hS.F ht⟩) hS.2.2 d_Tg_add_88 hlk
set_option maxRecDepth 100000 in
set_option maxHeartbeats 4000000 in
theorem c_Tg_setClearance_t (l : Launch) (hl9 : l.stackTraces = false) (D : va_G) (A : Nat → Nat) (r : va_W) (sz : Nat) (σ : KS) (x1 x2 : Int32) (z : KS) (h : f_Tg_setClearance σ x1 x2 = some z) : Met l y_Tg_setClearance (Cond.code y_Tg_setClearance b_Tg_setClearance 3 none :: T0) ({ frames := 0, cells := 0, slots := 0, locals := 0 } : Room) (va_Pc [.ref (A 4), .int x1, .int x2] (ka_Wd D A (TW A σ r) sz)) (ka_Rv D (TW A z r) (va_A (TW A σ r) sz)) 0 0 (va_A (TW A σ r) sz) := by
  unfold f_Tg_setClearance at h
  refine ka_of (own := R_Tg) (fun A9 => ka_Rv D (TW A z r) A9) (by decide) rfl (Nat.le_of_ble_eq_true rfl) ?_
  intro p e s m below meth c A9 ls S9 hr hlk hex X9 hP hD hl
  obtain ⟨hx, hb, hml, hown, hts⟩ := id S9
  have hK := X9.2.1
  have hS : va_S A9 s.heap s.heap [] := va_S.rf
  replace hl : lv_has ls 3 [(0, .ref (A 4)), (1, .int x1), (2, .int x2)] := hl
  refine lv_aload_n hx hb d_Tg_setClearance_0 rfl (lv_at hl 0 rfl) ?_
  refine va_get (D := D) (ci := 2) (v := .ref (A 11)) (C := R_Tg) (T := T_Tg) (N := 12) hx hb hts wu_Tg hown hK hP 0 rfl rfl 6 (by decide) (hts _ wf_Tg_31) (fun _ h9 => h9) rfl d_Tg_setClearance_1 ?_
  refine lv_iload_n hx hb d_Tg_setClearance_4 rfl (lv_at hl 1 rfl) ?_
  refine lv_iload_n hx hb d_Tg_setClearance_5 rfl (lv_at hl 2 rfl) ?_
  obtain ⟨i9, h⟩ := zo_i h
  obtain ⟨u1, hu9, h⟩ := zo_l h
  refine va_iast hx hb hK hP hD hS 7 0 rfl rfl i9 d_Tg_setClearance_6 (fun H locs hP hD hS => ?_)
  replace hP : va_P D vwCl (TW A u1 r) H := by rw [hu9]; exact hP
  replace hD : va_D A9 (TW A u1 r) := by rw [hu9]; exact hD
  cases h
  exact W.vret hx hb hr (fun t ht hW => ⟨⟨(), rfl, trivial, ka_at ht hP⟩, hS.F ht⟩) hS.2.2 d_Tg_setClearance_7 hlk
theorem ka_caI {D : va_G} {A : Nat → Nat} {cA : ClassId} {s : State} (h : va_K D vwCl (ka_ty A ++ [(cA, .int)]) s) : cA = A 900 := by
  have h1 : s.vm.findClass ("[" ++ FieldType.int.toString) = some (A 900) := (h.2 0 (A 900, .int) rfl).2
  have h2 : s.vm.findClass ("[" ++ FieldType.int.toString) = some cA := (h.2 3 (cA, .int) rfl).2
  exact Option.some.inj (h2.symm.trans h1)
theorem ka_caZ {D : va_G} {A : Nat → Nat} {cA : ClassId} {s : State} (h : va_K D vwCl (ka_ty A ++ [(cA, .boolean)]) s) : cA = A 901 := by
  have h1 : s.vm.findClass ("[" ++ FieldType.boolean.toString) = some (A 901) := (h.2 1 (A 901, .boolean) rfl).2
  have h2 : s.vm.findClass ("[" ++ FieldType.boolean.toString) = some cA := (h.2 3 (cA, .boolean) rfl).2
  exact Option.some.inj (h2.symm.trans h1)
theorem ka_caJ {D : va_G} {A : Nat → Nat} {cA : ClassId} {s : State} (h : va_K D vwCl (ka_ty A ++ [(cA, .long)]) s) : cA = A 902 := by
  have h1 : s.vm.findClass ("[" ++ FieldType.long.toString) = some (A 902) := (h.2 2 (A 902, .long) rfl).2
  have h2 : s.vm.findClass ("[" ++ FieldType.long.toString) = some cA := (h.2 3 (cA, .long) rfl).2
  exact Option.some.inj (h2.symm.trans h1)
/-- the private constructors' links -/
def ka_M (U : State) : Prop := va_Nw (.methodLinkNest R_Ke 9 y_Sn_init R_Ke) U ∧ va_Nw (.methodLinkNest R_Sn 25 y_Us_init R_Ke) U
theorem ka_M.moved {s U : State} (hW : s.WarmedH U.vm) (h : ka_M s) : ka_M U := ⟨va_Nw.warmM hW h.1, va_Nw.warmM hW h.2⟩
theorem ka_M.same {s U : State} (h9 : s.vm = U.vm) (h : ka_M s) : ka_M U := ⟨va_Nw.same rfl h9 h.1, va_Nw.same rfl h9 h.2⟩
def i_packed : Nat → Int32 := (upd (upd (fun _ => 0) (0 : Int32).toNatClampNeg 286331153) (1 : Int32).toNatClampNeg 572662306)
abbrev kb_Lb (D : va_G) (A : Nat → Nat) (h0 : Nat) (A9 : Nat → Prop) : Array Value → State → Outcome → State → Prop := va_Qv (fun _ : Nat => True) (fun q t => va_P D vwCl [(h0, .inr (0, [.ref q, .int 2])), (q, .inl (A 900, 60, .inl i_packed))] t.heap ∧ va_D A9 [(h0, .inr (0, [.ref q, .int 2])), (q, .inl (A 900, 60, .inl i_packed))]) A9
set_option maxRecDepth 100000 in
set_option maxHeartbeats 4000000 in
theorem k_Lb (l : Launch) (hl9 : l.stackTraces = false) (D : va_G) (A : Nat → Nat) (h0 sz : Nat) : Met l y_Lb_init (Cond.code y_Lb_init b_Lb_init 1 none :: T0) ({ frames := 1, cells := 1, slots := 60, locals := 12 } : Room) (va_Pc [.ref h0] (ka_Wd D A [(h0, .inr (0, [.null, .int 0]))] sz)) (kb_Lb D A h0 (va_A [(h0, .inr (0, [.null, .int 0]))] sz)) 1 60 (va_A [(h0, .inr (0, [.null, .int 0]))] sz) := by
  refine ka_of (own := R_Lb) (fun A9 => kb_Lb D A h0 A9) (by decide) rfl (Nat.le_of_ble_eq_true rfl) ?_
  intro p e s m below meth c A9 ls S9 hr hlk hin X9 hP hD hl
  obtain ⟨hx, hb, hml, hown, hts⟩ := id S9
  have hK := X9.2.1
  have hS : va_S A9 s.heap s.heap [] := va_S.rf
  replace hl : lv_has ls 1 [(0, .ref h0)] := hl
  refine lv_aload_n hx hb d_Lb_init_0 rfl (lv_at hl 0 rfl) ?_
  refine W.objInit hx hb hown (hts _ wl_Lb_3) (hts _ wm_obj) (hts _ wo_obj) rfl (by rw [hml]; exact hl.1) rfl d_Lb_init_1 (Nat.le_of_ble_eq_true rfl) (Nat.le_of_ble_eq_true rfl) ?_
  refine W.eq (g2 := F0 m 4 ls []) rfl ?_
  refine lv_aload_n hx hb d_Lb_init_4 rfl (lv_at hl 0 rfl) ?_
  refine lv_bipush (v := 60) hx hb d_Lb_init_5 (by decide) ?_
  refine va_newa (atype := .int) (ty := .int) (n := 60) (N' := 60) (a0 := (60, .inl (fun _ => 0))) hx hb (hts _ wa_int) rfl hK hP hD hS X9.1 (fun _ => rfl) (by decide) (by decide) (by decide) (Nat.le_of_ble_eq_true rfl) (Nat.le_of_ble_eq_true rfl) d_Lb_init_7 (fun q7 cA H hK9 hP hD hS => ?_)
  obtain rfl := ka_caI hK9
  have hP : va_P D vwCl [(h0, .inr (0, [.null, .int 0])), (q7, .inl (A 900, 60, .inl (fun _ => 0)))] H := hP
  have hD : va_D A9 [(h0, .inr (0, [.null, .int 0])), (q7, .inl (A 900, 60, .inl (fun _ => 0)))] := hD
  refine va_putF (D := D) (ci := 0) (v := .ref q7) (ty := .array .int) (C := R_Lb) (T := T_Lb) (N := 2) hx hb hts wu_Lb ft_Lb fk_Lb nm_Lb hown hK hP hD hS 0 rfl rfl 0 (by decide) (hts _ wf_Lb_9) (fun _ h9 => h9) rfl hin rfl (by decide +kernel) rfl rfl (Nat.le_of_ble_eq_true rfl) d_Lb_init_9 (fun H locs hP hD hS => ?_)
  have hP : va_P D vwCl [(h0, .inr (0, [.ref q7, .int 0])), (q7, .inl (A 900, 60, .inl (fun _ => 0)))] H := hP
  have hD : va_D A9 [(h0, .inr (0, [.ref q7, .int 0])), (q7, .inl (A 900, 60, .inl (fun _ => 0)))] := hD
  refine lv_aload_n hx hb d_Lb_init_12 rfl (lv_at hl 0 rfl) ?_
  refine va_get (D := D) (ci := 0) (v := .ref q7) (C := R_Lb) (T := T_Lb) (N := 2) hx hb hts wu_Lb hown hK hP 0 rfl rfl 0 (by decide) (hts _ wf_Lb_9) (fun _ h9 => h9) rfl d_Lb_init_13 ?_
  refine lv_iconst (v := 0) hx hb d_Lb_init_16 (by decide) ?_
  refine lv_ldc (v := 286331153) hx hb hown (hts _ wk_Lb_15) d_Lb_init_17 ?_
  refine va_iast hx hb hK hP hD hS 1 0 rfl rfl (by unfold vp_in; decide) d_Lb_init_19 (fun H locs hP hD hS => ?_)
  have hP : va_P D vwCl [(h0, .inr (0, [.ref q7, .int 0])), (q7, .inl (A 900, 60, .inl (upd (fun _ => 0) (0 : Int32).toNatClampNeg 286331153)))] H := hP
  have hD : va_D A9 [(h0, .inr (0, [.ref q7, .int 0])), (q7, .inl (A 900, 60, .inl (upd (fun _ => 0) (0 : Int32).toNatClampNeg 286331153)))] := hD
  refine lv_aload_n hx hb d_Lb_init_20 rfl (lv_at hl 0 rfl) ?_
  refine va_get (D := D) (ci := 0) (v := .ref q7) (C := R_Lb) (T := T_Lb) (N := 2) hx hb hts wu_Lb hown hK hP 0 rfl rfl 0 (by decide) (hts _ wf_Lb_9) (fun _ h9 => h9) rfl d_Lb_init_21 ?_
  refine lv_iconst (v := 1) hx hb d_Lb_init_24 (by decide) ?_
  refine lv_ldc (v := 572662306) hx hb hown (hts _ wk_Lb_16) d_Lb_init_25 ?_
  refine va_iast hx hb hK hP hD hS 1 0 rfl rfl (by unfold vp_in; decide) d_Lb_init_27 (fun H locs hP hD hS => ?_)
  have hP : va_P D vwCl [(h0, .inr (0, [.ref q7, .int 0])), (q7, .inl (A 900, 60, .inl (upd (upd (fun _ => 0) (0 : Int32).toNatClampNeg 286331153) (1 : Int32).toNatClampNeg 572662306)))] H := hP
  have hD : va_D A9 [(h0, .inr (0, [.ref q7, .int 0])), (q7, .inl (A 900, 60, .inl (upd (upd (fun _ => 0) (0 : Int32).toNatClampNeg 286331153) (1 : Int32).toNatClampNeg 572662306)))] := hD
  refine lv_aload_n hx hb d_Lb_init_28 rfl (lv_at hl 0 rfl) ?_
  refine lv_iconst (v := 2) hx hb d_Lb_init_29 (by decide) ?_
  refine va_put (D := D) (ci := 0) (v := .int 2) (ty := .int) (C := R_Lb) (T := T_Lb) (N := 2) hx hb hts wu_Lb ft_Lb fk_Lb nm_Lb hown hK hP hD hS 0 rfl rfl 1 (by decide) (hts _ wf_Lb_17) (fun _ h9 => h9) rfl (by decide +kernel) rfl rfl (Nat.le_of_ble_eq_true rfl) d_Lb_init_30 (fun H locs hP hD hS => ?_)
  have hP : va_P D vwCl [(h0, .inr (0, [.ref q7, .int 2])), (q7, .inl (A 900, 60, .inl (upd (upd (fun _ => 0) (0 : Int32).toNatClampNeg 286331153) (1 : Int32).toNatClampNeg 572662306)))] H := hP
  have hD : va_D A9 [(h0, .inr (0, [.ref q7, .int 2])), (q7, .inl (A 900, 60, .inl (upd (upd (fun _ => 0) (0 : Int32).toNatClampNeg 286331153) (1 : Int32).toNatClampNeg 572662306)))] := hD
  exact W.vret hx hb hr (fun t ht hW => ⟨⟨q7, rfl, trivial, ka_at ht hP, hD⟩, hS.F ht⟩) hS.2.2 d_Lb_init_33 hlk
abbrev kb_Us (D : va_G) (A : Nat → Nat) (h0 : Nat) (A9 : Nat → Prop) : Array Value → State → Outcome → State → Prop := va_Qv (fun _ : Nat → Nat => True) (fun a t => va_P D vwCl [(h0, .inr (3, [.ref (a 17), .ref (a 18), .ref (a 19), .ref (a 20), .ref (a 21), .ref (a 22), .ref (a 23)])), ((a 17), .inl (A 901, 4, .inl (fun _ => 0))), ((a 18), .inl (A 900, 4, .inl (fun _ => 0))), ((a 19), .inl (A 900, 4, .inl (fun _ => 0))), ((a 20), .inl (A 900, 4, .inl (fun _ => 0))), ((a 21), .inl (A 900, 4, .inl (fun _ => 0))), ((a 22), .inl (A 900, 4, .inl (fun _ => 0))), ((a 23), .inl (A 900, 4, .inl (fun _ => 0)))] t.heap ∧ va_D A9 [(h0, .inr (3, [.ref (a 17), .ref (a 18), .ref (a 19), .ref (a 20), .ref (a 21), .ref (a 22), .ref (a 23)])), ((a 17), .inl (A 901, 4, .inl (fun _ => 0))), ((a 18), .inl (A 900, 4, .inl (fun _ => 0))), ((a 19), .inl (A 900, 4, .inl (fun _ => 0))), ((a 20), .inl (A 900, 4, .inl (fun _ => 0))), ((a 21), .inl (A 900, 4, .inl (fun _ => 0))), ((a 22), .inl (A 900, 4, .inl (fun _ => 0))), ((a 23), .inl (A 900, 4, .inl (fun _ => 0)))]) A9
set_option maxRecDepth 100000 in
set_option maxHeartbeats 4000000 in
theorem k_Us (l : Launch) (hl9 : l.stackTraces = false) (D : va_G) (A : Nat → Nat) (h0 sz : Nat) : Met l y_Us_init (Cond.code y_Us_init b_Us_init 1 none :: T0) ({ frames := 1, cells := 7, slots := 28, locals := 12 } : Room) (va_Pc [.ref h0] (ka_Wd D A [(h0, .inr (3, [.null, .null, .null, .null, .null, .null, .null]))] sz)) (kb_Us D A h0 (va_A [(h0, .inr (3, [.null, .null, .null, .null, .null, .null, .null]))] sz)) 7 28 (va_A [(h0, .inr (3, [.null, .null, .null, .null, .null, .null, .null]))] sz) := by
  refine ka_of (own := R_Us) (fun A9 => kb_Us D A h0 A9) (by decide) rfl (Nat.le_of_ble_eq_true rfl) ?_
  intro p e s m below meth c A9 ls S9 hr hlk hin X9 hP hD hl
  obtain ⟨hx, hb, hml, hown, hts⟩ := id S9
  have hK := X9.2.1
  have hS : va_S A9 s.heap s.heap [] := va_S.rf
  replace hl : lv_has ls 1 [(0, .ref h0)] := hl
  refine lv_aload_n hx hb d_Us_init_0 rfl (lv_at hl 0 rfl) ?_
  refine W.objInit hx hb hown (hts _ wl_Us_3) (hts _ wm_obj) (hts _ wo_obj) rfl (by rw [hml]; exact hl.1) rfl d_Us_init_1 (Nat.le_of_ble_eq_true rfl) (Nat.le_of_ble_eq_true rfl) ?_
  refine W.eq (g2 := F0 m 4 ls []) rfl ?_
  refine lv_aload_n hx hb d_Us_init_4 rfl (lv_at hl 0 rfl) ?_
  refine lv_iconst (v := 4) hx hb d_Us_init_5 (by decide) ?_
  refine va_newa (atype := .boolean) (ty := .boolean) (n := 4) (N' := 4) (a0 := (4, .inl (fun _ => 0))) hx hb (hts _ wa_boolean) rfl hK hP hD hS X9.1 (fun _ => rfl) (by decide) (by decide) (by decide) (Nat.le_of_ble_eq_true rfl) (Nat.le_of_ble_eq_true rfl) d_Us_init_6 (fun q6 cA H hK9 hP hD hS => ?_)
  obtain rfl := ka_caZ hK9
  have hP : va_P D vwCl [(h0, .inr (3, [.null, .null, .null, .null, .null, .null, .null])), (q6, .inl (A 901, 4, .inl (fun _ => 0)))] H := hP
  have hD : va_D A9 [(h0, .inr (3, [.null, .null, .null, .null, .null, .null, .null])), (q6, .inl (A 901, 4, .inl (fun _ => 0)))] := hD
  refine va_putF (D := D) (ci := 3) (v := .ref q6) (ty := .array .boolean) (C := R_Us) (T := T_Us) (N := 7) hx hb hts wu_Us ft_Us fk_Us nm_Us hown hK hP hD hS 0 rfl rfl 0 (by decide) (hts _ wf_Us_9) (fun _ h9 => h9) rfl hin rfl (by decide +kernel) rfl rfl (Nat.le_of_ble_eq_true rfl) d_Us_init_8 (fun H locs hP hD hS => ?_)
  have hP : va_P D vwCl [(h0, .inr (3, [.ref q6, .null, .null, .null, .null, .null, .null])), (q6, .inl (A 901, 4, .inl (fun _ => 0)))] H := hP
  have hD : va_D A9 [(h0, .inr (3, [.ref q6, .null, .null, .null, .null, .null, .null])), (q6, .inl (A 901, 4, .inl (fun _ => 0)))] := hD
  refine lv_aload_n hx hb d_Us_init_11 rfl (lv_at hl 0 rfl) ?_
  refine lv_iconst (v := 4) hx hb d_Us_init_12 (by decide) ?_
  refine va_newa (atype := .int) (ty := .int) (n := 4) (N' := 4) (a0 := (4, .inl (fun _ => 0))) hx hb (hts _ wa_int) rfl hK hP hD hS X9.1 (fun _ => rfl) (by decide) (by decide) (by decide) (Nat.le_of_ble_eq_true rfl) (Nat.le_of_ble_eq_true rfl) d_Us_init_13 (fun q13 cA H hK9 hP hD hS => ?_)
  obtain rfl := ka_caI hK9
  have hP : va_P D vwCl [(h0, .inr (3, [.ref q6, .null, .null, .null, .null, .null, .null])), (q6, .inl (A 901, 4, .inl (fun _ => 0))), (q13, .inl (A 900, 4, .inl (fun _ => 0)))] H := hP
  have hD : va_D A9 [(h0, .inr (3, [.ref q6, .null, .null, .null, .null, .null, .null])), (q6, .inl (A 901, 4, .inl (fun _ => 0))), (q13, .inl (A 900, 4, .inl (fun _ => 0)))] := hD
  refine va_putF (D := D) (ci := 3) (v := .ref q13) (ty := .array .int) (C := R_Us) (T := T_Us) (N := 7) hx hb hts wu_Us ft_Us fk_Us nm_Us hown hK hP hD hS 0 rfl rfl 1 (by decide) (hts _ wf_Us_15) (fun _ h9 => h9) rfl hin rfl (by decide +kernel) rfl rfl (Nat.le_of_ble_eq_true rfl) d_Us_init_15 (fun H locs hP hD hS => ?_)
  have hP : va_P D vwCl [(h0, .inr (3, [.ref q6, .ref q13, .null, .null, .null, .null, .null])), (q6, .inl (A 901, 4, .inl (fun _ => 0))), (q13, .inl (A 900, 4, .inl (fun _ => 0)))] H := hP
  have hD : va_D A9 [(h0, .inr (3, [.ref q6, .ref q13, .null, .null, .null, .null, .null])), (q6, .inl (A 901, 4, .inl (fun _ => 0))), (q13, .inl (A 900, 4, .inl (fun _ => 0)))] := hD
  refine lv_aload_n hx hb d_Us_init_18 rfl (lv_at hl 0 rfl) ?_
  refine lv_iconst (v := 4) hx hb d_Us_init_19 (by decide) ?_
  refine va_newa (atype := .int) (ty := .int) (n := 4) (N' := 4) (a0 := (4, .inl (fun _ => 0))) hx hb (hts _ wa_int) rfl hK hP hD hS X9.1 (fun _ => rfl) (by decide) (by decide) (by decide) (Nat.le_of_ble_eq_true rfl) (Nat.le_of_ble_eq_true rfl) d_Us_init_20 (fun q20 cA H hK9 hP hD hS => ?_)
  obtain rfl := ka_caI hK9
  have hP : va_P D vwCl [(h0, .inr (3, [.ref q6, .ref q13, .null, .null, .null, .null, .null])), (q6, .inl (A 901, 4, .inl (fun _ => 0))), (q13, .inl (A 900, 4, .inl (fun _ => 0))), (q20, .inl (A 900, 4, .inl (fun _ => 0)))] H := hP
  have hD : va_D A9 [(h0, .inr (3, [.ref q6, .ref q13, .null, .null, .null, .null, .null])), (q6, .inl (A 901, 4, .inl (fun _ => 0))), (q13, .inl (A 900, 4, .inl (fun _ => 0))), (q20, .inl (A 900, 4, .inl (fun _ => 0)))] := hD
  refine va_putF (D := D) (ci := 3) (v := .ref q20) (ty := .array .int) (C := R_Us) (T := T_Us) (N := 7) hx hb hts wu_Us ft_Us fk_Us nm_Us hown hK hP hD hS 0 rfl rfl 2 (by decide) (hts _ wf_Us_19) (fun _ h9 => h9) rfl hin rfl (by decide +kernel) rfl rfl (Nat.le_of_ble_eq_true rfl) d_Us_init_22 (fun H locs hP hD hS => ?_)
  have hP : va_P D vwCl [(h0, .inr (3, [.ref q6, .ref q13, .ref q20, .null, .null, .null, .null])), (q6, .inl (A 901, 4, .inl (fun _ => 0))), (q13, .inl (A 900, 4, .inl (fun _ => 0))), (q20, .inl (A 900, 4, .inl (fun _ => 0)))] H := hP
  have hD : va_D A9 [(h0, .inr (3, [.ref q6, .ref q13, .ref q20, .null, .null, .null, .null])), (q6, .inl (A 901, 4, .inl (fun _ => 0))), (q13, .inl (A 900, 4, .inl (fun _ => 0))), (q20, .inl (A 900, 4, .inl (fun _ => 0)))] := hD
  refine lv_aload_n hx hb d_Us_init_25 rfl (lv_at hl 0 rfl) ?_
  refine lv_iconst (v := 4) hx hb d_Us_init_26 (by decide) ?_
  refine va_newa (atype := .int) (ty := .int) (n := 4) (N' := 4) (a0 := (4, .inl (fun _ => 0))) hx hb (hts _ wa_int) rfl hK hP hD hS X9.1 (fun _ => rfl) (by decide) (by decide) (by decide) (Nat.le_of_ble_eq_true rfl) (Nat.le_of_ble_eq_true rfl) d_Us_init_27 (fun q27 cA H hK9 hP hD hS => ?_)
  obtain rfl := ka_caI hK9
  have hP : va_P D vwCl [(h0, .inr (3, [.ref q6, .ref q13, .ref q20, .null, .null, .null, .null])), (q6, .inl (A 901, 4, .inl (fun _ => 0))), (q13, .inl (A 900, 4, .inl (fun _ => 0))), (q20, .inl (A 900, 4, .inl (fun _ => 0))), (q27, .inl (A 900, 4, .inl (fun _ => 0)))] H := hP
  have hD : va_D A9 [(h0, .inr (3, [.ref q6, .ref q13, .ref q20, .null, .null, .null, .null])), (q6, .inl (A 901, 4, .inl (fun _ => 0))), (q13, .inl (A 900, 4, .inl (fun _ => 0))), (q20, .inl (A 900, 4, .inl (fun _ => 0))), (q27, .inl (A 900, 4, .inl (fun _ => 0)))] := hD
  refine va_putF (D := D) (ci := 3) (v := .ref q27) (ty := .array .int) (C := R_Us) (T := T_Us) (N := 7) hx hb hts wu_Us ft_Us fk_Us nm_Us hown hK hP hD hS 0 rfl rfl 3 (by decide) (hts _ wf_Us_22) (fun _ h9 => h9) rfl hin rfl (by decide +kernel) rfl rfl (Nat.le_of_ble_eq_true rfl) d_Us_init_29 (fun H locs hP hD hS => ?_)
  have hP : va_P D vwCl [(h0, .inr (3, [.ref q6, .ref q13, .ref q20, .ref q27, .null, .null, .null])), (q6, .inl (A 901, 4, .inl (fun _ => 0))), (q13, .inl (A 900, 4, .inl (fun _ => 0))), (q20, .inl (A 900, 4, .inl (fun _ => 0))), (q27, .inl (A 900, 4, .inl (fun _ => 0)))] H := hP
  have hD : va_D A9 [(h0, .inr (3, [.ref q6, .ref q13, .ref q20, .ref q27, .null, .null, .null])), (q6, .inl (A 901, 4, .inl (fun _ => 0))), (q13, .inl (A 900, 4, .inl (fun _ => 0))), (q20, .inl (A 900, 4, .inl (fun _ => 0))), (q27, .inl (A 900, 4, .inl (fun _ => 0)))] := hD
  refine lv_aload_n hx hb d_Us_init_32 rfl (lv_at hl 0 rfl) ?_
  refine lv_iconst (v := 4) hx hb d_Us_init_33 (by decide) ?_
  refine va_newa (atype := .int) (ty := .int) (n := 4) (N' := 4) (a0 := (4, .inl (fun _ => 0))) hx hb (hts _ wa_int) rfl hK hP hD hS X9.1 (fun _ => rfl) (by decide) (by decide) (by decide) (Nat.le_of_ble_eq_true rfl) (Nat.le_of_ble_eq_true rfl) d_Us_init_34 (fun q34 cA H hK9 hP hD hS => ?_)
  obtain rfl := ka_caI hK9
  have hP : va_P D vwCl [(h0, .inr (3, [.ref q6, .ref q13, .ref q20, .ref q27, .null, .null, .null])), (q6, .inl (A 901, 4, .inl (fun _ => 0))), (q13, .inl (A 900, 4, .inl (fun _ => 0))), (q20, .inl (A 900, 4, .inl (fun _ => 0))), (q27, .inl (A 900, 4, .inl (fun _ => 0))), (q34, .inl (A 900, 4, .inl (fun _ => 0)))] H := hP
  have hD : va_D A9 [(h0, .inr (3, [.ref q6, .ref q13, .ref q20, .ref q27, .null, .null, .null])), (q6, .inl (A 901, 4, .inl (fun _ => 0))), (q13, .inl (A 900, 4, .inl (fun _ => 0))), (q20, .inl (A 900, 4, .inl (fun _ => 0))), (q27, .inl (A 900, 4, .inl (fun _ => 0))), (q34, .inl (A 900, 4, .inl (fun _ => 0)))] := hD
  refine va_putF (D := D) (ci := 3) (v := .ref q34) (ty := .array .int) (C := R_Us) (T := T_Us) (N := 7) hx hb hts wu_Us ft_Us fk_Us nm_Us hown hK hP hD hS 0 rfl rfl 4 (by decide) (hts _ wf_Us_25) (fun _ h9 => h9) rfl hin rfl (by decide +kernel) rfl rfl (Nat.le_of_ble_eq_true rfl) d_Us_init_36 (fun H locs hP hD hS => ?_)
  have hP : va_P D vwCl [(h0, .inr (3, [.ref q6, .ref q13, .ref q20, .ref q27, .ref q34, .null, .null])), (q6, .inl (A 901, 4, .inl (fun _ => 0))), (q13, .inl (A 900, 4, .inl (fun _ => 0))), (q20, .inl (A 900, 4, .inl (fun _ => 0))), (q27, .inl (A 900, 4, .inl (fun _ => 0))), (q34, .inl (A 900, 4, .inl (fun _ => 0)))] H := hP
  have hD : va_D A9 [(h0, .inr (3, [.ref q6, .ref q13, .ref q20, .ref q27, .ref q34, .null, .null])), (q6, .inl (A 901, 4, .inl (fun _ => 0))), (q13, .inl (A 900, 4, .inl (fun _ => 0))), (q20, .inl (A 900, 4, .inl (fun _ => 0))), (q27, .inl (A 900, 4, .inl (fun _ => 0))), (q34, .inl (A 900, 4, .inl (fun _ => 0)))] := hD
  refine lv_aload_n hx hb d_Us_init_39 rfl (lv_at hl 0 rfl) ?_
  refine lv_iconst (v := 4) hx hb d_Us_init_40 (by decide) ?_
  refine va_newa (atype := .int) (ty := .int) (n := 4) (N' := 4) (a0 := (4, .inl (fun _ => 0))) hx hb (hts _ wa_int) rfl hK hP hD hS X9.1 (fun _ => rfl) (by decide) (by decide) (by decide) (Nat.le_of_ble_eq_true rfl) (Nat.le_of_ble_eq_true rfl) d_Us_init_41 (fun q41 cA H hK9 hP hD hS => ?_)
  obtain rfl := ka_caI hK9
  have hP : va_P D vwCl [(h0, .inr (3, [.ref q6, .ref q13, .ref q20, .ref q27, .ref q34, .null, .null])), (q6, .inl (A 901, 4, .inl (fun _ => 0))), (q13, .inl (A 900, 4, .inl (fun _ => 0))), (q20, .inl (A 900, 4, .inl (fun _ => 0))), (q27, .inl (A 900, 4, .inl (fun _ => 0))), (q34, .inl (A 900, 4, .inl (fun _ => 0))), (q41, .inl (A 900, 4, .inl (fun _ => 0)))] H := hP
  have hD : va_D A9 [(h0, .inr (3, [.ref q6, .ref q13, .ref q20, .ref q27, .ref q34, .null, .null])), (q6, .inl (A 901, 4, .inl (fun _ => 0))), (q13, .inl (A 900, 4, .inl (fun _ => 0))), (q20, .inl (A 900, 4, .inl (fun _ => 0))), (q27, .inl (A 900, 4, .inl (fun _ => 0))), (q34, .inl (A 900, 4, .inl (fun _ => 0))), (q41, .inl (A 900, 4, .inl (fun _ => 0)))] := hD
  refine va_putF (D := D) (ci := 3) (v := .ref q41) (ty := .array .int) (C := R_Us) (T := T_Us) (N := 7) hx hb hts wu_Us ft_Us fk_Us nm_Us hown hK hP hD hS 0 rfl rfl 5 (by decide) (hts _ wf_Us_28) (fun _ h9 => h9) rfl hin rfl (by decide +kernel) rfl rfl (Nat.le_of_ble_eq_true rfl) d_Us_init_43 (fun H locs hP hD hS => ?_)
  have hP : va_P D vwCl [(h0, .inr (3, [.ref q6, .ref q13, .ref q20, .ref q27, .ref q34, .ref q41, .null])), (q6, .inl (A 901, 4, .inl (fun _ => 0))), (q13, .inl (A 900, 4, .inl (fun _ => 0))), (q20, .inl (A 900, 4, .inl (fun _ => 0))), (q27, .inl (A 900, 4, .inl (fun _ => 0))), (q34, .inl (A 900, 4, .inl (fun _ => 0))), (q41, .inl (A 900, 4, .inl (fun _ => 0)))] H := hP
  have hD : va_D A9 [(h0, .inr (3, [.ref q6, .ref q13, .ref q20, .ref q27, .ref q34, .ref q41, .null])), (q6, .inl (A 901, 4, .inl (fun _ => 0))), (q13, .inl (A 900, 4, .inl (fun _ => 0))), (q20, .inl (A 900, 4, .inl (fun _ => 0))), (q27, .inl (A 900, 4, .inl (fun _ => 0))), (q34, .inl (A 900, 4, .inl (fun _ => 0))), (q41, .inl (A 900, 4, .inl (fun _ => 0)))] := hD
  refine lv_aload_n hx hb d_Us_init_46 rfl (lv_at hl 0 rfl) ?_
  refine lv_iconst (v := 4) hx hb d_Us_init_47 (by decide) ?_
  refine va_newa (atype := .int) (ty := .int) (n := 4) (N' := 4) (a0 := (4, .inl (fun _ => 0))) hx hb (hts _ wa_int) rfl hK hP hD hS X9.1 (fun _ => rfl) (by decide) (by decide) (by decide) (Nat.le_of_ble_eq_true rfl) (Nat.le_of_ble_eq_true rfl) d_Us_init_48 (fun q48 cA H hK9 hP hD hS => ?_)
  obtain rfl := ka_caI hK9
  have hP : va_P D vwCl [(h0, .inr (3, [.ref q6, .ref q13, .ref q20, .ref q27, .ref q34, .ref q41, .null])), (q6, .inl (A 901, 4, .inl (fun _ => 0))), (q13, .inl (A 900, 4, .inl (fun _ => 0))), (q20, .inl (A 900, 4, .inl (fun _ => 0))), (q27, .inl (A 900, 4, .inl (fun _ => 0))), (q34, .inl (A 900, 4, .inl (fun _ => 0))), (q41, .inl (A 900, 4, .inl (fun _ => 0))), (q48, .inl (A 900, 4, .inl (fun _ => 0)))] H := hP
  have hD : va_D A9 [(h0, .inr (3, [.ref q6, .ref q13, .ref q20, .ref q27, .ref q34, .ref q41, .null])), (q6, .inl (A 901, 4, .inl (fun _ => 0))), (q13, .inl (A 900, 4, .inl (fun _ => 0))), (q20, .inl (A 900, 4, .inl (fun _ => 0))), (q27, .inl (A 900, 4, .inl (fun _ => 0))), (q34, .inl (A 900, 4, .inl (fun _ => 0))), (q41, .inl (A 900, 4, .inl (fun _ => 0))), (q48, .inl (A 900, 4, .inl (fun _ => 0)))] := hD
  refine va_putF (D := D) (ci := 3) (v := .ref q48) (ty := .array .int) (C := R_Us) (T := T_Us) (N := 7) hx hb hts wu_Us ft_Us fk_Us nm_Us hown hK hP hD hS 0 rfl rfl 6 (by decide) (hts _ wf_Us_31) (fun _ h9 => h9) rfl hin rfl (by decide +kernel) rfl rfl (Nat.le_of_ble_eq_true rfl) d_Us_init_50 (fun H locs hP hD hS => ?_)
  have hP : va_P D vwCl [(h0, .inr (3, [.ref q6, .ref q13, .ref q20, .ref q27, .ref q34, .ref q41, .ref q48])), (q6, .inl (A 901, 4, .inl (fun _ => 0))), (q13, .inl (A 900, 4, .inl (fun _ => 0))), (q20, .inl (A 900, 4, .inl (fun _ => 0))), (q27, .inl (A 900, 4, .inl (fun _ => 0))), (q34, .inl (A 900, 4, .inl (fun _ => 0))), (q41, .inl (A 900, 4, .inl (fun _ => 0))), (q48, .inl (A 900, 4, .inl (fun _ => 0)))] H := hP
  have hD : va_D A9 [(h0, .inr (3, [.ref q6, .ref q13, .ref q20, .ref q27, .ref q34, .ref q41, .ref q48])), (q6, .inl (A 901, 4, .inl (fun _ => 0))), (q13, .inl (A 900, 4, .inl (fun _ => 0))), (q20, .inl (A 900, 4, .inl (fun _ => 0))), (q27, .inl (A 900, 4, .inl (fun _ => 0))), (q34, .inl (A 900, 4, .inl (fun _ => 0))), (q41, .inl (A 900, 4, .inl (fun _ => 0))), (q48, .inl (A 900, 4, .inl (fun _ => 0)))] := hD
  exact W.vret hx hb hr (fun t ht hW => ⟨⟨(fun n => if n = 17 then q6 else if n = 18 then q13 else if n = 19 then q20 else if n = 20 then q27 else if n = 21 then q34 else if n = 22 then q41 else if n = 23 then q48 else A n), rfl, trivial, ka_at ht hP, hD⟩, hS.F ht⟩) hS.2.2 d_Us_init_53 hlk
