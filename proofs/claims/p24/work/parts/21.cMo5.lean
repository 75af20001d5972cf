def f_Mo_file (σ : RS) (x1 x2 x3 x4 : Int32) : Option (Int32 × RS) := zl (sM_code σ 0) fun u1 => (f_Mo_within x2 0 3).bind fun v2 => if v2 = 0 then ((f_Mo_fail u1 1).bind fun v4 => some (v4.1, v4.2)) else ((f_Mo_within x3 0 3).bind fun v5 => if v5 = 0 then ((f_Mo_fail u1 1).bind fun v7 => some (v7.1, v7.2)) else ((f_Mo_within x4 1 8).bind fun v8 => if v8 = 0 then ((f_Mo_fail u1 1).bind fun v30 => some (v30.1, v30.2)) else ((f_Mo_of u1 x2 0).bind fun v10 => if v10 = 0 then ((f_Mo_fail u1 2).bind fun v29 => some (v29.1, v29.2)) else ((f_Mo_of u1 x2 4).bind fun v12 => (f_Mo_of u1 x2 5).bind fun v13 => (f_Mo_cell u1 x1 v12 v13 x3 0 0).bind fun v14 => if (gM_code v14.2) = 0 then (if v14.1 = 0 then ((f_Mo_at v14.2 v12 2).bind fun v17 => (f_Mo_makeSegment v14.2 x1 v12 v17 x4).bind fun v18 => if (gM_code v18.2) = 0 then ((f_Mo_of v18.2 x2 5).bind fun v20 => (f_Mo_cell v18.2 x1 v12 v20 x3 1 v18.1).bind fun v21 => some (v18.1, v21.2)) else (some (v18.1, v18.2))) else ((f_Mo_remove v14.2 x1 v12 v14.1).bind fun v22 => if (gM_code v22.2) = 0 then ((f_Mo_at v22.2 v12 2).bind fun v24 => (f_Mo_makeSegment v22.2 x1 v12 v24 x4).bind fun v25 => if (gM_code v25.2) = 0 then ((f_Mo_of v25.2 x2 5).bind fun v27 => (f_Mo_cell v25.2 x1 v12 v27 x3 1 v25.1).bind fun v28 => some (v25.1, v28.2)) else (some (v25.1, v25.2))) else (some (0, v22.2)))) else (some (0, v14.2))))))
set_option maxRecDepth 100000 in
set_option maxHeartbeats 4000000 in
theorem c_Mo_file (l : Launch) (hl9 : l.stackTraces = false) (D : va_G) (A : Nat → Nat) (r : va_W) (sz : Nat) (σ : RS) (x1 x2 x3 x4 : Int32) (z : Int32 × RS) (h : f_Mo_file σ x1 x2 x3 x4 = some z) : Met l y_Mo_file (Cond.code y_Mo_file b_Mo_file 8 (some .int) :: T0) ({ frames := 6, cells := 0, slots := 0, locals := 145 } : Room) (va_Pc [.ref (A 60), .int x1, .int x2, .int x3, .int x4] (ka_Wd D A (MW A σ r) sz)) (ka_Ri D z.1 (MW A z.2 r) (va_A (MW A σ r) sz)) 0 0 (va_A (MW A σ r) sz) := by
  unfold f_Mo_file at h
  refine ka_of (own := R_Mo) (fun A9 => ka_Ri D z.1 (MW A z.2 r) A9) (by decide) rfl (Nat.le_of_ble_eq_true rfl) ?_
  intro p e s m below meth c A9 ls S9 hr hlk hex X9 hP hD hl
  obtain ⟨hx, hb, hml, hown, hts⟩ := id S9
  have hK := X9.2.1
  have hS : va_S A9 s.heap s.heap [] := va_S.rf
  replace hl : lv_has ls 8 [(0, .ref (A 60)), (1, .int x1), (2, .int x2), (3, .int x3), (4, .int x4)] := hl
  refine lv_aload_n hx hb d_Mo_file_0 rfl (lv_at hl 0 rfl) ?_
  refine lv_iconst (v := 0) hx hb d_Mo_file_1 (by decide) ?_
  obtain ⟨u1, hu9, h⟩ := zo_l h
  refine va_put (D := D) (ci := 5) (v := .int 0) (ty := .int) (C := R_Mo) (T := T_Mo) (N := 3) hx hb hts wu_Mo ft_Mo fk_Mo nm_Mo hown hK hP hD hS 0 rfl rfl 2 (by decide) (hts _ wf_Mo_16) (fun _ h9 => h9) rfl (by decide +kernel) rfl rfl (Nat.le_of_ble_eq_true rfl) d_Mo_file_2 (fun H locs hP hD hS => ?_)
  replace hP : va_P D vwCl (MW A u1 r) H := by rw [hu9]; exact hP
  replace hD : va_D A9 (MW A u1 r) := by rw [hu9]; exact hD
  refine lv_iload_n hx hb d_Mo_file_5 rfl (lv_at hl 2 rfl) ?_
  refine lv_iconst (v := 0) hx hb d_Mo_file_6 (by decide) ?_
  refine lv_iconst (v := 3) hx hb d_Mo_file_7 (by decide) ?_
  obtain ⟨v2, e9, h⟩ := zo_b h
  refine ka_i (va_runS (As := [.int x2, .int 0, .int 3]) (rest := []) S9 (c_Mo_within l hl9 D A (MW A u1 r) _ x2 0 3 _ e9) (cwS 3 hts (tg_S wl_Mo_28 ws_Mo_within wi_Mo wo_Mo_within) rfl rfl rfl wq_Mo_within ⟨Nat.le_of_ble_eq_true rfl, Nat.le_of_ble_eq_true rfl⟩) (ka_preS X9 hP hD hS) rfl rfl hl.1 rfl (lv_room (Nat.le_of_ble_eq_true rfl)) d_Mo_file_8 ⟨Nat.le_of_ble_eq_true rfl, Nat.le_of_ble_eq_true rfl⟩) X9 hD hS rfl (fun H locs hP hD hS => ?_)
  refine lv_if_eq (tgt := 34) hx hb d_Mo_file_11 (by decide) (fun c3 => ?_) (fun c3 => ?_)
  · replace h := zo_t c3 h
    refine lv_aload_n hx hb d_Mo_file_34 rfl (lv_at hl 0 rfl) ?_
    refine lv_iconst (v := 1) hx hb d_Mo_file_35 (by decide) ?_
    obtain ⟨v4, e9, h⟩ := zo_b h
    refine ka_i (va_runV (As := [.int 1]) (rest := []) S9 (c_Mo_fail l hl9 D A r _ u1 1 _ e9) (cwV 1 hts (tg_V wl_Mo_51 wm_Mo_fail we_Mo_fail wi_Mo wo_Mo_fail) rfl rfl rfl wq_Mo_fail ⟨Nat.le_of_ble_eq_true rfl, Nat.le_of_ble_eq_true rfl⟩) (ka_preV X9 hP hD hS 0 rfl rfl) rfl rfl hl.1 rfl (lv_room (Nat.le_of_ble_eq_true rfl)) d_Mo_file_36 ⟨Nat.le_of_ble_eq_true rfl, Nat.le_of_ble_eq_true rfl⟩) X9 hD hS rfl (fun H locs hP hD hS => ?_)
    cases h
    exact W.iret hx hb hr (fun t ht hW => ⟨⟨_, (), rfl, rfl, ka_at ht hP⟩, hS.F ht⟩) hS.2.2 d_Mo_file_39 hlk
  replace h := zo_f c3 h
  refine lv_iload_n hx hb d_Mo_file_14 rfl (lv_at hl 3 rfl) ?_
  refine lv_iconst (v := 0) hx hb d_Mo_file_15 (by decide) ?_
  refine lv_iconst (v := 3) hx hb d_Mo_file_16 (by decide) ?_
  obtain ⟨v5, e9, h⟩ := zo_b h
  refine ka_i (va_runS (As := [.int x3, .int 0, .int 3]) (rest := []) S9 (c_Mo_within l hl9 D A (MW A u1 r) _ x3 0 3 _ e9) (cwS 3 hts (tg_S wl_Mo_28 ws_Mo_within wi_Mo wo_Mo_within) rfl rfl rfl wq_Mo_within ⟨Nat.le_of_ble_eq_true rfl, Nat.le_of_ble_eq_true rfl⟩) (ka_preS X9 hP hD hS) rfl rfl hl.1 rfl (lv_room (Nat.le_of_ble_eq_true rfl)) d_Mo_file_17 ⟨Nat.le_of_ble_eq_true rfl, Nat.le_of_ble_eq_true rfl⟩) X9 hD hS rfl (fun H locs hP hD hS => ?_)
  refine lv_if_eq (tgt := 34) hx hb d_Mo_file_20 (by decide) (fun c6 => ?_) (fun c6 => ?_)
  · replace h := zo_t c6 h
    refine lv_aload_n hx hb d_Mo_file_34 rfl (lv_at hl 0 rfl) ?_
    refine lv_iconst (v := 1) hx hb d_Mo_file_35 (by decide) ?_
    obtain ⟨v7, e9, h⟩ := zo_b h
    refine ka_i (va_runV (As := [.int 1]) (rest := []) S9 (c_Mo_fail l hl9 D A r _ u1 1 _ e9) (cwV 1 hts (tg_V wl_Mo_51 wm_Mo_fail we_Mo_fail wi_Mo wo_Mo_fail) rfl rfl rfl wq_Mo_fail ⟨Nat.le_of_ble_eq_true rfl, Nat.le_of_ble_eq_true rfl⟩) (ka_preV X9 hP hD hS 0 rfl rfl) rfl rfl hl.1 rfl (lv_room (Nat.le_of_ble_eq_true rfl)) d_Mo_file_36 ⟨Nat.le_of_ble_eq_true rfl, Nat.le_of_ble_eq_true rfl⟩) X9 hD hS rfl (fun H locs hP hD hS => ?_)
    cases h
    exact W.iret hx hb hr (fun t ht hW => ⟨⟨_, (), rfl, rfl, ka_at ht hP⟩, hS.F ht⟩) hS.2.2 d_Mo_file_39 hlk
  replace h := zo_f c6 h
  refine lv_iload hx hb d_Mo_file_23 (lv_at hl 4 rfl) ?_
  refine lv_iconst (v := 1) hx hb d_Mo_file_25 (by decide) ?_
  refine lv_bipush (v := 8) hx hb d_Mo_file_26 (by decide) ?_
  obtain ⟨v8, e9, h⟩ := zo_b h
  refine ka_i (va_runS (As := [.int x4, .int 1, .int 8]) (rest := []) S9 (c_Mo_within l hl9 D A (MW A u1 r) _ x4 1 8 _ e9) (cwS 3 hts (tg_S wl_Mo_28 ws_Mo_within wi_Mo wo_Mo_within) rfl rfl rfl wq_Mo_within ⟨Nat.le_of_ble_eq_true rfl, Nat.le_of_ble_eq_true rfl⟩) (ka_preS X9 hP hD hS) rfl rfl hl.1 rfl (lv_room (Nat.le_of_ble_eq_true rfl)) d_Mo_file_28 ⟨Nat.le_of_ble_eq_true rfl, Nat.le_of_ble_eq_true rfl⟩) X9 hD hS rfl (fun H locs hP hD hS => ?_)
  refine lv_if_ne (tgt := 40) hx hb d_Mo_file_31 (by decide) (fun c9 => ?_) (fun c9 => ?_)
  · replace h := zo_f c9 h
    refine lv_aload_n hx hb d_Mo_file_40 rfl (lv_at hl 0 rfl) ?_
    refine lv_iload_n hx hb d_Mo_file_41 rfl (lv_at hl 2 rfl) ?_
    refine lv_iconst (v := 0) hx hb d_Mo_file_42 (by decide) ?_
    obtain ⟨v10, e9, h⟩ := zo_b h
    refine ka_i (va_runV (As := [.int x2, .int 0]) (rest := []) S9 (c_Mo_of l hl9 D A r _ u1 x2 0 _ e9) (cwV 2 hts (tg_V wl_Mo_116 wm_Mo_of we_Mo_of wi_Mo wo_Mo_of) rfl rfl rfl wq_Mo_of ⟨Nat.le_of_ble_eq_true rfl, Nat.le_of_ble_eq_true rfl⟩) (ka_preV X9 hP hD hS 0 rfl rfl) rfl rfl hl.1 rfl (lv_room (Nat.le_of_ble_eq_true rfl)) d_Mo_file_43 ⟨Nat.le_of_ble_eq_true rfl, Nat.le_of_ble_eq_true rfl⟩) X9 hD hS rfl (fun H locs hP hD hS => ?_)
    refine lv_if_ne (tgt := 55) hx hb d_Mo_file_46 (by decide) (fun c11 => ?_) (fun c11 => ?_)
    · replace h := zo_f c11 h
      refine lv_aload_n hx hb d_Mo_file_55 rfl (lv_at hl 0 rfl) ?_
      refine lv_iload_n hx hb d_Mo_file_56 rfl (lv_at hl 2 rfl) ?_
      refine lv_iconst (v := 4) hx hb d_Mo_file_57 (by decide) ?_
      obtain ⟨v12, e9, h⟩ := zo_b h
      refine ka_i (va_runV (As := [.int x2, .int 4]) (rest := []) S9 (c_Mo_of l hl9 D A r _ u1 x2 4 _ e9) (cwV 2 hts (tg_V wl_Mo_116 wm_Mo_of we_Mo_of wi_Mo wo_Mo_of) rfl rfl rfl wq_Mo_of ⟨Nat.le_of_ble_eq_true rfl, Nat.le_of_ble_eq_true rfl⟩) (ka_preV X9 hP hD hS 0 rfl rfl) rfl rfl hl.1 rfl (lv_room (Nat.le_of_ble_eq_true rfl)) d_Mo_file_58 ⟨Nat.le_of_ble_eq_true rfl, Nat.le_of_ble_eq_true rfl⟩) X9 hD hS rfl (fun H locs hP hD hS => ?_)
      refine lv_istore (lv' := [(5, .int v12), (0, .ref (A 60)), (1, .int x1), (2, .int x2), (3, .int x3), (4, .int x4)]) hx hb d_Mo_file_61 hl (by decide) rfl (fun ls hl => ?_)
      refine lv_aload_n hx hb d_Mo_file_63 rfl (lv_at hl 1 rfl) ?_
      refine lv_iload_n hx hb d_Mo_file_64 rfl (lv_at hl 2 rfl) ?_
      refine lv_iload hx hb d_Mo_file_65 (lv_at hl 0 rfl) ?_
      refine lv_aload_n hx hb d_Mo_file_67 rfl (lv_at hl 1 rfl) ?_
      refine lv_iload_n hx hb d_Mo_file_68 rfl (lv_at hl 3 rfl) ?_
      refine lv_iconst (v := 5) hx hb d_Mo_file_69 (by decide) ?_
      obtain ⟨v13, e9, h⟩ := zo_b h
      refine ka_i (va_runV (As := [.int x2, .int 5]) (rest := [.int v12, .int x1, .ref (A 60)]) S9 (c_Mo_of l hl9 D A r _ u1 x2 5 _ e9) (cwV 2 hts (tg_V wl_Mo_116 wm_Mo_of we_Mo_of wi_Mo wo_Mo_of) rfl rfl rfl wq_Mo_of ⟨Nat.le_of_ble_eq_true rfl, Nat.le_of_ble_eq_true rfl⟩) (ka_preV X9 hP hD hS 0 rfl rfl) rfl rfl hl.1 rfl (lv_room (Nat.le_of_ble_eq_true rfl)) d_Mo_file_70 ⟨Nat.le_of_ble_eq_true rfl, Nat.le_of_ble_eq_true rfl⟩) X9 hD hS rfl (fun H locs hP hD hS => ?_)
      refine lv_iload_n hx hb d_Mo_file_73 rfl (lv_at hl 4 rfl) ?_
      refine lv_iconst (v := 0) hx hb d_Mo_file_74 (by decide) ?_
      refine lv_iconst (v := 0) hx hb d_Mo_file_75 (by decide) ?_
      obtain ⟨v14, e9, h⟩ := zo_b h
      refine ka_i (va_runV (As := [.int x1, .int v12, .int v13, .int x3, .int 0, .int 0]) (rest := []) S9 (c_Mo_cell l hl9 D A r _ u1 x1 v12 v13 x3 0 0 _ e9) (cwV 6 hts (tg_V wl_Mo_103 wm_Mo_cell we_Mo_cell wi_Mo wo_Mo_cell) rfl rfl rfl wq_Mo_cell ⟨Nat.le_of_ble_eq_true rfl, Nat.le_of_ble_eq_true rfl⟩) (ka_preV X9 hP hD hS 0 rfl rfl) rfl rfl hl.1 rfl (lv_room (Nat.le_of_ble_eq_true rfl)) d_Mo_file_76 ⟨Nat.le_of_ble_eq_true rfl, Nat.le_of_ble_eq_true rfl⟩) X9 hD hS rfl (fun H locs hP hD hS => ?_)
      refine lv_istore (lv' := [(6, .int v14.1), (5, .int v12), (0, .ref (A 60)), (1, .int x1), (2, .int x2), (3, .int x3), (4, .int x4)]) hx hb d_Mo_file_79 hl (by decide) rfl (fun ls hl => ?_)
      refine lv_aload_n hx hb d_Mo_file_81 rfl (lv_at hl 2 rfl) ?_
      refine va_get (D := D) (ci := 5) (v := .int (gM_code v14.2)) (C := R_Mo) (T := T_Mo) (N := 3) hx hb hts wu_Mo hown hK hP 0 rfl rfl 2 (by decide) (hts _ wf_Mo_16) (fun _ h9 => h9) rfl d_Mo_file_82 ?_
      refine lv_if_ne (tgt := 103) hx hb d_Mo_file_85 (by decide) (fun c15 => ?_) (fun c15 => ?_)
      · replace h := zo_f c15 h
        refine lv_aload_n hx hb d_Mo_file_103 rfl (lv_at hl 2 rfl) ?_
        refine va_get (D := D) (ci := 5) (v := .int (gM_code v14.2)) (C := R_Mo) (T := T_Mo) (N := 3) hx hb hts wu_Mo hown hK hP 0 rfl rfl 2 (by decide) (hts _ wf_Mo_16) (fun _ h9 => h9) rfl d_Mo_file_104 ?_
        refine lv_if_ne (tgt := 129) hx hb d_Mo_file_107 (by decide) (fun _ => ?_) (fun c9 => absurd c9 c15)
        refine lv_iconst (v := 0) hx hb d_Mo_file_129 (by decide) ?_
        refine lv_istore (lv' := [(7, .int 0), (6, .int v14.1), (5, .int v12), (0, .ref (A 60)), (1, .int x1), (2, .int x2), (3, .int x3), (4, .int x4)]) hx hb d_Mo_file_130 hl (by decide) rfl (fun ls hl => ?_)
        refine lv_aload_n hx hb d_Mo_file_132 rfl (lv_at hl 3 rfl) ?_
        refine va_get (D := D) (ci := 5) (v := .int (gM_code v14.2)) (C := R_Mo) (T := T_Mo) (N := 3) hx hb hts wu_Mo hown hK hP 0 rfl rfl 2 (by decide) (hts _ wf_Mo_16) (fun _ h9 => h9) rfl d_Mo_file_133 ?_
        refine lv_if_ne (tgt := 157) hx hb d_Mo_file_136 (by decide) (fun _ => ?_) (fun c9 => absurd c9 c15)
        refine lv_iload hx hb d_Mo_file_157 (lv_at hl 0 rfl) ?_
        cases h
        exact W.iret hx hb hr (fun t ht hW => ⟨⟨_, (), rfl, rfl, ka_at ht hP⟩, hS.F ht⟩) hS.2.2 d_Mo_file_159 hlk
      replace h := zo_t c15 h
      refine lv_iload hx hb d_Mo_file_88 (lv_at hl 0 rfl) ?_
      refine lv_if_eq (tgt := 103) hx hb d_Mo_file_90 (by decide) (fun c16 => ?_) (fun c16 => ?_)
      · replace h := zo_t c16 h
        refine lv_aload_n hx hb d_Mo_file_103 rfl (lv_at hl 2 rfl) ?_
        refine va_get (D := D) (ci := 5) (v := .int (gM_code v14.2)) (C := R_Mo) (T := T_Mo) (N := 3) hx hb hts wu_Mo hown hK hP 0 rfl rfl 2 (by decide) (hts _ wf_Mo_16) (fun _ h9 => h9) rfl d_Mo_file_104 ?_
        refine lv_if_ne (tgt := 129) hx hb d_Mo_file_107 (by decide) (fun c9 => absurd c15 c9) (fun _ => ?_)
        refine lv_aload_n hx hb d_Mo_file_110 rfl (lv_at hl 2 rfl) ?_
        refine lv_iload_n hx hb d_Mo_file_111 rfl (lv_at hl 3 rfl) ?_
        refine lv_iload hx hb d_Mo_file_112 (lv_at hl 1 rfl) ?_
        refine lv_aload_n hx hb d_Mo_file_114 rfl (lv_at hl 2 rfl) ?_
        refine lv_iload hx hb d_Mo_file_115 (lv_at hl 1 rfl) ?_
        refine lv_iconst (v := 2) hx hb d_Mo_file_117 (by decide) ?_
        obtain ⟨v17, e9, h⟩ := zo_b h
        refine ka_i (va_runV (As := [.int v12, .int 2]) (rest := [.int v12, .int x1, .ref (A 60)]) S9 (c_Mo_at l hl9 D A r _ v14.2 v12 2 _ e9) (cwV 2 hts (tg_V wl_Mo_32 wm_Mo_at we_Mo_at wi_Mo wo_Mo_at) rfl rfl rfl wq_Mo_at ⟨Nat.le_of_ble_eq_true rfl, Nat.le_of_ble_eq_true rfl⟩) (ka_preV X9 hP hD hS 0 rfl rfl) rfl rfl hl.1 rfl (lv_room (Nat.le_of_ble_eq_true rfl)) d_Mo_file_118 ⟨Nat.le_of_ble_eq_true rfl, Nat.le_of_ble_eq_true rfl⟩) X9 hD hS rfl (fun H locs hP hD hS => ?_)
        refine lv_iload hx hb d_Mo_file_121 (lv_at hl 6 rfl) ?_
        obtain ⟨v18, e9, h⟩ := zo_b h
        refine ka_i (va_runV (As := [.int x1, .int v12, .int v17, .int x4]) (rest := []) S9 (c_Mo_makeSegment l hl9 D A r _ v14.2 x1 v12 v17 x4 _ e9) (cwV 4 hts (tg_V wl_Mo_92 wm_Mo_makeSegment we_Mo_makeSegment wi_Mo wo_Mo_makeSegment) rfl rfl rfl wq_Mo_makeSegment ⟨Nat.le_of_ble_eq_true rfl, Nat.le_of_ble_eq_true rfl⟩) (ka_preV X9 hP hD hS 0 rfl rfl) rfl rfl hl.1 rfl (lv_room (Nat.le_of_ble_eq_true rfl)) d_Mo_file_123 ⟨Nat.le_of_ble_eq_true rfl, Nat.le_of_ble_eq_true rfl⟩) X9 hD hS rfl (fun H locs hP hD hS => ?_)
        refine lv_goto (tgt := 130) hx hb d_Mo_file_126 (by decide) ?_
        refine lv_istore (lv' := [(7, .int v18.1), (6, .int v14.1), (5, .int v12), (0, .ref (A 60)), (1, .int x1), (2, .int x2), (3, .int x3), (4, .int x4)]) hx hb d_Mo_file_130 hl (by decide) rfl (fun ls hl => ?_)
        refine lv_aload_n hx hb d_Mo_file_132 rfl (lv_at hl 3 rfl) ?_
        refine va_get (D := D) (ci := 5) (v := .int (gM_code v18.2)) (C := R_Mo) (T := T_Mo) (N := 3) hx hb hts wu_Mo hown hK hP 0 rfl rfl 2 (by decide) (hts _ wf_Mo_16) (fun _ h9 => h9) rfl d_Mo_file_133 ?_
        refine lv_if_ne (tgt := 157) hx hb d_Mo_file_136 (by decide) (fun c19 => ?_) (fun c19 => ?_)
        · replace h := zo_f c19 h
          refine lv_iload hx hb d_Mo_file_157 (lv_at hl 0 rfl) ?_
          cases h
          exact W.iret hx hb hr (fun t ht hW => ⟨⟨_, (), rfl, rfl, ka_at ht hP⟩, hS.F ht⟩) hS.2.2 d_Mo_file_159 hlk
        replace h := zo_t c19 h
        refine lv_aload_n hx hb d_Mo_file_139 rfl (lv_at hl 3 rfl) ?_
        refine lv_iload_n hx hb d_Mo_file_140 rfl (lv_at hl 4 rfl) ?_
        refine lv_iload hx hb d_Mo_file_141 (lv_at hl 2 rfl) ?_
        refine lv_aload_n hx hb d_Mo_file_143 rfl (lv_at hl 3 rfl) ?_
        refine lv_iload_n hx hb d_Mo_file_144 rfl (lv_at hl 5 rfl) ?_
        refine lv_iconst (v := 5) hx hb d_Mo_file_145 (by decide) ?_
        obtain ⟨v20, e9, h⟩ := zo_b h
        refine ka_i (va_runV (As := [.int x2, .int 5]) (rest := [.int v12, .int x1, .ref (A 60)]) S9 (c_Mo_of l hl9 D A r _ v18.2 x2 5 _ e9) (cwV 2 hts (tg_V wl_Mo_116 wm_Mo_of we_Mo_of wi_Mo wo_Mo_of) rfl rfl rfl wq_Mo_of ⟨Nat.le_of_ble_eq_true rfl, Nat.le_of_ble_eq_true rfl⟩) (ka_preV X9 hP hD hS 0 rfl rfl) rfl rfl hl.1 rfl (lv_room (Nat.le_of_ble_eq_true rfl)) d_Mo_file_146 ⟨Nat.le_of_ble_eq_true rfl, Nat.le_of_ble_eq_true rfl⟩) X9 hD hS rfl (fun H locs hP hD hS => ?_)
        refine lv_iload_n hx hb d_Mo_file_149 rfl (lv_at hl 6 rfl) ?_
        refine lv_iconst (v := 1) hx hb d_Mo_file_150 (by decide) ?_
        refine lv_iload hx hb d_Mo_file_151 (lv_at hl 0 rfl) ?_
        obtain ⟨v21, e9, h⟩ := zo_b h
        refine ka_i (va_runV (As := [.int x1, .int v12, .int v20, .int x3, .int 1, .int v18.1]) (rest := []) S9 (c_Mo_cell l hl9 D A r _ v18.2 x1 v12 v20 x3 1 v18.1 _ e9) (cwV 6 hts (tg_V wl_Mo_103 wm_Mo_cell we_Mo_cell wi_Mo wo_Mo_cell) rfl rfl rfl wq_Mo_cell ⟨Nat.le_of_ble_eq_true rfl, Nat.le_of_ble_eq_true rfl⟩) (ka_preV X9 hP hD hS 0 rfl rfl) rfl rfl hl.1 rfl (lv_room (Nat.le_of_ble_eq_true rfl)) d_Mo_file_153 ⟨Nat.le_of_ble_eq_true rfl, Nat.le_of_ble_eq_true rfl⟩) X9 hD hS rfl (fun H locs hP hD hS => ?_)
        refine lv_pop hx hb d_Mo_file_156 rfl ?_
        refine lv_iload hx hb d_Mo_file_157 (lv_at hl 0 rfl) ?_
        cases h
        exact W.iret hx hb hr (fun t ht hW => ⟨⟨_, (), rfl, rfl, ka_at ht hP⟩, hS.F ht⟩) hS.2.2 d_Mo_file_159 hlk
      replace h := zo_f c16 h
      refine lv_aload_n hx hb d_Mo_file_93 rfl (lv_at hl 2 rfl) ?_
      refine lv_iload_n hx hb d_Mo_file_94 rfl (lv_at hl 3 rfl) ?_
      refine lv_iload hx hb d_Mo_file_95 (lv_at hl 1 rfl) ?_
      refine lv_iload hx hb d_Mo_file_97 (lv_at hl 0 rfl) ?_
      obtain ⟨v22, e9, h⟩ := zo_b h
      refine ka_i (va_runV (As := [.int x1, .int v12, .int v14.1]) (rest := []) S9 (c_Mo_remove l hl9 D A r _ v14.2 x1 v12 v14.1 _ e9) (cwV 3 hts (tg_V wl_Mo_107 wm_Mo_remove we_Mo_remove wi_Mo wo_Mo_remove) rfl rfl rfl wq_Mo_remove ⟨Nat.le_of_ble_eq_true rfl, Nat.le_of_ble_eq_true rfl⟩) (ka_preV X9 hP hD hS 0 rfl rfl) rfl rfl hl.1 rfl (lv_room (Nat.le_of_ble_eq_true rfl)) d_Mo_file_99 ⟨Nat.le_of_ble_eq_true rfl, Nat.le_of_ble_eq_true rfl⟩) X9 hD hS rfl (fun H locs hP hD hS => ?_)
      refine lv_pop hx hb d_Mo_file_102 rfl ?_
      refine lv_aload_n hx hb d_Mo_file_103 rfl (lv_at hl 2 rfl) ?_
      refine va_get (D := D) (ci := 5) (v := .int (gM_code v22.2)) (C := R_Mo) (T := T_Mo) (N := 3) hx hb hts wu_Mo hown hK hP 0 rfl rfl 2 (by decide) (hts _ wf_Mo_16) (fun _ h9 => h9) rfl d_Mo_file_104 ?_
      refine lv_if_ne (tgt := 129) hx hb d_Mo_file_107 (by decide) (fun c23 => ?_) (fun c23 => ?_)
      · replace h := zo_f c23 h
        refine lv_iconst (v := 0) hx hb d_Mo_file_129 (by decide) ?_
        refine lv_istore (lv' := [(7, .int 0), (6, .int v14.1), (5, .int v12), (0, .ref (A 60)), (1, .int x1), (2, .int x2), (3, .int x3), (4, .int x4)]) hx hb d_Mo_file_130 hl (by decide) rfl (fun ls hl => ?_)
        refine lv_aload_n hx hb d_Mo_file_132 rfl (lv_at hl 3 rfl) ?_
        refine va_get (D := D) (ci := 5) (v := .int (gM_code v22.2)) (C := R_Mo) (T := T_Mo) (N := 3) hx hb hts wu_Mo hown hK hP 0 rfl rfl 2 (by decide) (hts _ wf_Mo_16) (fun _ h9 => h9) rfl d_Mo_file_133 ?_
        refine lv_if_ne (tgt := 157) hx hb d_Mo_file_136 (by decide) (fun _ => ?_) (fun c9 => absurd c9 c23)
        refine lv_iload hx hb d_Mo_file_157 (lv_at hl 0 rfl) ?_
        cases h
        exact W.iret hx hb hr (fun t ht hW => ⟨⟨_, (), rfl, rfl, ka_at ht hP⟩, hS.F ht⟩) hS.2.2 d_Mo_file_159 hlk
      replace h := zo_t c23 h
      refine lv_aload_n hx hb d_Mo_file_110 rfl (lv_at hl 2 rfl) ?_
      refine lv_iload_n hx hb d_Mo_file_111 rfl (lv_at hl 3 rfl) ?_
      refine lv_iload hx hb d_Mo_file_112 (lv_at hl 1 rfl) ?_
      refine lv_aload_n hx hb d_Mo_file_114 rfl (lv_at hl 2 rfl) ?_
      refine lv_iload hx hb d_Mo_file_115 (lv_at hl 1 rfl) ?_
      refine lv_iconst (v := 2) hx hb d_Mo_file_117 (by decide) ?_
      obtain ⟨v24, e9, h⟩ := zo_b h
      refine ka_i (va_runV (As := [.int v12, .int 2]) (rest := [.int v12, .int x1, .ref (A 60)]) S9 (c_Mo_at l hl9 D A r _ v22.2 v12 2 _ e9) (cwV 2 hts (tg_V wl_Mo_32 wm_Mo_at we_Mo_at wi_Mo wo_Mo_at) rfl rfl rfl wq_Mo_at ⟨Nat.le_of_ble_eq_true rfl, Nat.le_of_ble_eq_true rfl⟩) (ka_preV X9 hP hD hS 0 rfl rfl) rfl rfl hl.1 rfl (lv_room (Nat.le_of_ble_eq_true rfl)) d_Mo_file_118 ⟨Nat.le_of_ble_eq_true rfl, Nat.le_of_ble_eq_true rfl⟩) X9 hD hS rfl (fun H locs hP hD hS => ?_)
      refine lv_iload hx hb d_Mo_file_121 (lv_at hl 6 rfl) ?_
      obtain ⟨v25, e9, h⟩ := zo_b h
      refine ka_i (va_runV (As := [.int x1, .int v12, .int v24, .int x4]) (rest := []) S9 (c_Mo_makeSegment l hl9 D A r _ v22.2 x1 v12 v24 x4 _ e9) (cwV 4 hts (tg_V wl_Mo_92 wm_Mo_makeSegment we_Mo_makeSegment wi_Mo wo_Mo_makeSegment) rfl rfl rfl wq_Mo_makeSegment ⟨Nat.le_of_ble_eq_true rfl, Nat.le_of_ble_eq_true rfl⟩) (ka_preV X9 hP hD hS 0 rfl rfl) rfl rfl hl.1 rfl (lv_room (Nat.le_of_ble_eq_true rfl)) d_Mo_file_123 ⟨Nat.le_of_ble_eq_true rfl, Nat.le_of_ble_eq_true rfl⟩) X9 hD hS rfl (fun H locs hP hD hS => ?_)
      refine lv_goto (tgt := 130) hx hb d_Mo_file_126 (by decide) ?_
      refine lv_istore (lv' := [(7, .int v25.1), (6, .int v14.1), (5, .int v12), (0, .ref (A 60)), (1, .int x1), (2, .int x2), (3, .int x3), (4, .int x4)]) hx hb d_Mo_file_130 hl (by decide) rfl (fun ls hl => ?_)
      refine lv_aload_n hx hb d_Mo_file_132 rfl (lv_at hl 3 rfl) ?_
      refine va_get (D := D) (ci := 5) (v := .int (gM_code v25.2)) (C := R_Mo) (T := T_Mo) (N := 3) hx hb hts wu_Mo hown hK hP 0 rfl rfl 2 (by decide) (hts _ wf_Mo_16) (fun _ h9 => h9) rfl d_Mo_file_133 ?_
      refine lv_if_ne (tgt := 157) hx hb d_Mo_file_136 (by decide) (fun c26 => ?_) (fun c26 => ?_)
      · replace h := zo_f c26 h
        refine lv_iload hx hb d_Mo_file_157 (lv_at hl 0 rfl) ?_
        cases h
        exact W.iret hx hb hr (fun t ht hW => ⟨⟨_, (), rfl, rfl, ka_at ht hP⟩, hS.F ht⟩) hS.2.2 d_Mo_file_159 hlk
      replace h := zo_t c26 h
      refine lv_aload_n hx hb d_Mo_file_139 rfl (lv_at hl 3 rfl) ?_
      refine lv_iload_n hx hb d_Mo_file_140 rfl (lv_at hl 4 rfl) ?_
      refine lv_iload hx hb d_Mo_file_141 (lv_at hl 2 rfl) ?_
      refine lv_aload_n hx hb d_Mo_file_143 rfl (lv_at hl 3 rfl) ?_
      refine lv_iload_n hx hb d_Mo_file_144 rfl (lv_at hl 5 rfl) ?_
      refine lv_iconst (v := 5) hx hb d_Mo_file_145 (by decide) ?_
      obtain ⟨v27, e9, h⟩ := zo_b h
      refine ka_i (va_runV (As := [.int x2, .int 5]) (rest := [.int v12, .int x1, .ref (A 60)]) S9 (c_Mo_of l hl9 D A r _ v25.2 x2 5 _ e9) (cwV 2 hts (tg_V wl_Mo_116 wm_Mo_of we_Mo_of wi_Mo wo_Mo_of) rfl rfl rfl wq_Mo_of ⟨Nat.le_of_ble_eq_true rfl, Nat.le_of_ble_eq_true rfl⟩) (ka_preV X9 hP hD hS 0 rfl rfl) rfl rfl hl.1 rfl (lv_room (Nat.le_of_ble_eq_true rfl)) d_Mo_file_146 ⟨Nat.le_of_ble_eq_true rfl, Nat.le_of_ble_eq_true rfl⟩) X9 hD hS rfl (fun H locs hP hD hS => ?_)
      refine lv_iload_n hx hb d_Mo_file_149 rfl (lv_at hl 6 rfl) ?_
      refine lv_iconst (v := 1) hx hb d_Mo_file_150 (by decide) ?_
      refine lv_iload hx hb d_Mo_file_151 (lv_at hl 0 rfl) ?_
      obtain ⟨v28, e9, h⟩ := zo_b h
      refine ka_i (va_runV (As := [.int x1, .int v12, .int v27, .int x3, .int 1, .int v25.1]) (rest := []) S9 (c_Mo_cell l hl9 D A r _ v25.2 x1 v12 v27 x3 1 v25.1 _ e9) (cwV 6 hts (tg_V wl_Mo_103 wm_Mo_cell we_Mo_cell wi_Mo wo_Mo_cell) rfl rfl rfl wq_Mo_cell ⟨Nat.le_of_ble_eq_true rfl, Nat.le_of_ble_eq_true rfl⟩) (ka_preV X9 hP hD hS 0 rfl rfl) rfl rfl hl.1 rfl (lv_room (Nat.le_of_ble_eq_true rfl)) d_Mo_file_153 ⟨Nat.le_of_ble_eq_true rfl, Nat.le_of_ble_eq_true rfl⟩) X9 hD hS rfl (fun H locs hP hD hS => ?_)
      refine lv_pop hx hb d_Mo_file_156 rfl ?_
      refine lv_iload hx hb d_Mo_file_157 (lv_at hl 0 rfl) ?_
      cases h
      exact W.iret hx hb hr (fun t ht hW => ⟨⟨_, (), rfl, rfl, ka_at ht hP⟩, hS.F ht⟩) hS.2.2 d_Mo_file_159 hlk
    replace h := zo_t c11 h
    refine lv_aload_n hx hb d_Mo_file_49 rfl (lv_at hl 0 rfl) ?_
    refine lv_iconst (v := 2) hx hb d_Mo_file_50 (by decide) ?_
    obtain ⟨v29, e9, h⟩ := zo_b h
    refine ka_i (va_runV (As := [.int 2]) (rest := []) S9 (c_Mo_fail l hl9 D A r _ u1 2 _ e9) (cwV 1 hts (tg_V wl_Mo_51 wm_Mo_fail we_Mo_fail wi_Mo wo_Mo_fail) rfl rfl rfl wq_Mo_fail ⟨Nat.le_of_ble_eq_true rfl, Nat.le_of_ble_eq_true rfl⟩) (ka_preV X9 hP hD hS 0 rfl rfl) rfl rfl hl.1 rfl (lv_room (Nat.le_of_ble_eq_true rfl)) d_Mo_file_51 ⟨Nat.le_of_ble_eq_true rfl, Nat.le_of_ble_eq_true rfl⟩) X9 hD hS rfl (fun H locs hP hD hS => ?_)
    cases h
    exact W.iret hx hb hr (fun t ht hW => ⟨⟨_, (), rfl, rfl, ka_at ht hP⟩, hS.F ht⟩) hS.2.2 d_Mo_file_54 hlk
  replace h := zo_t c9 h
  refine lv_aload_n hx hb d_Mo_file_34 rfl (lv_at hl 0 rfl) ?_
  refine lv_iconst (v := 1) hx hb d_Mo_file_35 (by decide) ?_
  obtain ⟨v30, e9, h⟩ := zo_b h
  refine ka_i (va_runV (As := [.int 1]) (rest := []) S9 (c_Mo_fail l hl9 D A r _ u1 1 _ e9) (cwV 1 hts (tg_V wl_Mo_51 wm_Mo_fail we_Mo_fail wi_Mo wo_Mo_fail) rfl rfl rfl wq_Mo_fail ⟨Nat.le_of_ble_eq_true rfl, Nat.le_of_ble_eq_true rfl⟩) (ka_preV X9 hP hD hS 0 rfl rfl) rfl rfl hl.1 rfl (lv_room (Nat.le_of_ble_eq_true rfl)) d_Mo_file_36 ⟨Nat.le_of_ble_eq_true rfl, Nat.le_of_ble_eq_true rfl⟩) X9 hD hS rfl (fun H locs hP hD hS => ?_)
  cases h
  exact W.iret hx hb hr (fun t ht hW => ⟨⟨_, (), rfl, rfl, ka_at ht hP⟩, hS.F ht⟩) hS.2.2 d_Mo_file_39 hlk
def f_Mo_access (σ : RS) (x1 x2 x3 x4 x5 x6 : Int32) : Option (Int32 × RS) := zl (sM_code σ 0) fun u1 => (f_Mo_within x2 0 3).bind fun v2 => if v2 = 0 then ((f_Mo_fail u1 1).bind fun v4 => some (v4.1, v4.2)) else ((f_Mo_within x3 0 3).bind fun v5 => if v5 = 0 then ((f_Mo_fail u1 1).bind fun v7 => some (v7.1, v7.2)) else ((f_Mo_within x4 0 7).bind fun v8 => if v8 = 0 then ((f_Mo_fail u1 1).bind fun v20 => some (v20.1, v20.2)) else ((f_Mo_of u1 x2 0).bind fun v10 => if v10 = 0 then ((f_Mo_fail u1 2).bind fun v19 => some (v19.1, v19.2)) else ((f_Mo_of u1 x2 4).bind fun v12 => (f_Mo_of u1 x2 5).bind fun v13 => (f_Mo_cell u1 x1 v12 v13 x3 0 0).bind fun v14 => if (gM_code v14.2) = 0 then (if v14.1 = 0 then ((f_Mo_fail v14.2 2).bind fun v18 => some (v18.1, v18.2)) else ((f_Mo_cell v14.2 x1 v12 v14.1 x4 x5 x6).bind fun v17 => some (v17.1, v17.2))) else (some (0, v14.2))))))
set_option maxRecDepth 100000 in
set_option maxHeartbeats 4000000 in
theorem c_Mo_access (l : Launch) (hl9 : l.stackTraces = false) (D : va_G) (A : Nat → Nat) (r : va_W) (sz : Nat) (σ : RS) (x1 x2 x3 x4 x5 x6 : Int32) (z : Int32 × RS) (h : f_Mo_access σ x1 x2 x3 x4 x5 x6 = some z) : Met l y_Mo_access (Cond.code y_Mo_access b_Mo_access 9 (some .int) :: T0) ({ frames := 5, cells := 0, slots := 0, locals := 119 } : Room) (va_Pc [.ref (A 60), .int x1, .int x2, .int x3, .int x4, .int x5, .int x6] (ka_Wd D A (MW A σ r) sz)) (ka_Ri D z.1 (MW A z.2 r) (va_A (MW A σ r) sz)) 0 0 (va_A (MW A σ r) sz) := by
  unfold f_Mo_access at h
  refine ka_of (own := R_Mo) (fun A9 => ka_Ri D z.1 (MW A z.2 r) A9) (by decide) rfl (Nat.le_of_ble_eq_true rfl) ?_
  intro p e s m below meth c A9 ls S9 hr hlk hex X9 hP hD hl
  obtain ⟨hx, hb, hml, hown, hts⟩ := id S9
  have hK := X9.2.1
  have hS : va_S A9 s.heap s.heap [] := va_S.rf
  replace hl : lv_has ls 9 [(0, .ref (A 60)), (1, .int x1), (2, .int x2), (3, .int x3), (4, .int x4), (5, .int x5), (6, .int x6)] := hl
  refine lv_aload_n hx hb d_Mo_access_0 rfl (lv_at hl 0 rfl) ?_
  refine lv_iconst (v := 0) hx hb d_Mo_access_1 (by decide) ?_
  obtain ⟨u1, hu9, h⟩ := zo_l h
  refine va_put (D := D) (ci := 5) (v := .int 0) (ty := .int) (C := R_Mo) (T := T_Mo) (N := 3) hx hb hts wu_Mo ft_Mo fk_Mo nm_Mo hown hK hP hD hS 0 rfl rfl 2 (by decide) (hts _ wf_Mo_16) (fun _ h9 => h9) rfl (by decide +kernel) rfl rfl (Nat.le_of_ble_eq_true rfl) d_Mo_access_2 (fun H locs hP hD hS => ?_)
  replace hP : va_P D vwCl (MW A u1 r) H := by rw [hu9]; exact hP
  replace hD : va_D A9 (MW A u1 r) := by rw [hu9]; exact hD
  refine lv_iload_n hx hb d_Mo_access_5 rfl (lv_at hl 2 rfl) ?_
  refine lv_iconst (v := 0) hx hb d_Mo_access_6 (by decide) ?_
  refine lv_iconst (v := 3) hx hb d_Mo_access_7 (by decide) ?_
  obtain ⟨v2, e9, h⟩ := zo_b h
  refine ka_i (va_runS (As := [.int x2, .int 0, .int 3]) (rest := []) S9 (c_Mo_within l hl9 D A (MW A u1 r) _ x2 0 3 _ e9) (cwS 3 hts (tg_S wl_Mo_28 ws_Mo_within wi_Mo wo_Mo_within) rfl rfl rfl wq_Mo_within ⟨Nat.le_of_ble_eq_true rfl, Nat.le_of_ble_eq_true rfl⟩) (ka_preS X9 hP hD hS) rfl rfl hl.1 rfl (lv_room (Nat.le_of_ble_eq_true rfl)) d_Mo_access_8 ⟨Nat.le_of_ble_eq_true rfl, Nat.le_of_ble_eq_true rfl⟩) X9 hD hS rfl (fun H locs hP hD hS => ?_)
  refine lv_if_eq (tgt := 34) hx hb d_Mo_access_11 (by decide) (fun c3 => ?_) (fun c3 => ?_)
  · replace h := zo_t c3 h
    refine lv_aload_n hx hb d_Mo_access_34 rfl (lv_at hl 0 rfl) ?_
    refine lv_iconst (v := 1) hx hb d_Mo_access_35 (by decide) ?_
    obtain ⟨v4, e9, h⟩ := zo_b h
    refine ka_i (va_runV (As := [.int 1]) (rest := []) S9 (c_Mo_fail l hl9 D A r _ u1 1 _ e9) (cwV 1 hts (tg_V wl_Mo_51 wm_Mo_fail we_Mo_fail wi_Mo wo_Mo_fail) rfl rfl rfl wq_Mo_fail ⟨Nat.le_of_ble_eq_true rfl, Nat.le_of_ble_eq_true rfl⟩) (ka_preV X9 hP hD hS 0 rfl rfl) rfl rfl hl.1 rfl (lv_room (Nat.le_of_ble_eq_true rfl)) d_Mo_access_36 ⟨Nat.le_of_ble_eq_true rfl, Nat.le_of_ble_eq_true rfl⟩) X9 hD hS rfl (fun H locs hP hD hS => ?_)
    cases h
    exact W.iret hx hb hr (fun t ht hW => ⟨⟨_, (), rfl, rfl, ka_at ht hP⟩, hS.F ht⟩) hS.2.2 d_Mo_access_39 hlk
  replace h := zo_f c3 h
  refine lv_iload_n hx hb d_Mo_access_14 rfl (lv_at hl 3 rfl) ?_
  refine lv_iconst (v := 0) hx hb d_Mo_access_15 (by decide) ?_
  refine lv_iconst (v := 3) hx hb d_Mo_access_16 (by decide) ?_
  obtain ⟨v5, e9, h⟩ := zo_b h
  refine ka_i (va_runS (As := [.int x3, .int 0, .int 3]) (rest := []) S9 (c_Mo_within l hl9 D A (MW A u1 r) _ x3 0 3 _ e9) (cwS 3 hts (tg_S wl_Mo_28 ws_Mo_within wi_Mo wo_Mo_within) rfl rfl rfl wq_Mo_within ⟨Nat.le_of_ble_eq_true rfl, Nat.le_of_ble_eq_true rfl⟩) (ka_preS X9 hP hD hS) rfl rfl hl.1 rfl (lv_room (Nat.le_of_ble_eq_true rfl)) d_Mo_access_17 ⟨Nat.le_of_ble_eq_true rfl, Nat.le_of_ble_eq_true rfl⟩) X9 hD hS rfl (fun H locs hP hD hS => ?_)
  refine lv_if_eq (tgt := 34) hx hb d_Mo_access_20 (by decide) (fun c6 => ?_) (fun c6 => ?_)
  · replace h := zo_t c6 h
    refine lv_aload_n hx hb d_Mo_access_34 rfl (lv_at hl 0 rfl) ?_
    refine lv_iconst (v := 1) hx hb d_Mo_access_35 (by decide) ?_
    obtain ⟨v7, e9, h⟩ := zo_b h
    refine ka_i (va_runV (As := [.int 1]) (rest := []) S9 (c_Mo_fail l hl9 D A r _ u1 1 _ e9) (cwV 1 hts (tg_V wl_Mo_51 wm_Mo_fail we_Mo_fail wi_Mo wo_Mo_fail) rfl rfl rfl wq_Mo_fail ⟨Nat.le_of_ble_eq_true rfl, Nat.le_of_ble_eq_true rfl⟩) (ka_preV X9 hP hD hS 0 rfl rfl) rfl rfl hl.1 rfl (lv_room (Nat.le_of_ble_eq_true rfl)) d_Mo_access_36 ⟨Nat.le_of_ble_eq_true rfl, Nat.le_of_ble_eq_true rfl⟩) X9 hD hS rfl (fun H locs hP hD hS => ?_)
    cases h
    exact W.iret hx hb hr (fun t ht hW => ⟨⟨_, (), rfl, rfl, ka_at ht hP⟩, hS.F ht⟩) hS.2.2 d_Mo_access_39 hlk
  replace h := zo_f c6 h
  refine lv_iload hx hb d_Mo_access_23 (lv_at hl 4 rfl) ?_
  refine lv_iconst (v := 0) hx hb d_Mo_access_25 (by decide) ?_
  refine lv_bipush (v := 7) hx hb d_Mo_access_26 (by decide) ?_
  obtain ⟨v8, e9, h⟩ := zo_b h
  refine ka_i (va_runS (As := [.int x4, .int 0, .int 7]) (rest := []) S9 (c_Mo_within l hl9 D A (MW A u1 r) _ x4 0 7 _ e9) (cwS 3 hts (tg_S wl_Mo_28 ws_Mo_within wi_Mo wo_Mo_within) rfl rfl rfl wq_Mo_within ⟨Nat.le_of_ble_eq_true rfl, Nat.le_of_ble_eq_true rfl⟩) (ka_preS X9 hP hD hS) rfl rfl hl.1 rfl (lv_room (Nat.le_of_ble_eq_true rfl)) d_Mo_access_28 ⟨Nat.le_of_ble_eq_true rfl, Nat.le_of_ble_eq_true rfl⟩) X9 hD hS rfl (fun H locs hP hD hS => ?_)
  refine lv_if_ne (tgt := 40) hx hb d_Mo_access_31 (by decide) (fun c9 => ?_) (fun c9 => ?_)
  · replace h := zo_f c9 h
    refine lv_aload_n hx hb d_Mo_access_40 rfl (lv_at hl 0 rfl) ?_
    refine lv_iload_n hx hb d_Mo_access_41 rfl (lv_at hl 2 rfl) ?_
    refine lv_iconst (v := 0) hx hb d_Mo_access_42 (by decide) ?_
    obtain ⟨v10, e9, h⟩ := zo_b h
    refine ka_i (va_runV (As := [.int x2, .int 0]) (rest := []) S9 (c_Mo_of l hl9 D A r _ u1 x2 0 _ e9) (cwV 2 hts (tg_V wl_Mo_116 wm_Mo_of we_Mo_of wi_Mo wo_Mo_of) rfl rfl rfl wq_Mo_of ⟨Nat.le_of_ble_eq_true rfl, Nat.le_of_ble_eq_true rfl⟩) (ka_preV X9 hP hD hS 0 rfl rfl) rfl rfl hl.1 rfl (lv_room (Nat.le_of_ble_eq_true rfl)) d_Mo_access_43 ⟨Nat.le_of_ble_eq_true rfl, Nat.le_of_ble_eq_true rfl⟩) X9 hD hS rfl (fun H locs hP hD hS => ?_)
    refine lv_if_ne (tgt := 55) hx hb d_Mo_access_46 (by decide) (fun c11 => ?_) (fun c11 => ?_)
    · replace h := zo_f c11 h
      refine lv_aload_n hx hb d_Mo_access_55 rfl (lv_at hl 0 rfl) ?_
      refine lv_iload_n hx hb d_Mo_access_56 rfl (lv_at hl 2 rfl) ?_
      refine lv_iconst (v := 4) hx hb d_Mo_access_57 (by decide) ?_
      obtain ⟨v12, e9, h⟩ := zo_b h
      refine ka_i (va_runV (As := [.int x2, .int 4]) (rest := []) S9 (c_Mo_of l hl9 D A r _ u1 x2 4 _ e9) (cwV 2 hts (tg_V wl_Mo_116 wm_Mo_of we_Mo_of wi_Mo wo_Mo_of) rfl rfl rfl wq_Mo_of ⟨Nat.le_of_ble_eq_true rfl, Nat.le_of_ble_eq_true rfl⟩) (ka_preV X9 hP hD hS 0 rfl rfl) rfl rfl hl.1 rfl (lv_room (Nat.le_of_ble_eq_true rfl)) d_Mo_access_58 ⟨Nat.le_of_ble_eq_true rfl, Nat.le_of_ble_eq_true rfl⟩) X9 hD hS rfl (fun H locs hP hD hS => ?_)
      refine lv_istore (lv' := [(7, .int v12), (0, .ref (A 60)), (1, .int x1), (2, .int x2), (3, .int x3), (4, .int x4), (5, .int x5), (6, .int x6)]) hx hb d_Mo_access_61 hl (by decide) rfl (fun ls hl => ?_)
      refine lv_aload_n hx hb d_Mo_access_63 rfl (lv_at hl 1 rfl) ?_
      refine lv_iload_n hx hb d_Mo_access_64 rfl (lv_at hl 2 rfl) ?_
      refine lv_iload hx hb d_Mo_access_65 (lv_at hl 0 rfl) ?_
      refine lv_aload_n hx hb d_Mo_access_67 rfl (lv_at hl 1 rfl) ?_
      refine lv_iload_n hx hb d_Mo_access_68 rfl (lv_at hl 3 rfl) ?_
      refine lv_iconst (v := 5) hx hb d_Mo_access_69 (by decide) ?_
      obtain ⟨v13, e9, h⟩ := zo_b h
      refine ka_i (va_runV (As := [.int x2, .int 5]) (rest := [.int v12, .int x1, .ref (A 60)]) S9 (c_Mo_of l hl9 D A r _ u1 x2 5 _ e9) (cwV 2 hts (tg_V wl_Mo_116 wm_Mo_of we_Mo_of wi_Mo wo_Mo_of) rfl rfl rfl wq_Mo_of ⟨Nat.le_of_ble_eq_true rfl, Nat.le_of_ble_eq_true rfl⟩) (ka_preV X9 hP hD hS 0 rfl rfl) rfl rfl hl.1 rfl (lv_room (Nat.le_of_ble_eq_true rfl)) d_Mo_access_70 ⟨Nat.le_of_ble_eq_true rfl, Nat.le_of_ble_eq_true rfl⟩) X9 hD hS rfl (fun H locs hP hD hS => ?_)
      refine lv_iload_n hx hb d_Mo_access_73 rfl (lv_at hl 4 rfl) ?_
      refine lv_iconst (v := 0) hx hb d_Mo_access_74 (by decide) ?_
      refine lv_iconst (v := 0) hx hb d_Mo_access_75 (by decide) ?_
      obtain ⟨v14, e9, h⟩ := zo_b h
      refine ka_i (va_runV (As := [.int x1, .int v12, .int v13, .int x3, .int 0, .int 0]) (rest := []) S9 (c_Mo_cell l hl9 D A r _ u1 x1 v12 v13 x3 0 0 _ e9) (cwV 6 hts (tg_V wl_Mo_103 wm_Mo_cell we_Mo_cell wi_Mo wo_Mo_cell) rfl rfl rfl wq_Mo_cell ⟨Nat.le_of_ble_eq_true rfl, Nat.le_of_ble_eq_true rfl⟩) (ka_preV X9 hP hD hS 0 rfl rfl) rfl rfl hl.1 rfl (lv_room (Nat.le_of_ble_eq_true rfl)) d_Mo_access_76 ⟨Nat.le_of_ble_eq_true rfl, Nat.le_of_ble_eq_true rfl⟩) X9 hD hS rfl (fun H locs hP hD hS => ?_)
      refine lv_istore (lv' := [(8, .int v14.1), (7, .int v12), (0, .ref (A 60)), (1, .int x1), (2, .int x2), (3, .int x3), (4, .int x4), (5, .int x5), (6, .int x6)]) hx hb d_Mo_access_79 hl (by decide) rfl (fun ls hl => ?_)
      refine lv_aload_n hx hb d_Mo_access_81 rfl (lv_at hl 2 rfl) ?_
      refine va_get (D := D) (ci := 5) (v := .int (gM_code v14.2)) (C := R_Mo) (T := T_Mo) (N := 3) hx hb hts wu_Mo hown hK hP 0 rfl rfl 2 (by decide) (hts _ wf_Mo_16) (fun _ h9 => h9) rfl d_Mo_access_82 ?_
      refine lv_if_ne (tgt := 99) hx hb d_Mo_access_85 (by decide) (fun c15 => ?_) (fun c15 => ?_)
      · replace h := zo_f c15 h
        refine lv_aload_n hx hb d_Mo_access_99 rfl (lv_at hl 2 rfl) ?_
        refine va_get (D := D) (ci := 5) (v := .int (gM_code v14.2)) (C := R_Mo) (T := T_Mo) (N := 3) hx hb hts wu_Mo hown hK hP 0 rfl rfl 2 (by decide) (hts _ wf_Mo_16) (fun _ h9 => h9) rfl d_Mo_access_100 ?_
        refine lv_if_ne (tgt := 124) hx hb d_Mo_access_103 (by decide) (fun _ => ?_) (fun c9 => absurd c9 c15)
        refine lv_iconst (v := 0) hx hb d_Mo_access_124 (by decide) ?_
        cases h
        exact W.iret hx hb hr (fun t ht hW => ⟨⟨_, (), rfl, rfl, ka_at ht hP⟩, hS.F ht⟩) hS.2.2 d_Mo_access_125 hlk
      replace h := zo_t c15 h
      refine lv_iload hx hb d_Mo_access_88 (lv_at hl 0 rfl) ?_
      refine lv_if_ne (tgt := 99) hx hb d_Mo_access_90 (by decide) (fun c16 => ?_) (fun c16 => ?_)
      · replace h := zo_f c16 h
        refine lv_aload_n hx hb d_Mo_access_99 rfl (lv_at hl 2 rfl) ?_
        refine va_get (D := D) (ci := 5) (v := .int (gM_code v14.2)) (C := R_Mo) (T := T_Mo) (N := 3) hx hb hts wu_Mo hown hK hP 0 rfl rfl 2 (by decide) (hts _ wf_Mo_16) (fun _ h9 => h9) rfl d_Mo_access_100 ?_
        refine lv_if_ne (tgt := 124) hx hb d_Mo_access_103 (by decide) (fun c9 => absurd c15 c9) (fun _ => ?_)
        refine lv_aload_n hx hb d_Mo_access_106 rfl (lv_at hl 2 rfl) ?_
        refine lv_iload_n hx hb d_Mo_access_107 rfl (lv_at hl 3 rfl) ?_
        refine lv_iload hx hb d_Mo_access_108 (lv_at hl 1 rfl) ?_
        refine lv_iload hx hb d_Mo_access_110 (lv_at hl 0 rfl) ?_
        refine lv_iload hx hb d_Mo_access_112 (lv_at hl 6 rfl) ?_
        refine lv_iload hx hb d_Mo_access_114 (lv_at hl 7 rfl) ?_
        refine lv_iload hx hb d_Mo_access_116 (lv_at hl 8 rfl) ?_
        obtain ⟨v17, e9, h⟩ := zo_b h
        refine ka_i (va_runV (As := [.int x1, .int v12, .int v14.1, .int x4, .int x5, .int x6]) (rest := []) S9 (c_Mo_cell l hl9 D A r _ v14.2 x1 v12 v14.1 x4 x5 x6 _ e9) (cwV 6 hts (tg_V wl_Mo_103 wm_Mo_cell we_Mo_cell wi_Mo wo_Mo_cell) rfl rfl rfl wq_Mo_cell ⟨Nat.le_of_ble_eq_true rfl, Nat.le_of_ble_eq_true rfl⟩) (ka_preV X9 hP hD hS 0 rfl rfl) rfl rfl hl.1 rfl (lv_room (Nat.le_of_ble_eq_true rfl)) d_Mo_access_118 ⟨Nat.le_of_ble_eq_true rfl, Nat.le_of_ble_eq_true rfl⟩) X9 hD hS rfl (fun H locs hP hD hS => ?_)
        refine lv_goto (tgt := 125) hx hb d_Mo_access_121 (by decide) ?_
        cases h
        exact W.iret hx hb hr (fun t ht hW => ⟨⟨_, (), rfl, rfl, ka_at ht hP⟩, hS.F ht⟩) hS.2.2 d_Mo_access_125 hlk
      replace h := zo_t c16 h
      refine lv_aload_n hx hb d_Mo_access_93 rfl (lv_at hl 2 rfl) ?_
      refine lv_iconst (v := 2) hx hb d_Mo_access_94 (by decide) ?_
      obtain ⟨v18, e9, h⟩ := zo_b h
      refine ka_i (va_runV (As := [.int 2]) (rest := []) S9 (c_Mo_fail l hl9 D A r _ v14.2 2 _ e9) (cwV 1 hts (tg_V wl_Mo_51 wm_Mo_fail we_Mo_fail wi_Mo wo_Mo_fail) rfl rfl rfl wq_Mo_fail ⟨Nat.le_of_ble_eq_true rfl, Nat.le_of_ble_eq_true rfl⟩) (ka_preV X9 hP hD hS 0 rfl rfl) rfl rfl hl.1 rfl (lv_room (Nat.le_of_ble_eq_true rfl)) d_Mo_access_95 ⟨Nat.le_of_ble_eq_true rfl, Nat.le_of_ble_eq_true rfl⟩) X9 hD hS rfl (fun H locs hP hD hS => ?_)
      cases h
      exact W.iret hx hb hr (fun t ht hW => ⟨⟨_, (), rfl, rfl, ka_at ht hP⟩, hS.F ht⟩) hS.2.2 d_Mo_access_98 hlk
    replace h := zo_t c11 h
    refine lv_aload_n hx hb d_Mo_access_49 rfl (lv_at hl 0 rfl) ?_
    refine lv_iconst (v := 2) hx hb d_Mo_access_50 (by decide) ?_
    obtain ⟨v19, e9, h⟩ := zo_b h
    refine ka_i (va_runV (As := [.int 2]) (rest := []) S9 (c_Mo_fail l hl9 D A r _ u1 2 _ e9) (cwV 1 hts (tg_V wl_Mo_51 wm_Mo_fail we_Mo_fail wi_Mo wo_Mo_fail) rfl rfl rfl wq_Mo_fail ⟨Nat.le_of_ble_eq_true rfl, Nat.le_of_ble_eq_true rfl⟩) (ka_preV X9 hP hD hS 0 rfl rfl) rfl rfl hl.1 rfl (lv_room (Nat.le_of_ble_eq_true rfl)) d_Mo_access_51 ⟨Nat.le_of_ble_eq_true rfl, Nat.le_of_ble_eq_true rfl⟩) X9 hD hS rfl (fun H locs hP hD hS => ?_)
    cases h
    exact W.iret hx hb hr (fun t ht hW => ⟨⟨_, (), rfl, rfl, ka_at ht hP⟩, hS.F ht⟩) hS.2.2 d_Mo_access_54 hlk
  replace h := zo_t c9 h
  refine lv_aload_n hx hb d_Mo_access_34 rfl (lv_at hl 0 rfl) ?_
  refine lv_iconst (v := 1) hx hb d_Mo_access_35 (by decide) ?_
  obtain ⟨v20, e9, h⟩ := zo_b h
  refine ka_i (va_runV (As := [.int 1]) (rest := []) S9 (c_Mo_fail l hl9 D A r _ u1 1 _ e9) (cwV 1 hts (tg_V wl_Mo_51 wm_Mo_fail we_Mo_fail wi_Mo wo_Mo_fail) rfl rfl rfl wq_Mo_fail ⟨Nat.le_of_ble_eq_true rfl, Nat.le_of_ble_eq_true rfl⟩) (ka_preV X9 hP hD hS 0 rfl rfl) rfl rfl hl.1 rfl (lv_room (Nat.le_of_ble_eq_true rfl)) d_Mo_access_36 ⟨Nat.le_of_ble_eq_true rfl, Nat.le_of_ble_eq_true rfl⟩) X9 hD hS rfl (fun H locs hP hD hS => ?_)
  cases h
  exact W.iret hx hb hr (fun t ht hW => ⟨⟨_, (), rfl, rfl, ka_at ht hP⟩, hS.F ht⟩) hS.2.2 d_Mo_access_39 hlk
def f_Mo_objects_L4 (σ : RS) : Nat → Int32 → Int32 → Option (Int32)
  | 0, _, _ => none
  | n + 1, y1, y2 => if (1549 : Int32) < 0 ∨ 1552 ≤ (1549 : Int32).toNatClampNeg then none else if (gM_row σ (1549 : Int32).toNatClampNeg) < y2 then (some y1) else ((f_Mo_at σ y2 0).bind fun v2 => f_Mo_objects_L4 σ n (y1 + v2) (y2 + 1))
def f_Mo_objects (σ : RS) : Option (Int32) := f_Mo_objects_L4 σ 100 0 1
set_option maxRecDepth 100000 in
set_option maxHeartbeats 4000000 in
theorem c_Mo_objects (l : Launch) (hl9 : l.stackTraces = false) (D : va_G) (A : Nat → Nat) (r : va_W) (sz : Nat) (σ : RS) (z : Int32) (h : f_Mo_objects σ = some z) : Met l y_Mo_objects (Cond.code y_Mo_objects b_Mo_objects 3 (some .int) :: T0) ({ frames := 1, cells := 0, slots := 0, locals := 22 } : Room) (va_Pc [.ref (A 60)] (ka_Wd D A (MW A σ r) sz)) (ka_Ri D z (MW A σ r) (va_A (MW A σ r) sz)) 0 0 (va_A (MW A σ r) sz) := by
  unfold f_Mo_objects at h
  refine ka_of (own := R_Mo) (fun A9 => ka_Ri D z (MW A σ r) A9) (by decide) rfl (Nat.le_of_ble_eq_true rfl) ?_
  intro p e s m below meth c A9 ls S9 hr hlk hex X9 hP hD hl
  obtain ⟨hx, hb, hml, hown, hts⟩ := id S9
  have hK := X9.2.1
  have hS : va_S A9 s.heap s.heap [] := va_S.rf
  replace hl : lv_has ls 3 [(0, .ref (A 60))] := hl
  have L4 : ∀ (n : Nat) (y1 y2 : Int32) (H : Heap) (locs : List Loc) (ls : Array Slot), f_Mo_objects_L4 σ n y1 y2 = some z → va_P D vwCl (MW A σ r) H → va_D A9 (MW A σ r) → va_S A9 s.heap H locs → lv_has ls 3 [(0, .ref (A 60)), (1, .int y1), (2, .int y2)] → W p l e ({ frames := 1, cells := 0, slots := 0, locals := 22 } : Room) s m [.ref (A 60)].toArray below meth c H locs 0 0 (MQ below (ka_Ri D z (MW A σ r) A9) [.ref (A 60)].toArray s 0 0 A9) (F0 m 4 ls []) := by
    intro n
    induction n with
    | zero => intro y1 y2 H locs ls h; cases h
    | succ n ih4 =>
      intro y1 y2 H locs ls h hP hD hS hl
      rw [f_Mo_objects_L4] at h
      refine lv_iload_n hx hb d_Mo_objects_4 rfl (lv_at hl 2 rfl) ?_
      refine lv_aload_n hx hb d_Mo_objects_5 rfl (lv_at hl 0 rfl) ?_
      refine va_get (D := D) (ci := 5) (v := .ref (A 61)) (C := R_Mo) (T := T_Mo) (N := 3) hx hb hts wu_Mo hown hK hP 0 rfl rfl 0 (by decide) (hts _ wf_Mo_7) (fun _ h9 => h9) rfl d_Mo_objects_6 ?_
      refine lv_sipush (v := 1549) hx hb d_Mo_objects_9 (by decide) ?_
      obtain ⟨i9, h⟩ := zo_i h
      refine va_iald hx hb hK hP 1 0 rfl rfl i9 d_Mo_objects_12 ?_
      refine lv_icmp_gt (tgt := 31) hx hb d_Mo_objects_13 (by decide) (fun c1 => ?_) (fun c1 => ?_)
      · replace h := zo_t c1 h
        refine lv_iload_n hx hb d_Mo_objects_31 rfl (lv_at hl 1 rfl) ?_
        cases h
        exact W.iret hx hb hr (fun t ht hW => ⟨⟨_, (), rfl, rfl, ka_at ht hP⟩, hS.F ht⟩) hS.2.2 d_Mo_objects_32 hlk
      replace h := zo_f c1 h
      refine lv_iload_n hx hb d_Mo_objects_16 rfl (lv_at hl 1 rfl) ?_
      refine lv_aload_n hx hb d_Mo_objects_17 rfl (lv_at hl 0 rfl) ?_
      refine lv_iload_n hx hb d_Mo_objects_18 rfl (lv_at hl 2 rfl) ?_
      refine lv_iconst (v := 0) hx hb d_Mo_objects_19 (by decide) ?_
      obtain ⟨v2, e9, h⟩ := zo_b h
      refine ka_i (va_runV (As := [.int y2, .int 0]) (rest := [.int y1]) S9 (c_Mo_at l hl9 D A r _ σ y2 0 _ e9) (cwV 2 hts (tg_V wl_Mo_32 wm_Mo_at we_Mo_at wi_Mo wo_Mo_at) rfl rfl rfl wq_Mo_at ⟨Nat.le_of_ble_eq_true rfl, Nat.le_of_ble_eq_true rfl⟩) (ka_preV X9 hP hD hS 0 rfl rfl) rfl rfl hl.1 rfl (lv_room (Nat.le_of_ble_eq_true rfl)) d_Mo_objects_20 ⟨Nat.le_of_ble_eq_true rfl, Nat.le_of_ble_eq_true rfl⟩) X9 hD hS rfl (fun H locs hP hD hS => ?_)
      refine lv_iadd hx hb d_Mo_objects_23 ?_
      refine lv_istore_n (lv' := [(1, .int (y1 + v2)), (0, .ref (A 60)), (2, .int y2)]) hx hb d_Mo_objects_24 rfl hl (by decide) rfl (fun ls hl => ?_)
      refine lv_iinc (v := y2 + 1) (lv' := [(2, .int (y2 + 1)), (1, .int (y1 + v2)), (0, .ref (A 60))]) hx hb d_Mo_objects_25 hl (k := 2) rfl rfl (by decide) rfl (fun ls hl => ?_)
      refine lv_goto (tgt := 4) hx hb d_Mo_objects_28 (by decide) ?_
      exact ih4 (y1 + v2) (y2 + 1) _ _ _ h hP hD hS (lv_sub hl [2, 1, 0] rfl)
  refine lv_iconst (v := 0) hx hb d_Mo_objects_0 (by decide) ?_
  refine lv_istore_n (lv' := [(1, .int 0), (0, .ref (A 60))]) hx hb d_Mo_objects_1 rfl hl (by decide) rfl (fun ls hl => ?_)
  refine lv_iconst (v := 1) hx hb d_Mo_objects_2 (by decide) ?_
  refine lv_istore_n (lv' := [(2, .int 1), (1, .int 0), (0, .ref (A 60))]) hx hb d_Mo_objects_3 rfl hl (by decide) rfl (fun ls hl => ?_)
  exact L4 100 0 1 _ _ _ h hP hD hS (lv_sub hl [2, 1, 0] rfl)
def f_Mo_snapshot_L7 : Nat → RS → Int32 → Option (Int32 × RS)
  | 0, _, _ => none
  | n + 1, u, y1 => if 1552 ≤ y1 then ((f_Mo_objects u).bind fun v3 => some (v3, u)) else (if y1 < 0 ∨ 1552 ≤ (y1).toNatClampNeg then none else if y1 < 0 ∨ 1552 ≤ (y1).toNatClampNeg then none else zl (sM_kept u (upd (gM_kept u) (y1).toNatClampNeg (gM_row u (y1).toNatClampNeg))) fun u4 => f_Mo_snapshot_L7 n u4 (y1 + 1))
def f_Mo_snapshot (σ : RS) : Option (Int32 × RS) := zl (sM_code σ 0) fun u1 => f_Mo_snapshot_L7 2000 u1 0
set_option maxRecDepth 100000 in
set_option maxHeartbeats 4000000 in
theorem c_Mo_snapshot (l : Launch) (hl9 : l.stackTraces = false) (D : va_G) (A : Nat → Nat) (r : va_W) (sz : Nat) (σ : RS) (z : Int32 × RS) (h : f_Mo_snapshot σ = some z) : Met l y_Mo_snapshot (Cond.code y_Mo_snapshot b_Mo_snapshot 2 (some .int) :: T0) ({ frames := 2, cells := 0, slots := 0, locals := 44 } : Room) (va_Pc [.ref (A 60)] (ka_Wd D A (MW A σ r) sz)) (ka_Ri D z.1 (MW A z.2 r) (va_A (MW A σ r) sz)) 0 0 (va_A (MW A σ r) sz) := by
  unfold f_Mo_snapshot at h
  refine ka_of (own := R_Mo) (fun A9 => ka_Ri D z.1 (MW A z.2 r) A9) (by decide) rfl (Nat.le_of_ble_eq_true rfl) ?_
  intro p e s m below meth c A9 ls S9 hr hlk hex X9 hP hD hl
  obtain ⟨hx, hb, hml, hown, hts⟩ := id S9
  have hK := X9.2.1
  have hS : va_S A9 s.heap s.heap [] := va_S.rf
  replace hl : lv_has ls 2 [(0, .ref (A 60))] := hl
  have L7 : ∀ (n : Nat) (u : RS) (y1 : Int32) (H : Heap) (locs : List Loc) (ls : Array Slot), f_Mo_snapshot_L7 n u y1 = some z → va_P D vwCl (MW A u r) H → va_D A9 (MW A u r) → va_S A9 s.heap H locs → lv_has ls 2 [(0, .ref (A 60)), (1, .int y1)] → W p l e ({ frames := 2, cells := 0, slots := 0, locals := 44 } : Room) s m [.ref (A 60)].toArray below meth c H locs 0 0 (MQ below (ka_Ri D z.1 (MW A z.2 r) A9) [.ref (A 60)].toArray s 0 0 A9) (F0 m 7 ls []) := by
    intro n
    induction n with
    | zero => intro u y1 H locs ls h; cases h
    | succ n ih7 =>
      intro u y1 H locs ls h hP hD hS hl
      rw [f_Mo_snapshot_L7] at h
      refine lv_iload_n hx hb d_Mo_snapshot_7 rfl (lv_at hl 1 rfl) ?_
      refine lv_sipush (v := 1552) hx hb d_Mo_snapshot_8 (by decide) ?_
      refine lv_icmp_ge (tgt := 32) hx hb d_Mo_snapshot_11 (by decide) (fun c2 => ?_) (fun c2 => ?_)
      · replace h := zo_t c2 h
        refine lv_aload_n hx hb d_Mo_snapshot_32 rfl (lv_at hl 0 rfl) ?_
        obtain ⟨v3, e9, h⟩ := zo_b h
        refine ka_i (va_runV (As := []) (rest := []) S9 (c_Mo_objects l hl9 D A r _ u _ e9) (cwV 0 hts (tg_V wl_Mo_122 wm_Mo_objects we_Mo_objects wi_Mo wo_Mo_objects) rfl rfl rfl wq_Mo_objects ⟨Nat.le_of_ble_eq_true rfl, Nat.le_of_ble_eq_true rfl⟩) (ka_preV X9 hP hD hS 0 rfl rfl) rfl rfl hl.1 rfl (lv_room (Nat.le_of_ble_eq_true rfl)) d_Mo_snapshot_33 ⟨Nat.le_of_ble_eq_true rfl, Nat.le_of_ble_eq_true rfl⟩) X9 hD hS rfl (fun H locs hP hD hS => ?_)
        cases h
        exact W.iret hx hb hr (fun t ht hW => ⟨⟨_, (), rfl, rfl, ka_at ht hP⟩, hS.F ht⟩) hS.2.2 d_Mo_snapshot_36 hlk
      replace h := zo_f c2 h
      refine lv_aload_n hx hb d_Mo_snapshot_14 rfl (lv_at hl 0 rfl) ?_
      refine va_get (D := D) (ci := 5) (v := .ref (A 62)) (C := R_Mo) (T := T_Mo) (N := 3) hx hb hts wu_Mo hown hK hP 0 rfl rfl 1 (by decide) (hts _ wf_Mo_13) (fun _ h9 => h9) rfl d_Mo_snapshot_15 ?_
      refine lv_iload_n hx hb d_Mo_snapshot_18 rfl (lv_at hl 1 rfl) ?_
      refine lv_aload_n hx hb d_Mo_snapshot_19 rfl (lv_at hl 0 rfl) ?_
      refine va_get (D := D) (ci := 5) (v := .ref (A 61)) (C := R_Mo) (T := T_Mo) (N := 3) hx hb hts wu_Mo hown hK hP 0 rfl rfl 0 (by decide) (hts _ wf_Mo_7) (fun _ h9 => h9) rfl d_Mo_snapshot_20 ?_
      refine lv_iload_n hx hb d_Mo_snapshot_23 rfl (lv_at hl 1 rfl) ?_
      obtain ⟨i9, h⟩ := zo_i h
      refine va_iald hx hb hK hP 1 0 rfl rfl i9 d_Mo_snapshot_24 ?_
      obtain ⟨i9, h⟩ := zo_i h
      obtain ⟨u4, hu9, h⟩ := zo_l h
      refine va_iast hx hb hK hP hD hS 2 0 rfl rfl i9 d_Mo_snapshot_25 (fun H locs hP hD hS => ?_)
      replace hP : va_P D vwCl (MW A u4 r) H := by rw [hu9]; exact hP
      replace hD : va_D A9 (MW A u4 r) := by rw [hu9]; exact hD
      refine lv_iinc (v := y1 + 1) (lv' := [(1, .int (y1 + 1)), (0, .ref (A 60))]) hx hb d_Mo_snapshot_26 hl (k := 1) rfl rfl (by decide) rfl (fun ls hl => ?_)
      refine lv_goto (tgt := 7) hx hb d_Mo_snapshot_29 (by decide) ?_
      exact ih7 u4 (y1 + 1) _ _ _ h hP hD hS (lv_sub hl [1, 0] rfl)
  refine lv_aload_n hx hb d_Mo_snapshot_0 rfl (lv_at hl 0 rfl) ?_
  refine lv_iconst (v := 0) hx hb d_Mo_snapshot_1 (by decide) ?_
  obtain ⟨u1, hu9, h⟩ := zo_l h
  refine va_put (D := D) (ci := 5) (v := .int 0) (ty := .int) (C := R_Mo) (T := T_Mo) (N := 3) hx hb hts wu_Mo ft_Mo fk_Mo nm_Mo hown hK hP hD hS 0 rfl rfl 2 (by decide) (hts _ wf_Mo_16) (fun _ h9 => h9) rfl (by decide +kernel) rfl rfl (Nat.le_of_ble_eq_true rfl) d_Mo_snapshot_2 (fun H locs hP hD hS => ?_)
  replace hP : va_P D vwCl (MW A u1 r) H := by rw [hu9]; exact hP
  replace hD : va_D A9 (MW A u1 r) := by rw [hu9]; exact hD
  refine lv_iconst (v := 0) hx hb d_Mo_snapshot_5 (by decide) ?_
  refine lv_istore_n (lv' := [(1, .int 0), (0, .ref (A 60))]) hx hb d_Mo_snapshot_6 rfl hl (by decide) rfl (fun ls hl => ?_)
  exact L7 2000 u1 0 _ _ _ h hP hD hS (lv_sub hl [1, 0] rfl)
def f_Mo_crash_L7 : Nat → RS → Int32 → Option (Int32 × RS)
  | 0, _, _ => none
  | n + 1, u, y1 => if 1552 ≤ y1 then ((f_Mo_objects u).bind fun v3 => some (v3, u)) else (if y1 < 0 ∨ 1552 ≤ (y1).toNatClampNeg then none else if y1 < 0 ∨ 1552 ≤ (y1).toNatClampNeg then none else zl (sM_row u (upd (gM_row u) (y1).toNatClampNeg (gM_kept u (y1).toNatClampNeg))) fun u4 => f_Mo_crash_L7 n u4 (y1 + 1))
def f_Mo_crash (σ : RS) : Option (Int32 × RS) := zl (sM_code σ 0) fun u1 => f_Mo_crash_L7 2000 u1 0
set_option maxRecDepth 100000 in
set_option maxHeartbeats 4000000 in
theorem c_Mo_crash (l : Launch) (hl9 : l.stackTraces = false) (D : va_G) (A : Nat → Nat) (r : va_W) (sz : Nat) (σ : RS) (z : Int32 × RS) (h : f_Mo_crash σ = some z) : Met l y_Mo_crash (Cond.code y_Mo_crash b_Mo_crash 2 (some .int) :: T0) ({ frames := 2, cells := 0, slots := 0, locals := 44 } : Room) (va_Pc [.ref (A 60)] (ka_Wd D A (MW A σ r) sz)) (ka_Ri D z.1 (MW A z.2 r) (va_A (MW A σ r) sz)) 0 0 (va_A (MW A σ r) sz) := by
  unfold f_Mo_crash at h
  refine ka_of (own := R_Mo) (fun A9 => ka_Ri D z.1 (MW A z.2 r) A9) (by decide) rfl (Nat.le_of_ble_eq_true rfl) ?_
  intro p e s m below meth c A9 ls S9 hr hlk hex X9 hP hD hl
  obtain ⟨hx, hb, hml, hown, hts⟩ := id S9
  have hK := X9.2.1
  have hS : va_S A9 s.heap s.heap [] := va_S.rf
  replace hl : lv_has ls 2 [(0, .ref (A 60))] := hl
  have L7 : ∀ (n : Nat) (u : RS) (y1 : Int32) (H : Heap) (locs : List Loc) (ls : Array Slot), f_Mo_crash_L7 n u y1 = some z → va_P D vwCl (MW A u r) H → va_D A9 (MW A u r) → va_S A9 s.heap H locs → lv_has ls 2 [(0, .ref (A 60)), (1, .int y1)] → W p l e ({ frames := 2, cells := 0, slots := 0, locals := 44 } : Room) s m [.ref (A 60)].toArray below meth c H locs 0 0 (MQ below (ka_Ri D z.1 (MW A z.2 r) A9) [.ref (A 60)].toArray s 0 0 A9) (F0 m 7 ls []) := by
    intro n
    induction n with
    | zero => intro u y1 H locs ls h; cases h
    | succ n ih7 =>
      intro u y1 H locs ls h hP hD hS hl
      rw [f_Mo_crash_L7] at h
      refine lv_iload_n hx hb d_Mo_crash_7 rfl (lv_at hl 1 rfl) ?_
      refine lv_sipush (v := 1552) hx hb d_Mo_crash_8 (by decide) ?_
      refine lv_icmp_ge (tgt := 32) hx hb d_Mo_crash_11 (by decide) (fun c2 => ?_) (fun c2 => ?_)
      · replace h := zo_t c2 h
        refine lv_aload_n hx hb d_Mo_crash_32 rfl (lv_at hl 0 rfl) ?_
        obtain ⟨v3, e9, h⟩ := zo_b h
        refine ka_i (va_runV (As := []) (rest := []) S9 (c_Mo_objects l hl9 D A r _ u _ e9) (cwV 0 hts (tg_V wl_Mo_122 wm_Mo_objects we_Mo_objects wi_Mo wo_Mo_objects) rfl rfl rfl wq_Mo_objects ⟨Nat.le_of_ble_eq_true rfl, Nat.le_of_ble_eq_true rfl⟩) (ka_preV X9 hP hD hS 0 rfl rfl) rfl rfl hl.1 rfl (lv_room (Nat.le_of_ble_eq_true rfl)) d_Mo_crash_33 ⟨Nat.le_of_ble_eq_true rfl, Nat.le_of_ble_eq_true rfl⟩) X9 hD hS rfl (fun H locs hP hD hS => ?_)
        cases h
        exact W.iret hx hb hr (fun t ht hW => ⟨⟨_, (), rfl, rfl, ka_at ht hP⟩, hS.F ht⟩) hS.2.2 d_Mo_crash_36 hlk
      replace h := zo_f c2 h
      refine lv_aload_n hx hb d_Mo_crash_14 rfl (lv_at hl 0 rfl) ?_
      refine va_get (D := D) (ci := 5) (v := .ref (A 61)) (C := R_Mo) (T := T_Mo) (N := 3) hx hb hts wu_Mo hown hK hP 0 rfl rfl 0 (by decide) (hts _ wf_Mo_7) (fun _ h9 => h9) rfl d_Mo_crash_15 ?_
      refine lv_iload_n hx hb d_Mo_crash_18 rfl (lv_at hl 1 rfl) ?_
      refine lv_aload_n hx hb d_Mo_crash_19 rfl (lv_at hl 0 rfl) ?_
      refine va_get (D := D) (ci := 5) (v := .ref (A 62)) (C := R_Mo) (T := T_Mo) (N := 3) hx hb hts wu_Mo hown hK hP 0 rfl rfl 1 (by decide) (hts _ wf_Mo_13) (fun _ h9 => h9) rfl d_Mo_crash_20 ?_
      refine lv_iload_n hx hb d_Mo_crash_23 rfl (lv_at hl 1 rfl) ?_
      obtain ⟨i9, h⟩ := zo_i h
      refine va_iald hx hb hK hP 2 0 rfl rfl i9 d_Mo_crash_24 ?_
      obtain ⟨i9, h⟩ := zo_i h
      obtain ⟨u4, hu9, h⟩ := zo_l h
      refine va_iast hx hb hK hP hD hS 1 0 rfl rfl i9 d_Mo_crash_25 (fun H locs hP hD hS => ?_)
      replace hP : va_P D vwCl (MW A u4 r) H := by rw [hu9]; exact hP
      replace hD : va_D A9 (MW A u4 r) := by rw [hu9]; exact hD
      refine lv_iinc (v := y1 + 1) (lv' := [(1, .int (y1 + 1)), (0, .ref (A 60))]) hx hb d_Mo_crash_26 hl (k := 1) rfl rfl (by decide) rfl (fun ls hl => ?_)
      refine lv_goto (tgt := 7) hx hb d_Mo_crash_29 (by decide) ?_
      exact ih7 u4 (y1 + 1) _ _ _ h hP hD hS (lv_sub hl [1, 0] rfl)
  refine lv_aload_n hx hb d_Mo_crash_0 rfl (lv_at hl 0 rfl) ?_
  refine lv_iconst (v := 0) hx hb d_Mo_crash_1 (by decide) ?_
  obtain ⟨u1, hu9, h⟩ := zo_l h
  refine va_put (D := D) (ci := 5) (v := .int 0) (ty := .int) (C := R_Mo) (T := T_Mo) (N := 3) hx hb hts wu_Mo ft_Mo fk_Mo nm_Mo hown hK hP hD hS 0 rfl rfl 2 (by decide) (hts _ wf_Mo_16) (fun _ h9 => h9) rfl (by decide +kernel) rfl rfl (Nat.le_of_ble_eq_true rfl) d_Mo_crash_2 (fun H locs hP hD hS => ?_)
  replace hP : va_P D vwCl (MW A u1 r) H := by rw [hu9]; exact hP
  replace hD : va_D A9 (MW A u1 r) := by rw [hu9]; exact hD
  refine lv_iconst (v := 0) hx hb d_Mo_crash_5 (by decide) ?_
  refine lv_istore_n (lv' := [(1, .int 0), (0, .ref (A 60))]) hx hb d_Mo_crash_6 rfl hl (by decide) rfl (fun ls hl => ?_)
  exact L7 2000 u1 0 _ _ _ h hP hD hS (lv_sub hl [1, 0] rfl)
def f_Mo_object (σ : RS) (x1 x2 : Int32) : Option (Int32 × RS) := zl (sM_code σ 0) fun u1 => (f_Mo_within x2 0 6).bind fun v2 => if v2 = 0 then ((f_Mo_fail u1 1).bind fun v16 => some (v16.1, v16.2)) else ((f_Mo_there u1 x1).bind fun v4 => if v4 = 0 then ((f_Mo_fail u1 2).bind fun v15 => some (v15.1, v15.2)) else (if x2 = 0 then ((f_Mo_at u1 x1 1).bind fun v6 => some (v6, u1)) else if x2 = 1 then ((f_Mo_at u1 x1 2).bind fun v7 => some (v7, u1)) else if x2 = 2 then ((f_Mo_at u1 x1 3).bind fun v8 => some (v8, u1)) else if x2 = 3 then ((f_Mo_use u1 x1).bind fun v9 => some (v9, u1)) else if x2 = 4 then ((f_Mo_at u1 x1 4).bind fun v10 => some (v10, u1)) else if x2 = 5 then ((f_Mo_at u1 x1 1).bind fun v11 => if v11 < 2 then (some ((-1), u1)) else ((f_Mo_at u1 x1 6).bind fun v13 => some (v13, u1))) else ((f_Mo_at u1 x1 8).bind fun v14 => some (v14, u1))))
set_option maxRecDepth 100000 in
set_option maxHeartbeats 4000000 in
theorem c_Mo_object (l : Launch) (hl9 : l.stackTraces = false) (D : va_G) (A : Nat → Nat) (r : va_W) (sz : Nat) (σ : RS) (x1 x2 : Int32) (z : Int32 × RS) (h : f_Mo_object σ x1 x2 = some z) : Met l y_Mo_object (Cond.code y_Mo_object b_Mo_object 3 (some .int) :: T0) ({ frames := 3, cells := 0, slots := 0, locals := 66 } : Room) (va_Pc [.ref (A 60), .int x1, .int x2] (ka_Wd D A (MW A σ r) sz)) (ka_Ri D z.1 (MW A z.2 r) (va_A (MW A σ r) sz)) 0 0 (va_A (MW A σ r) sz) := by
  unfold f_Mo_object at h
  refine ka_of (own := R_Mo) (fun A9 => ka_Ri D z.1 (MW A z.2 r) A9) (by decide) rfl (Nat.le_of_ble_eq_true rfl) ?_
  intro p e s m below meth c A9 ls S9 hr hlk hex X9 hP hD hl
  obtain ⟨hx, hb, hml, hown, hts⟩ := id S9
  have hK := X9.2.1
  have hS : va_S A9 s.heap s.heap [] := va_S.rf
  replace hl : lv_has ls 3 [(0, .ref (A 60)), (1, .int x1), (2, .int x2)] := hl
  refine lv_aload_n hx hb d_Mo_object_0 rfl (lv_at hl 0 rfl) ?_
  refine lv_iconst (v := 0) hx hb d_Mo_object_1 (by decide) ?_
  obtain ⟨u1, hu9, h⟩ := zo_l h
  refine va_put (D := D) (ci := 5) (v := .int 0) (ty := .int) (C := R_Mo) (T := T_Mo) (N := 3) hx hb hts wu_Mo ft_Mo fk_Mo nm_Mo hown hK hP hD hS 0 rfl rfl 2 (by decide) (hts _ wf_Mo_16) (fun _ h9 => h9) rfl (by decide +kernel) rfl rfl (Nat.le_of_ble_eq_true rfl) d_Mo_object_2 (fun H locs hP hD hS => ?_)
  replace hP : va_P D vwCl (MW A u1 r) H := by rw [hu9]; exact hP
  replace hD : va_D A9 (MW A u1 r) := by rw [hu9]; exact hD
  refine lv_iload_n hx hb d_Mo_object_5 rfl (lv_at hl 2 rfl) ?_
  refine lv_iconst (v := 0) hx hb d_Mo_object_6 (by decide) ?_
  refine lv_bipush (v := 6) hx hb d_Mo_object_7 (by decide) ?_
  obtain ⟨v2, e9, h⟩ := zo_b h
  refine ka_i (va_runS (As := [.int x2, .int 0, .int 6]) (rest := []) S9 (c_Mo_within l hl9 D A (MW A u1 r) _ x2 0 6 _ e9) (cwS 3 hts (tg_S wl_Mo_28 ws_Mo_within wi_Mo wo_Mo_within) rfl rfl rfl wq_Mo_within ⟨Nat.le_of_ble_eq_true rfl, Nat.le_of_ble_eq_true rfl⟩) (ka_preS X9 hP hD hS) rfl rfl hl.1 rfl (lv_room (Nat.le_of_ble_eq_true rfl)) d_Mo_object_9 ⟨Nat.le_of_ble_eq_true rfl, Nat.le_of_ble_eq_true rfl⟩) X9 hD hS rfl (fun H locs hP hD hS => ?_)
  refine lv_if_ne (tgt := 21) hx hb d_Mo_object_12 (by decide) (fun c3 => ?_) (fun c3 => ?_)
  · replace h := zo_f c3 h
    refine lv_aload_n hx hb d_Mo_object_21 rfl (lv_at hl 0 rfl) ?_
    refine lv_iload_n hx hb d_Mo_object_22 rfl (lv_at hl 1 rfl) ?_
    obtain ⟨v4, e9, h⟩ := zo_b h
    refine ka_i (va_runV (As := [.int x1]) (rest := []) S9 (c_Mo_there l hl9 D A r _ u1 x1 _ e9) (cwV 1 hts (tg_V wl_Mo_43 wm_Mo_there we_Mo_there wi_Mo wo_Mo_there) rfl rfl rfl wq_Mo_there ⟨Nat.le_of_ble_eq_true rfl, Nat.le_of_ble_eq_true rfl⟩) (ka_preV X9 hP hD hS 0 rfl rfl) rfl rfl hl.1 rfl (lv_room (Nat.le_of_ble_eq_true rfl)) d_Mo_object_23 ⟨Nat.le_of_ble_eq_true rfl, Nat.le_of_ble_eq_true rfl⟩) X9 hD hS rfl (fun H locs hP hD hS => ?_)
    refine lv_if_ne (tgt := 35) hx hb d_Mo_object_26 (by decide) (fun c5 => ?_) (fun c5 => ?_)
    · replace h := zo_f c5 h
      refine lv_iload_n hx hb d_Mo_object_35 rfl (lv_at hl 2 rfl) ?_
      by_cases c9_0 : x2 = 0
      · replace h := zo_t c9_0 h
        refine ka_tabIn (tgt := 76) (off := 40) hx hb d_Mo_object_36 c9_0 (by decide) (by decide) (by decide) (by decide) ?_
        refine lv_aload_n hx hb d_Mo_object_76 rfl (lv_at hl 0 rfl) ?_
        refine lv_iload_n hx hb d_Mo_object_77 rfl (lv_at hl 1 rfl) ?_
        refine lv_iconst (v := 1) hx hb d_Mo_object_78 (by decide) ?_
        obtain ⟨v6, e9, h⟩ := zo_b h
        refine ka_i (va_runV (As := [.int x1, .int 1]) (rest := []) S9 (c_Mo_at l hl9 D A r _ u1 x1 1 _ e9) (cwV 2 hts (tg_V wl_Mo_32 wm_Mo_at we_Mo_at wi_Mo wo_Mo_at) rfl rfl rfl wq_Mo_at ⟨Nat.le_of_ble_eq_true rfl, Nat.le_of_ble_eq_true rfl⟩) (ka_preV X9 hP hD hS 0 rfl rfl) rfl rfl hl.1 rfl (lv_room (Nat.le_of_ble_eq_true rfl)) d_Mo_object_79 ⟨Nat.le_of_ble_eq_true rfl, Nat.le_of_ble_eq_true rfl⟩) X9 hD hS rfl (fun H locs hP hD hS => ?_)
        cases h
        exact W.iret hx hb hr (fun t ht hW => ⟨⟨_, (), rfl, rfl, ka_at ht hP⟩, hS.F ht⟩) hS.2.2 d_Mo_object_82 hlk
      replace h := zo_f c9_0 h
      by_cases c9_1 : x2 = 1
      · replace h := zo_t c9_1 h
        refine ka_tabIn (tgt := 83) (off := 47) hx hb d_Mo_object_36 c9_1 (by decide) (by decide) (by decide) (by decide) ?_
        refine lv_aload_n hx hb d_Mo_object_83 rfl (lv_at hl 0 rfl) ?_
        refine lv_iload_n hx hb d_Mo_object_84 rfl (lv_at hl 1 rfl) ?_
        refine lv_iconst (v := 2) hx hb d_Mo_object_85 (by decide) ?_
        obtain ⟨v7, e9, h⟩ := zo_b h
        refine ka_i (va_runV (As := [.int x1, .int 2]) (rest := []) S9 (c_Mo_at l hl9 D A r _ u1 x1 2 _ e9) (cwV 2 hts (tg_V wl_Mo_32 wm_Mo_at we_Mo_at wi_Mo wo_Mo_at) rfl rfl rfl wq_Mo_at ⟨Nat.le_of_ble_eq_true rfl, Nat.le_of_ble_eq_true rfl⟩) (ka_preV X9 hP hD hS 0 rfl rfl) rfl rfl hl.1 rfl (lv_room (Nat.le_of_ble_eq_true rfl)) d_Mo_object_86 ⟨Nat.le_of_ble_eq_true rfl, Nat.le_of_ble_eq_true rfl⟩) X9 hD hS rfl (fun H locs hP hD hS => ?_)
        cases h
        exact W.iret hx hb hr (fun t ht hW => ⟨⟨_, (), rfl, rfl, ka_at ht hP⟩, hS.F ht⟩) hS.2.2 d_Mo_object_89 hlk
      replace h := zo_f c9_1 h
      by_cases c9_2 : x2 = 2
      · replace h := zo_t c9_2 h
        refine ka_tabIn (tgt := 90) (off := 54) hx hb d_Mo_object_36 c9_2 (by decide) (by decide) (by decide) (by decide) ?_
        refine lv_aload_n hx hb d_Mo_object_90 rfl (lv_at hl 0 rfl) ?_
        refine lv_iload_n hx hb d_Mo_object_91 rfl (lv_at hl 1 rfl) ?_
        refine lv_iconst (v := 3) hx hb d_Mo_object_92 (by decide) ?_
        obtain ⟨v8, e9, h⟩ := zo_b h
        refine ka_i (va_runV (As := [.int x1, .int 3]) (rest := []) S9 (c_Mo_at l hl9 D A r _ u1 x1 3 _ e9) (cwV 2 hts (tg_V wl_Mo_32 wm_Mo_at we_Mo_at wi_Mo wo_Mo_at) rfl rfl rfl wq_Mo_at ⟨Nat.le_of_ble_eq_true rfl, Nat.le_of_ble_eq_true rfl⟩) (ka_preV X9 hP hD hS 0 rfl rfl) rfl rfl hl.1 rfl (lv_room (Nat.le_of_ble_eq_true rfl)) d_Mo_object_93 ⟨Nat.le_of_ble_eq_true rfl, Nat.le_of_ble_eq_true rfl⟩) X9 hD hS rfl (fun H locs hP hD hS => ?_)
        cases h
        exact W.iret hx hb hr (fun t ht hW => ⟨⟨_, (), rfl, rfl, ka_at ht hP⟩, hS.F ht⟩) hS.2.2 d_Mo_object_96 hlk
      replace h := zo_f c9_2 h
      by_cases c9_3 : x2 = 3
      · replace h := zo_t c9_3 h
        refine ka_tabIn (tgt := 97) (off := 61) hx hb d_Mo_object_36 c9_3 (by decide) (by decide) (by decide) (by decide) ?_
        refine lv_aload_n hx hb d_Mo_object_97 rfl (lv_at hl 0 rfl) ?_
        refine lv_iload_n hx hb d_Mo_object_98 rfl (lv_at hl 1 rfl) ?_
        obtain ⟨v9, e9, h⟩ := zo_b h
        refine ka_i (va_runV (As := [.int x1]) (rest := []) S9 (c_Mo_use l hl9 D A r _ u1 x1 _ e9) (cwV 1 hts (tg_V wl_Mo_75 wm_Mo_use we_Mo_use wi_Mo wo_Mo_use) rfl rfl rfl wq_Mo_use ⟨Nat.le_of_ble_eq_true rfl, Nat.le_of_ble_eq_true rfl⟩) (ka_preV X9 hP hD hS 0 rfl rfl) rfl rfl hl.1 rfl (lv_room (Nat.le_of_ble_eq_true rfl)) d_Mo_object_99 ⟨Nat.le_of_ble_eq_true rfl, Nat.le_of_ble_eq_true rfl⟩) X9 hD hS rfl (fun H locs hP hD hS => ?_)
        cases h
        exact W.iret hx hb hr (fun t ht hW => ⟨⟨_, (), rfl, rfl, ka_at ht hP⟩, hS.F ht⟩) hS.2.2 d_Mo_object_102 hlk
      replace h := zo_f c9_3 h
      by_cases c9_4 : x2 = 4
      · replace h := zo_t c9_4 h
        refine ka_tabIn (tgt := 103) (off := 67) hx hb d_Mo_object_36 c9_4 (by decide) (by decide) (by decide) (by decide) ?_
        refine lv_aload_n hx hb d_Mo_object_103 rfl (lv_at hl 0 rfl) ?_
        refine lv_iload_n hx hb d_Mo_object_104 rfl (lv_at hl 1 rfl) ?_
        refine lv_iconst (v := 4) hx hb d_Mo_object_105 (by decide) ?_
        obtain ⟨v10, e9, h⟩ := zo_b h
        refine ka_i (va_runV (As := [.int x1, .int 4]) (rest := []) S9 (c_Mo_at l hl9 D A r _ u1 x1 4 _ e9) (cwV 2 hts (tg_V wl_Mo_32 wm_Mo_at we_Mo_at wi_Mo wo_Mo_at) rfl rfl rfl wq_Mo_at ⟨Nat.le_of_ble_eq_true rfl, Nat.le_of_ble_eq_true rfl⟩) (ka_preV X9 hP hD hS 0 rfl rfl) rfl rfl hl.1 rfl (lv_room (Nat.le_of_ble_eq_true rfl)) d_Mo_object_106 ⟨Nat.le_of_ble_eq_true rfl, Nat.le_of_ble_eq_true rfl⟩) X9 hD hS rfl (fun H locs hP hD hS => ?_)
        cases h
        exact W.iret hx hb hr (fun t ht hW => ⟨⟨_, (), rfl, rfl, ka_at ht hP⟩, hS.F ht⟩) hS.2.2 d_Mo_object_109 hlk
      replace h := zo_f c9_4 h
      by_cases c9_5 : x2 = 5
      · replace h := zo_t c9_5 h
        refine ka_tabIn (tgt := 110) (off := 74) hx hb d_Mo_object_36 c9_5 (by decide) (by decide) (by decide) (by decide) ?_
        refine lv_aload_n hx hb d_Mo_object_110 rfl (lv_at hl 0 rfl) ?_
        refine lv_iload_n hx hb d_Mo_object_111 rfl (lv_at hl 1 rfl) ?_
        refine lv_iconst (v := 1) hx hb d_Mo_object_112 (by decide) ?_
        obtain ⟨v11, e9, h⟩ := zo_b h
        refine ka_i (va_runV (As := [.int x1, .int 1]) (rest := []) S9 (c_Mo_at l hl9 D A r _ u1 x1 1 _ e9) (cwV 2 hts (tg_V wl_Mo_32 wm_Mo_at we_Mo_at wi_Mo wo_Mo_at) rfl rfl rfl wq_Mo_at ⟨Nat.le_of_ble_eq_true rfl, Nat.le_of_ble_eq_true rfl⟩) (ka_preV X9 hP hD hS 0 rfl rfl) rfl rfl hl.1 rfl (lv_room (Nat.le_of_ble_eq_true rfl)) d_Mo_object_113 ⟨Nat.le_of_ble_eq_true rfl, Nat.le_of_ble_eq_true rfl⟩) X9 hD hS rfl (fun H locs hP hD hS => ?_)
        refine lv_iconst (v := 2) hx hb d_Mo_object_116 (by decide) ?_
        refine lv_icmp_lt (tgt := 130) hx hb d_Mo_object_117 (by decide) (fun c12 => ?_) (fun c12 => ?_)
        · replace h := zo_t c12 h
          refine lv_iconst (v := (-1)) hx hb d_Mo_object_130 (by decide) ?_
          cases h
          exact W.iret hx hb hr (fun t ht hW => ⟨⟨_, (), rfl, rfl, ka_at ht hP⟩, hS.F ht⟩) hS.2.2 d_Mo_object_131 hlk
        replace h := zo_f c12 h
        refine lv_aload_n hx hb d_Mo_object_120 rfl (lv_at hl 0 rfl) ?_
        refine lv_iload_n hx hb d_Mo_object_121 rfl (lv_at hl 1 rfl) ?_
        refine lv_bipush (v := 6) hx hb d_Mo_object_122 (by decide) ?_
        obtain ⟨v13, e9, h⟩ := zo_b h
        refine ka_i (va_runV (As := [.int x1, .int 6]) (rest := []) S9 (c_Mo_at l hl9 D A r _ u1 x1 6 _ e9) (cwV 2 hts (tg_V wl_Mo_32 wm_Mo_at we_Mo_at wi_Mo wo_Mo_at) rfl rfl rfl wq_Mo_at ⟨Nat.le_of_ble_eq_true rfl, Nat.le_of_ble_eq_true rfl⟩) (ka_preV X9 hP hD hS 0 rfl rfl) rfl rfl hl.1 rfl (lv_room (Nat.le_of_ble_eq_true rfl)) d_Mo_object_124 ⟨Nat.le_of_ble_eq_true rfl, Nat.le_of_ble_eq_true rfl⟩) X9 hD hS rfl (fun H locs hP hD hS => ?_)
        refine lv_goto (tgt := 131) hx hb d_Mo_object_127 (by decide) ?_
        cases h
        exact W.iret hx hb hr (fun t ht hW => ⟨⟨_, (), rfl, rfl, ka_at ht hP⟩, hS.F ht⟩) hS.2.2 d_Mo_object_131 hlk
      replace h := zo_f c9_5 h
      refine lv_tableOut (tgt := 132) hx hb d_Mo_object_36 (by have q0 := lv_neT c9_0 (a := 0) (by decide); have q1 := lv_neT c9_1 (a := 1) (by decide); have q2 := lv_neT c9_2 (a := 2) (by decide); have q3 := lv_neT c9_3 (a := 3) (by decide); have q4 := lv_neT c9_4 (a := 4) (by decide); have q5 := lv_neT c9_5 (a := 5) (by decide); omega) (by decide) ?_
      refine lv_aload_n hx hb d_Mo_object_132 rfl (lv_at hl 0 rfl) ?_
      refine lv_iload_n hx hb d_Mo_object_133 rfl (lv_at hl 1 rfl) ?_
      refine lv_bipush (v := 8) hx hb d_Mo_object_134 (by decide) ?_
      obtain ⟨v14, e9, h⟩ := zo_b h
      refine ka_i (va_runV (As := [.int x1, .int 8]) (rest := []) S9 (c_Mo_at l hl9 D A r _ u1 x1 8 _ e9) (cwV 2 hts (tg_V wl_Mo_32 wm_Mo_at we_Mo_at wi_Mo wo_Mo_at) rfl rfl rfl wq_Mo_at ⟨Nat.le_of_ble_eq_true rfl, Nat.le_of_ble_eq_true rfl⟩) (ka_preV X9 hP hD hS 0 rfl rfl) rfl rfl hl.1 rfl (lv_room (Nat.le_of_ble_eq_true rfl)) d_Mo_object_136 ⟨Nat.le_of_ble_eq_true rfl, Nat.le_of_ble_eq_true rfl⟩) X9 hD hS rfl (fun H locs hP hD hS => ?_)
      cases h
      exact W.iret hx hb hr (fun t ht hW => ⟨⟨_, (), rfl, rfl, ka_at ht hP⟩, hS.F ht⟩) hS.2.2 d_Mo_object_139 hlk
    replace h := zo_t c5 h
    refine lv_aload_n hx hb d_Mo_object_29 rfl (lv_at hl 0 rfl) ?_
    refine lv_iconst (v := 2) hx hb d_Mo_object_30 (by decide) ?_
    obtain ⟨v15, e9, h⟩ := zo_b h
    refine ka_i (va_runV (As := [.int 2]) (rest := []) S9 (c_Mo_fail l hl9 D A r _ u1 2 _ e9) (cwV 1 hts (tg_V wl_Mo_51 wm_Mo_fail we_Mo_fail wi_Mo wo_Mo_fail) rfl rfl rfl wq_Mo_fail ⟨Nat.le_of_ble_eq_true rfl, Nat.le_of_ble_eq_true rfl⟩) (ka_preV X9 hP hD hS 0 rfl rfl) rfl rfl hl.1 rfl (lv_room (Nat.le_of_ble_eq_true rfl)) d_Mo_object_31 ⟨Nat.le_of_ble_eq_true rfl, Nat.le_of_ble_eq_true rfl⟩) X9 hD hS rfl (fun H locs hP hD hS => ?_)
    cases h
    exact W.iret hx hb hr (fun t ht hW => ⟨⟨_, (), rfl, rfl, ka_at ht hP⟩, hS.F ht⟩) hS.2.2 d_Mo_object_34 hlk
  replace h := zo_t c3 h
  refine lv_aload_n hx hb d_Mo_object_15 rfl (lv_at hl 0 rfl) ?_
  refine lv_iconst (v := 1) hx hb d_Mo_object_16 (by decide) ?_
  obtain ⟨v16, e9, h⟩ := zo_b h
  refine ka_i (va_runV (As := [.int 1]) (rest := []) S9 (c_Mo_fail l hl9 D A r _ u1 1 _ e9) (cwV 1 hts (tg_V wl_Mo_51 wm_Mo_fail we_Mo_fail wi_Mo wo_Mo_fail) rfl rfl rfl wq_Mo_fail ⟨Nat.le_of_ble_eq_true rfl, Nat.le_of_ble_eq_true rfl⟩) (ka_preV X9 hP hD hS 0 rfl rfl) rfl rfl hl.1 rfl (lv_room (Nat.le_of_ble_eq_true rfl)) d_Mo_object_17 ⟨Nat.le_of_ble_eq_true rfl, Nat.le_of_ble_eq_true rfl⟩) X9 hD hS rfl (fun H locs hP hD hS => ?_)
  cases h
  exact W.iret hx hb hr (fun t ht hW => ⟨⟨_, (), rfl, rfl, ka_at ht hP⟩, hS.F ht⟩) hS.2.2 d_Mo_object_20 hlk
def f_Mo_in_L39 : Nat → RS → Int32 → Int32 → Int32 → Int32 → Option (Int32 × RS)
  | 0, _, _, _, _, _ => none
  | n + 1, u, y1, y2, y3, y4 => if (1549 : Int32) < 0 ∨ 1552 ≤ (1549 : Int32).toNatClampNeg then none else if (gM_row u (1549 : Int32).toNatClampNeg) < y4 then ((f_Mo_fail u 2).bind fun v7 => some (v7.1, v7.2)) else ((f_Mo_there u y4).bind fun v8 => if v8 = 0 then (f_Mo_in_L39 n u y1 y2 y3 (y4 + 1)) else ((f_Mo_at u y4 4).bind fun v10 => if v10 = y1 then (if y3 = y2 then (some (y4, u)) else (f_Mo_in_L39 n u y1 y2 (y3 + 1) (y4 + 1))) else (f_Mo_in_L39 n u y1 y2 y3 (y4 + 1))))
def f_Mo_in (σ : RS) (x1 x2 : Int32) : Option (Int32 × RS) := zl (sM_code σ 0) fun u1 => (f_Mo_there u1 x1).bind fun v2 => if v2 = 0 then ((f_Mo_fail u1 2).bind fun v14 => some (v14.1, v14.2)) else ((f_Mo_at u1 x1 1).bind fun v4 => if v4 = 0 then (f_Mo_in_L39 100 u1 x1 x2 0 1) else ((f_Mo_fail u1 1).bind fun v13 => some (v13.1, v13.2)))
set_option maxRecDepth 100000 in
set_option maxHeartbeats 4000000 in
theorem c_Mo_in (l : Launch) (hl9 : l.stackTraces = false) (D : va_G) (A : Nat → Nat) (r : va_W) (sz : Nat) (σ : RS) (x1 x2 : Int32) (z : Int32 × RS) (h : f_Mo_in σ x1 x2 = some z) : Met l y_Mo_in (Cond.code y_Mo_in b_Mo_in 5 (some .int) :: T0) ({ frames := 2, cells := 0, slots := 0, locals := 43 } : Room) (va_Pc [.ref (A 60), .int x1, .int x2] (ka_Wd D A (MW A σ r) sz)) (ka_Ri D z.1 (MW A z.2 r) (va_A (MW A σ r) sz)) 0 0 (va_A (MW A σ r) sz) := by
  unfold f_Mo_in at h
  refine ka_of (own := R_Mo) (fun A9 => ka_Ri D z.1 (MW A z.2 r) A9) (by decide) rfl (Nat.le_of_ble_eq_true rfl) ?_
  intro p e s m below meth c A9 ls S9 hr hlk hex X9 hP hD hl
  obtain ⟨hx, hb, hml, hown, hts⟩ := id S9
  have hK := X9.2.1
  have hS : va_S A9 s.heap s.heap [] := va_S.rf
  replace hl : lv_has ls 5 [(0, .ref (A 60)), (1, .int x1), (2, .int x2)] := hl
  have L39 : ∀ (n : Nat) (u : RS) (y1 y2 y3 y4 : Int32) (H : Heap) (locs : List Loc) (ls : Array Slot), f_Mo_in_L39 n u y1 y2 y3 y4 = some z → va_P D vwCl (MW A u r) H → va_D A9 (MW A u r) → va_S A9 s.heap H locs → lv_has ls 5 [(0, .ref (A 60)), (1, .int y1), (2, .int y2), (3, .int y3), (4, .int y4)] → W p l e ({ frames := 2, cells := 0, slots := 0, locals := 43 } : Room) s m [.ref (A 60), .int x1, .int x2].toArray below meth c H locs 0 0 (MQ below (ka_Ri D z.1 (MW A z.2 r) A9) [.ref (A 60), .int x1, .int x2].toArray s 0 0 A9) (F0 m 39 ls []) := by
    intro n
    induction n with
    | zero => intro u y1 y2 y3 y4 H locs ls h; cases h
    | succ n ih39 =>
      intro u y1 y2 y3 y4 H locs ls h hP hD hS hl
      rw [f_Mo_in_L39] at h
      refine lv_iload hx hb d_Mo_in_39 (lv_at hl 4 rfl) ?_
      refine lv_aload_n hx hb d_Mo_in_41 rfl (lv_at hl 0 rfl) ?_
      refine va_get (D := D) (ci := 5) (v := .ref (A 61)) (C := R_Mo) (T := T_Mo) (N := 3) hx hb hts wu_Mo hown hK hP 0 rfl rfl 0 (by decide) (hts _ wf_Mo_7) (fun _ h9 => h9) rfl d_Mo_in_42 ?_
      refine lv_sipush (v := 1549) hx hb d_Mo_in_45 (by decide) ?_
      obtain ⟨i9, h⟩ := zo_i h
      refine va_iald hx hb hK hP 1 0 rfl rfl i9 d_Mo_in_48 ?_
      refine lv_icmp_gt (tgt := 92) hx hb d_Mo_in_49 (by decide) (fun c6 => ?_) (fun c6 => ?_)
      · replace h := zo_t c6 h
        refine lv_aload_n hx hb d_Mo_in_92 rfl (lv_at hl 0 rfl) ?_
        refine lv_iconst (v := 2) hx hb d_Mo_in_93 (by decide) ?_
        obtain ⟨v7, e9, h⟩ := zo_b h
        refine ka_i (va_runV (As := [.int 2]) (rest := []) S9 (c_Mo_fail l hl9 D A r _ u 2 _ e9) (cwV 1 hts (tg_V wl_Mo_51 wm_Mo_fail we_Mo_fail wi_Mo wo_Mo_fail) rfl rfl rfl wq_Mo_fail ⟨Nat.le_of_ble_eq_true rfl, Nat.le_of_ble_eq_true rfl⟩) (ka_preV X9 hP hD hS 0 rfl rfl) rfl rfl hl.1 rfl (lv_room (Nat.le_of_ble_eq_true rfl)) d_Mo_in_94 ⟨Nat.le_of_ble_eq_true rfl, Nat.le_of_ble_eq_true rfl⟩) X9 hD hS rfl (fun H locs hP hD hS => ?_)
        cases h
        exact W.iret hx hb hr (fun t ht hW => ⟨⟨_, (), rfl, rfl, ka_at ht hP⟩, hS.F ht⟩) hS.2.2 d_Mo_in_97 hlk
      replace h := zo_f c6 h
      refine lv_aload_n hx hb d_Mo_in_52 rfl (lv_at hl 0 rfl) ?_
      refine lv_iload hx hb d_Mo_in_53 (lv_at hl 4 rfl) ?_
      obtain ⟨v8, e9, h⟩ := zo_b h
      refine ka_i (va_runV (As := [.int y4]) (rest := []) S9 (c_Mo_there l hl9 D A r _ u y4 _ e9) (cwV 1 hts (tg_V wl_Mo_43 wm_Mo_there we_Mo_there wi_Mo wo_Mo_there) rfl rfl rfl wq_Mo_there ⟨Nat.le_of_ble_eq_true rfl, Nat.le_of_ble_eq_true rfl⟩) (ka_preV X9 hP hD hS 0 rfl rfl) rfl rfl hl.1 rfl (lv_room (Nat.le_of_ble_eq_true rfl)) d_Mo_in_55 ⟨Nat.le_of_ble_eq_true rfl, Nat.le_of_ble_eq_true rfl⟩) X9 hD hS rfl (fun H locs hP hD hS => ?_)
      refine lv_if_eq (tgt := 86) hx hb d_Mo_in_58 (by decide) (fun c9 => ?_) (fun c9 => ?_)
      · replace h := zo_t c9 h
        refine lv_iinc (v := y4 + 1) (lv' := [(4, .int (y4 + 1)), (0, .ref (A 60)), (1, .int y1), (2, .int y2), (3, .int y3)]) hx hb d_Mo_in_86 hl (k := 4) rfl rfl (by decide) rfl (fun ls hl => ?_)
        refine lv_goto (tgt := 39) hx hb d_Mo_in_89 (by decide) ?_
        exact ih39 u y1 y2 y3 (y4 + 1) _ _ _ h hP hD hS (lv_sub hl [1, 2, 3, 4, 0] rfl)
      replace h := zo_f c9 h
      refine lv_aload_n hx hb d_Mo_in_61 rfl (lv_at hl 0 rfl) ?_
      refine lv_iload hx hb d_Mo_in_62 (lv_at hl 4 rfl) ?_
      refine lv_iconst (v := 4) hx hb d_Mo_in_64 (by decide) ?_
      obtain ⟨v10, e9, h⟩ := zo_b h
      refine ka_i (va_runV (As := [.int y4, .int 4]) (rest := []) S9 (c_Mo_at l hl9 D A r _ u y4 4 _ e9) (cwV 2 hts (tg_V wl_Mo_32 wm_Mo_at we_Mo_at wi_Mo wo_Mo_at) rfl rfl rfl wq_Mo_at ⟨Nat.le_of_ble_eq_true rfl, Nat.le_of_ble_eq_true rfl⟩) (ka_preV X9 hP hD hS 0 rfl rfl) rfl rfl hl.1 rfl (lv_room (Nat.le_of_ble_eq_true rfl)) d_Mo_in_65 ⟨Nat.le_of_ble_eq_true rfl, Nat.le_of_ble_eq_true rfl⟩) X9 hD hS rfl (fun H locs hP hD hS => ?_)
      refine lv_iload_n hx hb d_Mo_in_68 rfl (lv_at hl 1 rfl) ?_
      refine lv_icmp_eq (tgt := 75) hx hb d_Mo_in_69 (by decide) (fun c11 => ?_) (fun c11 => ?_)
      · replace h := zo_t c11 h
        refine lv_iload_n hx hb d_Mo_in_75 rfl (lv_at hl 3 rfl) ?_
        refine lv_iload_n hx hb d_Mo_in_76 rfl (lv_at hl 2 rfl) ?_
        refine lv_icmp_ne (tgt := 83) hx hb d_Mo_in_77 (by decide) (fun c12 => ?_) (fun c12 => ?_)
        · replace h := zo_f c12 h
          refine lv_iinc (v := y3 + 1) (lv' := [(3, .int (y3 + 1)), (0, .ref (A 60)), (1, .int y1), (2, .int y2), (4, .int y4)]) hx hb d_Mo_in_83 hl (k := 3) rfl rfl (by decide) rfl (fun ls hl => ?_)
          refine lv_iinc (v := y4 + 1) (lv' := [(4, .int (y4 + 1)), (3, .int (y3 + 1)), (0, .ref (A 60)), (1, .int y1), (2, .int y2)]) hx hb d_Mo_in_86 hl (k := 4) rfl rfl (by decide) rfl (fun ls hl => ?_)
          refine lv_goto (tgt := 39) hx hb d_Mo_in_89 (by decide) ?_
          exact ih39 u y1 y2 (y3 + 1) (y4 + 1) _ _ _ h hP hD hS (lv_sub hl [2, 3, 4, 1, 0] rfl)
        replace h := zo_t c12 h
        refine lv_iload hx hb d_Mo_in_80 (lv_at hl 4 rfl) ?_
        cases h
        exact W.iret hx hb hr (fun t ht hW => ⟨⟨_, (), rfl, rfl, ka_at ht hP⟩, hS.F ht⟩) hS.2.2 d_Mo_in_82 hlk
      replace h := zo_f c11 h
      refine lv_goto (tgt := 86) hx hb d_Mo_in_72 (by decide) ?_
      refine lv_iinc (v := y4 + 1) (lv' := [(4, .int (y4 + 1)), (0, .ref (A 60)), (1, .int y1), (2, .int y2), (3, .int y3)]) hx hb d_Mo_in_86 hl (k := 4) rfl rfl (by decide) rfl (fun ls hl => ?_)
      refine lv_goto (tgt := 39) hx hb d_Mo_in_89 (by decide) ?_
      exact ih39 u y1 y2 y3 (y4 + 1) _ _ _ h hP hD hS (lv_sub hl [1, 2, 3, 4, 0] rfl)
  refine lv_aload_n hx hb d_Mo_in_0 rfl (lv_at hl 0 rfl) ?_
  refine lv_iconst (v := 0) hx hb d_Mo_in_1 (by decide) ?_
  obtain ⟨u1, hu9, h⟩ := zo_l h
  refine va_put (D := D) (ci := 5) (v := .int 0) (ty := .int) (C := R_Mo) (T := T_Mo) (N := 3) hx hb hts wu_Mo ft_Mo fk_Mo nm_Mo hown hK hP hD hS 0 rfl rfl 2 (by decide) (hts _ wf_Mo_16) (fun _ h9 => h9) rfl (by decide +kernel) rfl rfl (Nat.le_of_ble_eq_true rfl) d_Mo_in_2 (fun H locs hP hD hS => ?_)
  replace hP : va_P D vwCl (MW A u1 r) H := by rw [hu9]; exact hP
  replace hD : va_D A9 (MW A u1 r) := by rw [hu9]; exact hD
  refine lv_aload_n hx hb d_Mo_in_5 rfl (lv_at hl 0 rfl) ?_
  refine lv_iload_n hx hb d_Mo_in_6 rfl (lv_at hl 1 rfl) ?_
  obtain ⟨v2, e9, h⟩ := zo_b h
  refine ka_i (va_runV (As := [.int x1]) (rest := []) S9 (c_Mo_there l hl9 D A r _ u1 x1 _ e9) (cwV 1 hts (tg_V wl_Mo_43 wm_Mo_there we_Mo_there wi_Mo wo_Mo_there) rfl rfl rfl wq_Mo_there ⟨Nat.le_of_ble_eq_true rfl, Nat.le_of_ble_eq_true rfl⟩) (ka_preV X9 hP hD hS 0 rfl rfl) rfl rfl hl.1 rfl (lv_room (Nat.le_of_ble_eq_true rfl)) d_Mo_in_7 ⟨Nat.le_of_ble_eq_true rfl, Nat.le_of_ble_eq_true rfl⟩) X9 hD hS rfl (fun H locs hP hD hS => ?_)
  refine lv_if_ne (tgt := 19) hx hb d_Mo_in_10 (by decide) (fun c3 => ?_) (fun c3 => ?_)
  · replace h := zo_f c3 h
    refine lv_aload_n hx hb d_Mo_in_19 rfl (lv_at hl 0 rfl) ?_
    refine lv_iload_n hx hb d_Mo_in_20 rfl (lv_at hl 1 rfl) ?_
    refine lv_iconst (v := 1) hx hb d_Mo_in_21 (by decide) ?_
    obtain ⟨v4, e9, h⟩ := zo_b h
    refine ka_i (va_runV (As := [.int x1, .int 1]) (rest := []) S9 (c_Mo_at l hl9 D A r _ u1 x1 1 _ e9) (cwV 2 hts (tg_V wl_Mo_32 wm_Mo_at we_Mo_at wi_Mo wo_Mo_at) rfl rfl rfl wq_Mo_at ⟨Nat.le_of_ble_eq_true rfl, Nat.le_of_ble_eq_true rfl⟩) (ka_preV X9 hP hD hS 0 rfl rfl) rfl rfl hl.1 rfl (lv_room (Nat.le_of_ble_eq_true rfl)) d_Mo_in_22 ⟨Nat.le_of_ble_eq_true rfl, Nat.le_of_ble_eq_true rfl⟩) X9 hD hS rfl (fun H locs hP hD hS => ?_)
    refine lv_if_eq (tgt := 34) hx hb d_Mo_in_25 (by decide) (fun c5 => ?_) (fun c5 => ?_)
    · replace h := zo_t c5 h
      refine lv_iconst (v := 0) hx hb d_Mo_in_34 (by decide) ?_
      refine lv_istore_n (lv' := [(3, .int 0), (0, .ref (A 60)), (1, .int x1), (2, .int x2)]) hx hb d_Mo_in_35 rfl hl (by decide) rfl (fun ls hl => ?_)
      refine lv_iconst (v := 1) hx hb d_Mo_in_36 (by decide) ?_
      refine lv_istore (lv' := [(4, .int 1), (3, .int 0), (0, .ref (A 60)), (1, .int x1), (2, .int x2)]) hx hb d_Mo_in_37 hl (by decide) rfl (fun ls hl => ?_)
      exact L39 100 u1 x1 x2 0 1 _ _ _ h hP hD hS (lv_sub hl [2, 3, 4, 1, 0] rfl)
    replace h := zo_f c5 h
    refine lv_aload_n hx hb d_Mo_in_28 rfl (lv_at hl 0 rfl) ?_
    refine lv_iconst (v := 1) hx hb d_Mo_in_29 (by decide) ?_
    obtain ⟨v13, e9, h⟩ := zo_b h
    refine ka_i (va_runV (As := [.int 1]) (rest := []) S9 (c_Mo_fail l hl9 D A r _ u1 1 _ e9) (cwV 1 hts (tg_V wl_Mo_51 wm_Mo_fail we_Mo_fail wi_Mo wo_Mo_fail) rfl rfl rfl wq_Mo_fail ⟨Nat.le_of_ble_eq_true rfl, Nat.le_of_ble_eq_true rfl⟩) (ka_preV X9 hP hD hS 0 rfl rfl) rfl rfl hl.1 rfl (lv_room (Nat.le_of_ble_eq_true rfl)) d_Mo_in_30 ⟨Nat.le_of_ble_eq_true rfl, Nat.le_of_ble_eq_true rfl⟩) X9 hD hS rfl (fun H locs hP hD hS => ?_)
    cases h
    exact W.iret hx hb hr (fun t ht hW => ⟨⟨_, (), rfl, rfl, ka_at ht hP⟩, hS.F ht⟩) hS.2.2 d_Mo_in_33 hlk
  replace h := zo_t c3 h
  refine lv_aload_n hx hb d_Mo_in_13 rfl (lv_at hl 0 rfl) ?_
  refine lv_iconst (v := 2) hx hb d_Mo_in_14 (by decide) ?_
  obtain ⟨v14, e9, h⟩ := zo_b h
  refine ka_i (va_runV (As := [.int 2]) (rest := []) S9 (c_Mo_fail l hl9 D A r _ u1 2 _ e9) (cwV 1 hts (tg_V wl_Mo_51 wm_Mo_fail we_Mo_fail wi_Mo wo_Mo_fail) rfl rfl rfl wq_Mo_fail ⟨Nat.le_of_ble_eq_true rfl, Nat.le_of_ble_eq_true rfl⟩) (ka_preV X9 hP hD hS 0 rfl rfl) rfl rfl hl.1 rfl (lv_room (Nat.le_of_ble_eq_true rfl)) d_Mo_in_15 ⟨Nat.le_of_ble_eq_true rfl, Nat.le_of_ble_eq_true rfl⟩) X9 hD hS rfl (fun H locs hP hD hS => ?_)
  cases h
  exact W.iret hx hb hr (fun t ht hW => ⟨⟨_, (), rfl, rfl, ka_at ht hP⟩, hS.F ht⟩) hS.2.2 d_Mo_in_18 hlk
def f_Mo_count_L9 : Nat → RS → Int32 → Int32 → Int32 → Option (Int32 × RS)
  | 0, _, _, _, _ => none
  | n + 1, u, y1, y2, y3 => if 4 ≤ y3 then (if y1 = 0 then ((f_Mo_objects u).bind fun v7 => some (v7, u)) else (if y1 = 1 then (if (1550 : Int32) < 0 ∨ 1552 ≤ (1550 : Int32).toNatClampNeg then none else some (gM_row u (1550 : Int32).toNatClampNeg, u)) else (if y1 = 2 then (if (1551 : Int32) < 0 ∨ 1552 ≤ (1551 : Int32).toNatClampNeg then none else some (gM_row u (1551 : Int32).toNatClampNeg, u)) else (if y1 = 3 then (some (y2, u)) else (some ((-1), u)))))) else ((f_Mo_of u y3 0).bind fun v8 => f_Mo_count_L9 n u y1 (y2 + v8) (y3 + 1))
def f_Mo_count (σ : RS) (x1 : Int32) : Option (Int32 × RS) := zl (sM_code σ 0) fun u1 => f_Mo_count_L9 100 u1 x1 0 0
set_option maxRecDepth 100000 in
set_option maxHeartbeats 4000000 in
theorem c_Mo_count (l : Launch) (hl9 : l.stackTraces = false) (D : va_G) (A : Nat → Nat) (r : va_W) (sz : Nat) (σ : RS) (x1 : Int32) (z : Int32 × RS) (h : f_Mo_count σ x1 = some z) : Met l y_Mo_count (Cond.code y_Mo_count b_Mo_count 4 (some .int) :: T0) ({ frames := 2, cells := 0, slots := 0, locals := 44 } : Room) (va_Pc [.ref (A 60), .int x1] (ka_Wd D A (MW A σ r) sz)) (ka_Ri D z.1 (MW A z.2 r) (va_A (MW A σ r) sz)) 0 0 (va_A (MW A σ r) sz) := by
  unfold f_Mo_count at h
  refine ka_of (own := R_Mo) (fun A9 => ka_Ri D z.1 (MW A z.2 r) A9) (by decide) rfl (Nat.le_of_ble_eq_true rfl) ?_
  intro p e s m below meth c A9 ls S9 hr hlk hex X9 hP hD hl
  obtain ⟨hx, hb, hml, hown, hts⟩ := id S9
  have hK := X9.2.1
  have hS : va_S A9 s.heap s.heap [] := va_S.rf
  replace hl : lv_has ls 4 [(0, .ref (A 60)), (1, .int x1)] := hl
  have L9 : ∀ (n : Nat) (u : RS) (y1 y2 y3 : Int32) (H : Heap) (locs : List Loc) (ls : Array Slot), f_Mo_count_L9 n u y1 y2 y3 = some z → va_P D vwCl (MW A u r) H → va_D A9 (MW A u r) → va_S A9 s.heap H locs → lv_has ls 4 [(0, .ref (A 60)), (1, .int y1), (2, .int y2), (3, .int y3)] → W p l e ({ frames := 2, cells := 0, slots := 0, locals := 44 } : Room) s m [.ref (A 60), .int x1].toArray below meth c H locs 0 0 (MQ below (ka_Ri D z.1 (MW A z.2 r) A9) [.ref (A 60), .int x1].toArray s 0 0 A9) (F0 m 9 ls []) := by
    intro n
    induction n with
    | zero => intro u y1 y2 y3 H locs ls h; cases h
    | succ n ih9 =>
      intro u y1 y2 y3 H locs ls h hP hD hS hl
      rw [f_Mo_count_L9] at h
      refine lv_iload_n hx hb d_Mo_count_9 rfl (lv_at hl 3 rfl) ?_
      refine lv_iconst (v := 4) hx hb d_Mo_count_10 (by decide) ?_
      refine lv_icmp_ge (tgt := 29) hx hb d_Mo_count_11 (by decide) (fun c2 => ?_) (fun c2 => ?_)
      · replace h := zo_t c2 h
        refine lv_iload_n hx hb d_Mo_count_29 rfl (lv_at hl 1 rfl) ?_
        refine lv_if_ne (tgt := 40) hx hb d_Mo_count_30 (by decide) (fun c3 => ?_) (fun c3 => ?_)
        · replace h := zo_f c3 h
          refine lv_iload_n hx hb d_Mo_count_40 rfl (lv_at hl 1 rfl) ?_
          refine lv_iconst (v := 1) hx hb d_Mo_count_41 (by decide) ?_
          refine lv_icmp_ne (tgt := 56) hx hb d_Mo_count_42 (by decide) (fun c4 => ?_) (fun c4 => ?_)
          · replace h := zo_f c4 h
            refine lv_iload_n hx hb d_Mo_count_56 rfl (lv_at hl 1 rfl) ?_
            refine lv_iconst (v := 2) hx hb d_Mo_count_57 (by decide) ?_
            refine lv_icmp_ne (tgt := 72) hx hb d_Mo_count_58 (by decide) (fun c5 => ?_) (fun c5 => ?_)
            · replace h := zo_f c5 h
              refine lv_iload_n hx hb d_Mo_count_72 rfl (lv_at hl 1 rfl) ?_
              refine lv_iconst (v := 3) hx hb d_Mo_count_73 (by decide) ?_
              refine lv_icmp_ne (tgt := 81) hx hb d_Mo_count_74 (by decide) (fun c6 => ?_) (fun c6 => ?_)
              · replace h := zo_f c6 h
                refine lv_iconst (v := (-1)) hx hb d_Mo_count_81 (by decide) ?_
                cases h
                exact W.iret hx hb hr (fun t ht hW => ⟨⟨_, (), rfl, rfl, ka_at ht hP⟩, hS.F ht⟩) hS.2.2 d_Mo_count_82 hlk
              replace h := zo_t c6 h
              refine lv_iload_n hx hb d_Mo_count_77 rfl (lv_at hl 2 rfl) ?_
              refine lv_goto (tgt := 82) hx hb d_Mo_count_78 (by decide) ?_
              cases h
              exact W.iret hx hb hr (fun t ht hW => ⟨⟨_, (), rfl, rfl, ka_at ht hP⟩, hS.F ht⟩) hS.2.2 d_Mo_count_82 hlk
            replace h := zo_t c5 h
            refine lv_aload_n hx hb d_Mo_count_61 rfl (lv_at hl 0 rfl) ?_
            refine va_get (D := D) (ci := 5) (v := .ref (A 61)) (C := R_Mo) (T := T_Mo) (N := 3) hx hb hts wu_Mo hown hK hP 0 rfl rfl 0 (by decide) (hts _ wf_Mo_7) (fun _ h9 => h9) rfl d_Mo_count_62 ?_
            refine lv_sipush (v := 1551) hx hb d_Mo_count_65 (by decide) ?_
            obtain ⟨i9, h⟩ := zo_i h
            refine va_iald hx hb hK hP 1 0 rfl rfl i9 d_Mo_count_68 ?_
            refine lv_goto (tgt := 82) hx hb d_Mo_count_69 (by decide) ?_
            cases h
            exact W.iret hx hb hr (fun t ht hW => ⟨⟨_, (), rfl, rfl, ka_at ht hP⟩, hS.F ht⟩) hS.2.2 d_Mo_count_82 hlk
          replace h := zo_t c4 h
          refine lv_aload_n hx hb d_Mo_count_45 rfl (lv_at hl 0 rfl) ?_
          refine va_get (D := D) (ci := 5) (v := .ref (A 61)) (C := R_Mo) (T := T_Mo) (N := 3) hx hb hts wu_Mo hown hK hP 0 rfl rfl 0 (by decide) (hts _ wf_Mo_7) (fun _ h9 => h9) rfl d_Mo_count_46 ?_
          refine lv_sipush (v := 1550) hx hb d_Mo_count_49 (by decide) ?_
          obtain ⟨i9, h⟩ := zo_i h
          refine va_iald hx hb hK hP 1 0 rfl rfl i9 d_Mo_count_52 ?_
          refine lv_goto (tgt := 82) hx hb d_Mo_count_53 (by decide) ?_
          cases h
          exact W.iret hx hb hr (fun t ht hW => ⟨⟨_, (), rfl, rfl, ka_at ht hP⟩, hS.F ht⟩) hS.2.2 d_Mo_count_82 hlk
        replace h := zo_t c3 h
        refine lv_aload_n hx hb d_Mo_count_33 rfl (lv_at hl 0 rfl) ?_
        obtain ⟨v7, e9, h⟩ := zo_b h
        refine ka_i (va_runV (As := []) (rest := []) S9 (c_Mo_objects l hl9 D A r _ u _ e9) (cwV 0 hts (tg_V wl_Mo_122 wm_Mo_objects we_Mo_objects wi_Mo wo_Mo_objects) rfl rfl rfl wq_Mo_objects ⟨Nat.le_of_ble_eq_true rfl, Nat.le_of_ble_eq_true rfl⟩) (ka_preV X9 hP hD hS 0 rfl rfl) rfl rfl hl.1 rfl (lv_room (Nat.le_of_ble_eq_true rfl)) d_Mo_count_34 ⟨Nat.le_of_ble_eq_true rfl, Nat.le_of_ble_eq_true rfl⟩) X9 hD hS rfl (fun H locs hP hD hS => ?_)
        refine lv_goto (tgt := 82) hx hb d_Mo_count_37 (by decide) ?_
        cases h
        exact W.iret hx hb hr (fun t ht hW => ⟨⟨_, (), rfl, rfl, ka_at ht hP⟩, hS.F ht⟩) hS.2.2 d_Mo_count_82 hlk
      replace h := zo_f c2 h
      refine lv_iload_n hx hb d_Mo_count_14 rfl (lv_at hl 2 rfl) ?_
      refine lv_aload_n hx hb d_Mo_count_15 rfl (lv_at hl 0 rfl) ?_
      refine lv_iload_n hx hb d_Mo_count_16 rfl (lv_at hl 3 rfl) ?_
      refine lv_iconst (v := 0) hx hb d_Mo_count_17 (by decide) ?_
      obtain ⟨v8, e9, h⟩ := zo_b h
      refine ka_i (va_runV (As := [.int y3, .int 0]) (rest := [.int y2]) S9 (c_Mo_of l hl9 D A r _ u y3 0 _ e9) (cwV 2 hts (tg_V wl_Mo_116 wm_Mo_of we_Mo_of wi_Mo wo_Mo_of) rfl rfl rfl wq_Mo_of ⟨Nat.le_of_ble_eq_true rfl, Nat.le_of_ble_eq_true rfl⟩) (ka_preV X9 hP hD hS 0 rfl rfl) rfl rfl hl.1 rfl (lv_room (Nat.le_of_ble_eq_true rfl)) d_Mo_count_18 ⟨Nat.le_of_ble_eq_true rfl, Nat.le_of_ble_eq_true rfl⟩) X9 hD hS rfl (fun H locs hP hD hS => ?_)
      refine lv_iadd hx hb d_Mo_count_21 ?_
      refine lv_istore_n (lv' := [(2, .int (y2 + v8)), (0, .ref (A 60)), (1, .int y1), (3, .int y3)]) hx hb d_Mo_count_22 rfl hl (by decide) rfl (fun ls hl => ?_)
      refine lv_iinc (v := y3 + 1) (lv' := [(3, .int (y3 + 1)), (2, .int (y2 + v8)), (0, .ref (A 60)), (1, .int y1)]) hx hb d_Mo_count_23 hl (k := 3) rfl rfl (by decide) rfl (fun ls hl => ?_)
      refine lv_goto (tgt := 9) hx hb d_Mo_count_26 (by decide) ?_
      exact ih9 u y1 (y2 + v8) (y3 + 1) _ _ _ h hP hD hS (lv_sub hl [2, 3, 1, 0] rfl)
  refine lv_aload_n hx hb d_Mo_count_0 rfl (lv_at hl 0 rfl) ?_
  refine lv_iconst (v := 0) hx hb d_Mo_count_1 (by decide) ?_
  obtain ⟨u1, hu9, h⟩ := zo_l h
  refine va_put (D := D) (ci := 5) (v := .int 0) (ty := .int) (C := R_Mo) (T := T_Mo) (N := 3) hx hb hts wu_Mo ft_Mo fk_Mo nm_Mo hown hK hP hD hS 0 rfl rfl 2 (by decide) (hts _ wf_Mo_16) (fun _ h9 => h9) rfl (by decide +kernel) rfl rfl (Nat.le_of_ble_eq_true rfl) d_Mo_count_2 (fun H locs hP hD hS => ?_)
  replace hP : va_P D vwCl (MW A u1 r) H := by rw [hu9]; exact hP
  replace hD : va_D A9 (MW A u1 r) := by rw [hu9]; exact hD
  refine lv_iconst (v := 0) hx hb d_Mo_count_5 (by decide) ?_
  refine lv_istore_n (lv' := [(2, .int 0), (0, .ref (A 60)), (1, .int x1)]) hx hb d_Mo_count_6 rfl hl (by decide) rfl (fun ls hl => ?_)
  refine lv_iconst (v := 0) hx hb d_Mo_count_7 (by decide) ?_
  refine lv_istore_n (lv' := [(3, .int 0), (2, .int 0), (0, .ref (A 60)), (1, .int x1)]) hx hb d_Mo_count_8 rfl hl (by decide) rfl (fun ls hl => ?_)
  exact L9 100 u1 x1 0 0 _ _ _ h hP hD hS (lv_sub hl [2, 3, 1, 0] rfl)
