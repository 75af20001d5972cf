def f_Mo_giveCategory (σ : RS) (x1 : Int32) : Option (Int32 × RS) := (f_Mo_threadOnly σ x1).bind fun v1 => if v1.1 = 0 then (some (0, v1.2)) else (if (1551 : Int32) < 0 ∨ 1552 ≤ (1551 : Int32).toNatClampNeg then none else if (gM_row v1.2 (1551 : Int32).toNatClampNeg) = 8 then ((f_Mo_fail v1.2 4).bind fun v49 => some (v49.1, v49.2)) else ((f_Mo_at v1.2 x1 2).bind fun v4 => (f_Mo_like v1.2 v4 (gM_row v1.2 (1551 : Int32).toNatClampNeg) 4).bind fun v5 => if 0 ≤ v5 then ((f_Mo_at v1.2 x1 6).bind fun v7 => (f_Mo_like v1.2 v7 (gM_row v1.2 (1551 : Int32).toNatClampNeg) 3).bind fun v8 => if 0 ≤ v8 then (if (1550 : Int32) < 0 ∨ 1552 ≤ (1550 : Int32).toNatClampNeg then none else if ((gM_row v1.2 (1550 : Int32).toNatClampNeg) + (0 + 0)) ≤ 60 then ((f_Mo_at v1.2 x1 2).bind fun v11 => (f_Mo_made v1.2 v11 (gM_row v1.2 (1551 : Int32).toNatClampNeg) 4).bind fun v12 => if ((17 * x1) + 2) < 0 ∨ 1552 ≤ ((17 * x1) + 2).toNatClampNeg then none else zl (sM_row v12.2 (upd (gM_row v12.2) ((17 * x1) + 2).toNatClampNeg v12.1)) fun u13 => (f_Mo_at u13 x1 6).bind fun v14 => (f_Mo_made u13 v14 (gM_row v1.2 (1551 : Int32).toNatClampNeg) 3).bind fun v15 => if ((17 * x1) + 6) < 0 ∨ 1552 ≤ ((17 * x1) + 6).toNatClampNeg then none else zl (sM_row v15.2 (upd (gM_row v15.2) ((17 * x1) + 6).toNatClampNeg v15.1)) fun u16 => if (1551 : Int32) < 0 ∨ 1552 ≤ (1551 : Int32).toNatClampNeg then none else if (1551 : Int32) < 0 ∨ 1552 ≤ (1551 : Int32).toNatClampNeg then none else zl (sM_row u16 (upd (gM_row u16) (1551 : Int32).toNatClampNeg ((gM_row u16 (1551 : Int32).toNatClampNeg) + 1))) fun u17 => some (gM_row v1.2 (1551 : Int32).toNatClampNeg, u17)) else ((f_Mo_fail v1.2 4).bind fun v18 => some (v18.1, v18.2))) else (if (1550 : Int32) < 0 ∨ 1552 ≤ (1550 : Int32).toNatClampNeg then none else if ((gM_row v1.2 (1550 : Int32).toNatClampNeg) + (0 + 1)) ≤ 60 then ((f_Mo_at v1.2 x1 2).bind fun v20 => (f_Mo_made v1.2 v20 (gM_row v1.2 (1551 : Int32).toNatClampNeg) 4).bind fun v21 => if ((17 * x1) + 2) < 0 ∨ 1552 ≤ ((17 * x1) + 2).toNatClampNeg then none else zl (sM_row v21.2 (upd (gM_row v21.2) ((17 * x1) + 2).toNatClampNeg v21.1)) fun u22 => (f_Mo_at u22 x1 6).bind fun v23 => (f_Mo_made u22 v23 (gM_row v1.2 (1551 : Int32).toNatClampNeg) 3).bind fun v24 => if ((17 * x1) + 6) < 0 ∨ 1552 ≤ ((17 * x1) + 6).toNatClampNeg then none else zl (sM_row v24.2 (upd (gM_row v24.2) ((17 * x1) + 6).toNatClampNeg v24.1)) fun u25 => if (1551 : Int32) < 0 ∨ 1552 ≤ (1551 : Int32).toNatClampNeg then none else if (1551 : Int32) < 0 ∨ 1552 ≤ (1551 : Int32).toNatClampNeg then none else zl (sM_row u25 (upd (gM_row u25) (1551 : Int32).toNatClampNeg ((gM_row u25 (1551 : Int32).toNatClampNeg) + 1))) fun u26 => some (gM_row v1.2 (1551 : Int32).toNatClampNeg, u26)) else ((f_Mo_fail v1.2 4).bind fun v27 => some (v27.1, v27.2)))) else ((f_Mo_at v1.2 x1 6).bind fun v28 => (f_Mo_like v1.2 v28 (gM_row v1.2 (1551 : Int32).toNatClampNeg) 3).bind fun v29 => if 0 ≤ v29 then (if (1550 : Int32) < 0 ∨ 1552 ≤ (1550 : Int32).toNatClampNeg then none else if ((gM_row v1.2 (1550 : Int32).toNatClampNeg) + (1 + 0)) ≤ 60 then ((f_Mo_at v1.2 x1 2).bind fun v32 => (f_Mo_made v1.2 v32 (gM_row v1.2 (1551 : Int32).toNatClampNeg) 4).bind fun v33 => if ((17 * x1) + 2) < 0 ∨ 1552 ≤ ((17 * x1) + 2).toNatClampNeg then none else zl (sM_row v33.2 (upd (gM_row v33.2) ((17 * x1) + 2).toNatClampNeg v33.1)) fun u34 => (f_Mo_at u34 x1 6).bind fun v35 => (f_Mo_made u34 v35 (gM_row v1.2 (1551 : Int32).toNatClampNeg) 3).bind fun v36 => if ((17 * x1) + 6) < 0 ∨ 1552 ≤ ((17 * x1) + 6).toNatClampNeg then none else zl (sM_row v36.2 (upd (gM_row v36.2) ((17 * x1) + 6).toNatClampNeg v36.1)) fun u37 => if (1551 : Int32) < 0 ∨ 1552 ≤ (1551 : Int32).toNatClampNeg then none else if (1551 : Int32) < 0 ∨ 1552 ≤ (1551 : Int32).toNatClampNeg then none else zl (sM_row u37 (upd (gM_row u37) (1551 : Int32).toNatClampNeg ((gM_row u37 (1551 : Int32).toNatClampNeg) + 1))) fun u38 => some (gM_row v1.2 (1551 : Int32).toNatClampNeg, u38)) else ((f_Mo_fail v1.2 4).bind fun v39 => some (v39.1, v39.2))) else (if (1550 : Int32) < 0 ∨ 1552 ≤ (1550 : Int32).toNatClampNeg then none else if ((gM_row v1.2 (1550 : Int32).toNatClampNeg) + (1 + 1)) ≤ 60 then ((f_Mo_at v1.2 x1 2).bind fun v41 => (f_Mo_made v1.2 v41 (gM_row v1.2 (1551 : Int32).toNatClampNeg) 4).bind fun v42 => if ((17 * x1) + 2) < 0 ∨ 1552 ≤ ((17 * x1) + 2).toNatClampNeg then none else zl (sM_row v42.2 (upd (gM_row v42.2) ((17 * x1) + 2).toNatClampNeg v42.1)) fun u43 => (f_Mo_at u43 x1 6).bind fun v44 => (f_Mo_made u43 v44 (gM_row v1.2 (1551 : Int32).toNatClampNeg) 3).bind fun v45 => if ((17 * x1) + 6) < 0 ∨ 1552 ≤ ((17 * x1) + 6).toNatClampNeg then none else zl (sM_row v45.2 (upd (gM_row v45.2) ((17 * x1) + 6).toNatClampNeg v45.1)) fun u46 => if (1551 : Int32) < 0 ∨ 1552 ≤ (1551 : Int32).toNatClampNeg then none else if (1551 : Int32) < 0 ∨ 1552 ≤ (1551 : Int32).toNatClampNeg then none else zl (sM_row u46 (upd (gM_row u46) (1551 : Int32).toNatClampNeg ((gM_row u46 (1551 : Int32).toNatClampNeg) + 1))) fun u47 => some (gM_row v1.2 (1551 : Int32).toNatClampNeg, u47)) else ((f_Mo_fail v1.2 4).bind fun v48 => some (v48.1, v48.2))))))
set_option maxRecDepth 100000 in
set_option maxHeartbeats 4000000 in
theorem c_Mo_giveCategory (l : Launch) (hl9 : l.stackTraces = false) (D : va_G) (A : Nat → Nat) (r : va_W) (sz : Nat) (σ : RS) (x1 : Int32) (z : Int32 × RS) (h : f_Mo_giveCategory σ x1 = some z) : Met l y_Mo_giveCategory (Cond.code y_Mo_giveCategory b_Mo_giveCategory 4 (some .int) :: T0) ({ frames := 3, cells := 0, slots := 0, locals := 73 } : Room) (va_Pc [.ref (A 60), .int x1] (ka_Wd D A (MW A σ r) sz)) (ka_Ri D z.1 (MW A z.2 r) (va_A (MW A σ r) sz)) 0 0 (va_A (MW A σ r) sz) := by
  unfold f_Mo_giveCategory at h
  refine ka_of (own := R_Mo) (fun A9 => ka_Ri D z.1 (MW A z.2 r) A9) (by decide) rfl (Nat.le_of_ble_eq_true rfl) ?_
  intro p e s m below meth c A9 ls S9 hr hlk hex X9 hP hD hl
  obtain ⟨hx, hb, hml, hown, hts⟩ := id S9
  have hK := X9.2.1
  have hS : va_S A9 s.heap s.heap [] := va_S.rf
  replace hl : lv_has ls 4 [(0, .ref (A 60)), (1, .int x1)] := hl
  refine lv_aload_n hx hb d_Mo_giveCategory_0 rfl (lv_at hl 0 rfl) ?_
  refine lv_iload_n hx hb d_Mo_giveCategory_1 rfl (lv_at hl 1 rfl) ?_
  obtain ⟨v1, e9, h⟩ := zo_b h
  refine ka_i (va_runV (As := [.int x1]) (rest := []) S9 (c_Mo_threadOnly l hl9 D A r _ σ x1 _ e9) (cwV 1 hts (tg_V wl_Mo_60 wm_Mo_threadOnly we_Mo_threadOnly wi_Mo wo_Mo_threadOnly) rfl rfl rfl wq_Mo_threadOnly ⟨Nat.le_of_ble_eq_true rfl, Nat.le_of_ble_eq_true rfl⟩) (ka_preV X9 hP hD hS 0 rfl rfl) rfl rfl hl.1 rfl (lv_room (Nat.le_of_ble_eq_true rfl)) d_Mo_giveCategory_2 ⟨Nat.le_of_ble_eq_true rfl, Nat.le_of_ble_eq_true rfl⟩) X9 hD hS rfl (fun H locs hP hD hS => ?_)
  refine lv_if_ne (tgt := 10) hx hb d_Mo_giveCategory_5 (by decide) (fun c2 => ?_) (fun c2 => ?_)
  · replace h := zo_f c2 h
    refine lv_aload_n hx hb d_Mo_giveCategory_10 rfl (lv_at hl 0 rfl) ?_
    refine va_get (D := D) (ci := 5) (v := .ref (A 61)) (C := R_Mo) (T := T_Mo) (N := 3) hx hb hts wu_Mo hown hK hP 0 rfl rfl 0 (by decide) (hts _ wf_Mo_7) (fun _ h9 => h9) rfl d_Mo_giveCategory_11 ?_
    refine lv_sipush (v := 1551) hx hb d_Mo_giveCategory_14 (by decide) ?_
    obtain ⟨i9, h⟩ := zo_i h
    refine va_iald hx hb hK hP 1 0 rfl rfl i9 d_Mo_giveCategory_17 ?_
    refine lv_istore_n (lv' := [(2, .int (gM_row v1.2 (1551 : Int32).toNatClampNeg)), (0, .ref (A 60)), (1, .int x1)]) hx hb d_Mo_giveCategory_18 rfl hl (by decide) rfl (fun ls hl => ?_)
    refine lv_iload_n hx hb d_Mo_giveCategory_19 rfl (lv_at hl 0 rfl) ?_
    refine lv_bipush (v := 8) hx hb d_Mo_giveCategory_20 (by decide) ?_
    refine lv_icmp_ne (tgt := 31) hx hb d_Mo_giveCategory_22 (by decide) (fun c3 => ?_) (fun c3 => ?_)
    · replace h := zo_f c3 h
      refine lv_aload_n hx hb d_Mo_giveCategory_31 rfl (lv_at hl 1 rfl) ?_
      refine lv_aload_n hx hb d_Mo_giveCategory_32 rfl (lv_at hl 1 rfl) ?_
      refine lv_iload_n hx hb d_Mo_giveCategory_33 rfl (lv_at hl 2 rfl) ?_
      refine lv_iconst (v := 2) hx hb d_Mo_giveCategory_34 (by decide) ?_
      obtain ⟨v4, e9, h⟩ := zo_b h
      refine ka_i (va_runV (As := [.int x1, .int 2]) (rest := [.ref (A 60)]) S9 (c_Mo_at l hl9 D A r _ v1.2 x1 2 _ e9) (cwV 2 hts (tg_V wl_Mo_32 wm_Mo_at we_Mo_at wi_Mo wo_Mo_at) rfl rfl rfl wq_Mo_at ⟨Nat.le_of_ble_eq_true rfl, Nat.le_of_ble_eq_true rfl⟩) (ka_preV X9 hP hD hS 0 rfl rfl) rfl rfl hl.1 rfl (lv_room (Nat.le_of_ble_eq_true rfl)) d_Mo_giveCategory_35 ⟨Nat.le_of_ble_eq_true rfl, Nat.le_of_ble_eq_true rfl⟩) X9 hD hS rfl (fun H locs hP hD hS => ?_)
      refine lv_iload_n hx hb d_Mo_giveCategory_38 rfl (lv_at hl 0 rfl) ?_
      refine lv_iconst (v := 4) hx hb d_Mo_giveCategory_39 (by decide) ?_
      obtain ⟨v5, e9, h⟩ := zo_b h
      refine ka_i (va_runV (As := [.int v4, .int (gM_row v1.2 (1551 : Int32).toNatClampNeg), .int 4]) (rest := []) S9 (c_Mo_like l hl9 D A r _ v1.2 v4 (gM_row v1.2 (1551 : Int32).toNatClampNeg) 4 _ e9) (cwV 3 hts (tg_V wl_Mo_47 wm_Mo_like we_Mo_like wi_Mo wo_Mo_like) rfl rfl rfl wq_Mo_like ⟨Nat.le_of_ble_eq_true rfl, Nat.le_of_ble_eq_true rfl⟩) (ka_preV X9 hP hD hS 0 rfl rfl) rfl rfl hl.1 rfl (lv_room (Nat.le_of_ble_eq_true rfl)) d_Mo_giveCategory_40 ⟨Nat.le_of_ble_eq_true rfl, Nat.le_of_ble_eq_true rfl⟩) X9 hD hS rfl (fun H locs hP hD hS => ?_)
      refine lv_if_ge (tgt := 50) hx hb d_Mo_giveCategory_43 (by decide) (fun c6 => ?_) (fun c6 => ?_)
      · replace h := zo_t c6 h
        refine lv_iconst (v := 0) hx hb d_Mo_giveCategory_50 (by decide) ?_
        refine lv_aload_n hx hb d_Mo_giveCategory_51 rfl (lv_at hl 1 rfl) ?_
        refine lv_aload_n hx hb d_Mo_giveCategory_52 rfl (lv_at hl 1 rfl) ?_
        refine lv_iload_n hx hb d_Mo_giveCategory_53 rfl (lv_at hl 2 rfl) ?_
        refine lv_bipush (v := 6) hx hb d_Mo_giveCategory_54 (by decide) ?_
        obtain ⟨v7, e9, h⟩ := zo_b h
        refine ka_i (va_runV (As := [.int x1, .int 6]) (rest := [.ref (A 60), .int 0]) S9 (c_Mo_at l hl9 D A r _ v1.2 x1 6 _ e9) (cwV 2 hts (tg_V wl_Mo_32 wm_Mo_at we_Mo_at wi_Mo wo_Mo_at) rfl rfl rfl wq_Mo_at ⟨Nat.le_of_ble_eq_true rfl, Nat.le_of_ble_eq_true rfl⟩) (ka_preV X9 hP hD hS 0 rfl rfl) rfl rfl hl.1 rfl (lv_room (Nat.le_of_ble_eq_true rfl)) d_Mo_giveCategory_56 ⟨Nat.le_of_ble_eq_true rfl, Nat.le_of_ble_eq_true rfl⟩) X9 hD hS rfl (fun H locs hP hD hS => ?_)
        refine lv_iload_n hx hb d_Mo_giveCategory_59 rfl (lv_at hl 0 rfl) ?_
        refine lv_iconst (v := 3) hx hb d_Mo_giveCategory_60 (by decide) ?_
        obtain ⟨v8, e9, h⟩ := zo_b h
        refine ka_i (va_runV (As := [.int v7, .int (gM_row v1.2 (1551 : Int32).toNatClampNeg), .int 3]) (rest := [.int 0]) S9 (c_Mo_like l hl9 D A r _ v1.2 v7 (gM_row v1.2 (1551 : Int32).toNatClampNeg) 3 _ e9) (cwV 3 hts (tg_V wl_Mo_47 wm_Mo_like we_Mo_like wi_Mo wo_Mo_like) rfl rfl rfl wq_Mo_like ⟨Nat.le_of_ble_eq_true rfl, Nat.le_of_ble_eq_true rfl⟩) (ka_preV X9 hP hD hS 0 rfl rfl) rfl rfl hl.1 rfl (lv_room (Nat.le_of_ble_eq_true rfl)) d_Mo_giveCategory_61 ⟨Nat.le_of_ble_eq_true rfl, Nat.le_of_ble_eq_true rfl⟩) X9 hD hS rfl (fun H locs hP hD hS => ?_)
        refine lv_if_ge (tgt := 71) hx hb d_Mo_giveCategory_64 (by decide) (fun c9 => ?_) (fun c9 => ?_)
        · replace h := zo_t c9 h
          refine lv_iconst (v := 0) hx hb d_Mo_giveCategory_71 (by decide) ?_
          refine lv_iadd hx hb d_Mo_giveCategory_72 ?_
          refine lv_istore_n (lv' := [(3, .int (0 + 0)), (2, .int (gM_row v1.2 (1551 : Int32).toNatClampNeg)), (0, .ref (A 60)), (1, .int x1)]) hx hb d_Mo_giveCategory_73 rfl hl (by decide) rfl (fun ls hl => ?_)
          refine lv_aload_n hx hb d_Mo_giveCategory_74 rfl (lv_at hl 2 rfl) ?_
          refine va_get (D := D) (ci := 5) (v := .ref (A 61)) (C := R_Mo) (T := T_Mo) (N := 3) hx hb hts wu_Mo hown hK hP 0 rfl rfl 0 (by decide) (hts _ wf_Mo_7) (fun _ h9 => h9) rfl d_Mo_giveCategory_75 ?_
          refine lv_sipush (v := 1550) hx hb d_Mo_giveCategory_78 (by decide) ?_
          obtain ⟨i9, h⟩ := zo_i h
          refine va_iald hx hb hK hP 1 0 rfl rfl i9 d_Mo_giveCategory_81 ?_
          refine lv_iload_n hx hb d_Mo_giveCategory_82 rfl (lv_at hl 0 rfl) ?_
          refine lv_iadd hx hb d_Mo_giveCategory_83 ?_
          refine lv_bipush (v := 60) hx hb d_Mo_giveCategory_84 (by decide) ?_
          refine lv_icmp_le (tgt := 95) hx hb d_Mo_giveCategory_86 (by decide) (fun c10 => ?_) (fun c10 => ?_)
          · replace h := zo_t c10 h
            refine lv_aload_n hx hb d_Mo_giveCategory_95 rfl (lv_at hl 2 rfl) ?_
            refine va_get (D := D) (ci := 5) (v := .ref (A 61)) (C := R_Mo) (T := T_Mo) (N := 3) hx hb hts wu_Mo hown hK hP 0 rfl rfl 0 (by decide) (hts _ wf_Mo_7) (fun _ h9 => h9) rfl d_Mo_giveCategory_96 ?_
            refine lv_bipush (v := 17) hx hb d_Mo_giveCategory_99 (by decide) ?_
            refine lv_iload_n hx hb d_Mo_giveCategory_101 rfl (lv_at hl 3 rfl) ?_
            refine lv_imul hx hb d_Mo_giveCategory_102 ?_
            refine lv_iconst (v := 2) hx hb d_Mo_giveCategory_103 (by decide) ?_
            refine lv_iadd hx hb d_Mo_giveCategory_104 ?_
            refine lv_aload_n hx hb d_Mo_giveCategory_105 rfl (lv_at hl 2 rfl) ?_
            refine lv_aload_n hx hb d_Mo_giveCategory_106 rfl (lv_at hl 2 rfl) ?_
            refine lv_iload_n hx hb d_Mo_giveCategory_107 rfl (lv_at hl 3 rfl) ?_
            refine lv_iconst (v := 2) hx hb d_Mo_giveCategory_108 (by decide) ?_
            obtain ⟨v11, e9, h⟩ := zo_b h
            refine ka_i (va_runV (As := [.int x1, .int 2]) (rest := [.ref (A 60), .int ((17 * x1) + 2), .ref (A 61)]) S9 (c_Mo_at l hl9 D A r _ v1.2 x1 2 _ e9) (cwV 2 hts (tg_V wl_Mo_32 wm_Mo_at we_Mo_at wi_Mo wo_Mo_at) rfl rfl rfl wq_Mo_at ⟨Nat.le_of_ble_eq_true rfl, Nat.le_of_ble_eq_true rfl⟩) (ka_preV X9 hP hD hS 0 rfl rfl) rfl rfl hl.1 rfl (lv_room (Nat.le_of_ble_eq_true rfl)) d_Mo_giveCategory_109 ⟨Nat.le_of_ble_eq_true rfl, Nat.le_of_ble_eq_true rfl⟩) X9 hD hS rfl (fun H locs hP hD hS => ?_)
            refine lv_iload_n hx hb d_Mo_giveCategory_112 rfl (lv_at hl 1 rfl) ?_
            refine lv_iconst (v := 4) hx hb d_Mo_giveCategory_113 (by decide) ?_
            obtain ⟨v12, e9, h⟩ := zo_b h
            refine ka_i (va_runV (As := [.int v11, .int (gM_row v1.2 (1551 : Int32).toNatClampNeg), .int 4]) (rest := [.int ((17 * x1) + 2), .ref (A 61)]) S9 (c_Mo_made l hl9 D A r _ v1.2 v11 (gM_row v1.2 (1551 : Int32).toNatClampNeg) 4 _ e9) (cwV 3 hts (tg_V wl_Mo_57 wm_Mo_made we_Mo_made wi_Mo wo_Mo_made) rfl rfl rfl wq_Mo_made ⟨Nat.le_of_ble_eq_true rfl, Nat.le_of_ble_eq_true rfl⟩) (ka_preV X9 hP hD hS 0 rfl rfl) rfl rfl hl.1 rfl (lv_room (Nat.le_of_ble_eq_true rfl)) d_Mo_giveCategory_114 ⟨Nat.le_of_ble_eq_true rfl, Nat.le_of_ble_eq_true rfl⟩) X9 hD hS rfl (fun H locs hP hD hS => ?_)
            obtain ⟨i9, h⟩ := zo_i h
            obtain ⟨u13, hu9, h⟩ := zo_l h
            refine va_iast hx hb hK hP hD hS 1 0 rfl rfl i9 d_Mo_giveCategory_117 (fun H locs hP hD hS => ?_)
            replace hP : va_P D vwCl (MW A u13 r) H := by rw [hu9]; exact hP
            replace hD : va_D A9 (MW A u13 r) := by rw [hu9]; exact hD
            refine lv_aload_n hx hb d_Mo_giveCategory_118 rfl (lv_at hl 2 rfl) ?_
            refine va_get (D := D) (ci := 5) (v := .ref (A 61)) (C := R_Mo) (T := T_Mo) (N := 3) hx hb hts wu_Mo hown hK hP 0 rfl rfl 0 (by decide) (hts _ wf_Mo_7) (fun _ h9 => h9) rfl d_Mo_giveCategory_119 ?_
            refine lv_bipush (v := 17) hx hb d_Mo_giveCategory_122 (by decide) ?_
            refine lv_iload_n hx hb d_Mo_giveCategory_124 rfl (lv_at hl 3 rfl) ?_
            refine lv_imul hx hb d_Mo_giveCategory_125 ?_
            refine lv_bipush (v := 6) hx hb d_Mo_giveCategory_126 (by decide) ?_
            refine lv_iadd hx hb d_Mo_giveCategory_128 ?_
            refine lv_aload_n hx hb d_Mo_giveCategory_129 rfl (lv_at hl 2 rfl) ?_
            refine lv_aload_n hx hb d_Mo_giveCategory_130 rfl (lv_at hl 2 rfl) ?_
            refine lv_iload_n hx hb d_Mo_giveCategory_131 rfl (lv_at hl 3 rfl) ?_
            refine lv_bipush (v := 6) hx hb d_Mo_giveCategory_132 (by decide) ?_
            obtain ⟨v14, e9, h⟩ := zo_b h
            refine ka_i (va_runV (As := [.int x1, .int 6]) (rest := [.ref (A 60), .int ((17 * x1) + 6), .ref (A 61)]) S9 (c_Mo_at l hl9 D A r _ u13 x1 6 _ e9) (cwV 2 hts (tg_V wl_Mo_32 wm_Mo_at we_Mo_at wi_Mo wo_Mo_at) rfl rfl rfl wq_Mo_at ⟨Nat.le_of_ble_eq_true rfl, Nat.le_of_ble_eq_true rfl⟩) (ka_preV X9 hP hD hS 0 rfl rfl) rfl rfl hl.1 rfl (lv_room (Nat.le_of_ble_eq_true rfl)) d_Mo_giveCategory_134 ⟨Nat.le_of_ble_eq_true rfl, Nat.le_of_ble_eq_true rfl⟩) X9 hD hS rfl (fun H locs hP hD hS => ?_)
            refine lv_iload_n hx hb d_Mo_giveCategory_137 rfl (lv_at hl 1 rfl) ?_
            refine lv_iconst (v := 3) hx hb d_Mo_giveCategory_138 (by decide) ?_
            obtain ⟨v15, e9, h⟩ := zo_b h
            refine ka_i (va_runV (As := [.int v14, .int (gM_row v1.2 (1551 : Int32).toNatClampNeg), .int 3]) (rest := [.int ((17 * x1) + 6), .ref (A 61)]) S9 (c_Mo_made l hl9 D A r _ u13 v14 (gM_row v1.2 (1551 : Int32).toNatClampNeg) 3 _ e9) (cwV 3 hts (tg_V wl_Mo_57 wm_Mo_made we_Mo_made wi_Mo wo_Mo_made) rfl rfl rfl wq_Mo_made ⟨Nat.le_of_ble_eq_true rfl, Nat.le_of_ble_eq_true rfl⟩) (ka_preV X9 hP hD hS 0 rfl rfl) rfl rfl hl.1 rfl (lv_room (Nat.le_of_ble_eq_true rfl)) d_Mo_giveCategory_139 ⟨Nat.le_of_ble_eq_true rfl, Nat.le_of_ble_eq_true rfl⟩) X9 hD hS rfl (fun H locs hP hD hS => ?_)
            obtain ⟨i9, h⟩ := zo_i h
            obtain ⟨u16, hu9, h⟩ := zo_l h
            refine va_iast hx hb hK hP hD hS 1 0 rfl rfl i9 d_Mo_giveCategory_142 (fun H locs hP hD hS => ?_)
            replace hP : va_P D vwCl (MW A u16 r) H := by rw [hu9]; exact hP
            replace hD : va_D A9 (MW A u16 r) := by rw [hu9]; exact hD
            refine lv_aload_n hx hb d_Mo_giveCategory_143 rfl (lv_at hl 2 rfl) ?_
            refine va_get (D := D) (ci := 5) (v := .ref (A 61)) (C := R_Mo) (T := T_Mo) (N := 3) hx hb hts wu_Mo hown hK hP 0 rfl rfl 0 (by decide) (hts _ wf_Mo_7) (fun _ h9 => h9) rfl d_Mo_giveCategory_144 ?_
            refine lv_sipush (v := 1551) hx hb d_Mo_giveCategory_147 (by decide) ?_
            refine lv_dup2_11 hx hb d_Mo_giveCategory_150 rfl rfl ?_
            obtain ⟨i9, h⟩ := zo_i h
            refine va_iald hx hb hK hP 1 0 rfl rfl i9 d_Mo_giveCategory_151 ?_
            refine lv_iconst (v := 1) hx hb d_Mo_giveCategory_152 (by decide) ?_
            refine lv_iadd hx hb d_Mo_giveCategory_153 ?_
            obtain ⟨i9, h⟩ := zo_i h
            obtain ⟨u17, hu9, h⟩ := zo_l h
            refine va_iast hx hb hK hP hD hS 1 0 rfl rfl i9 d_Mo_giveCategory_154 (fun H locs hP hD hS => ?_)
            replace hP : va_P D vwCl (MW A u17 r) H := by rw [hu9]; exact hP
            replace hD : va_D A9 (MW A u17 r) := by rw [hu9]; exact hD
            refine lv_iload_n hx hb d_Mo_giveCategory_155 rfl (lv_at hl 1 rfl) ?_
            cases h
            exact W.iret hx hb hr (fun t ht hW => ⟨⟨_, (), rfl, rfl, ka_at ht hP⟩, hS.F ht⟩) hS.2.2 d_Mo_giveCategory_156 hlk
          replace h := zo_f c10 h
          refine lv_aload_n hx hb d_Mo_giveCategory_89 rfl (lv_at hl 2 rfl) ?_
          refine lv_iconst (v := 4) hx hb d_Mo_giveCategory_90 (by decide) ?_
          obtain ⟨v18, e9, h⟩ := zo_b h
          refine ka_i (va_runV (As := [.int 4]) (rest := []) S9 (c_Mo_fail l hl9 D A r _ v1.2 4 _ e9) (cwV 1 hts (tg_V wl_Mo_51 wm_Mo_fail we_Mo_fail wi_Mo wo_Mo_fail) rfl rfl rfl wq_Mo_fail ⟨Nat.le_of_ble_eq_true rfl, Nat.le_of_ble_eq_true rfl⟩) (ka_preV X9 hP hD hS 0 rfl rfl) rfl rfl hl.1 rfl (lv_room (Nat.le_of_ble_eq_true rfl)) d_Mo_giveCategory_91 ⟨Nat.le_of_ble_eq_true rfl, Nat.le_of_ble_eq_true rfl⟩) X9 hD hS rfl (fun H locs hP hD hS => ?_)
          cases h
          exact W.iret hx hb hr (fun t ht hW => ⟨⟨_, (), rfl, rfl, ka_at ht hP⟩, hS.F ht⟩) hS.2.2 d_Mo_giveCategory_94 hlk
        replace h := zo_f c9 h
        refine lv_iconst (v := 1) hx hb d_Mo_giveCategory_67 (by decide) ?_
        refine lv_goto (tgt := 72) hx hb d_Mo_giveCategory_68 (by decide) ?_
        refine lv_iadd hx hb d_Mo_giveCategory_72 ?_
        refine lv_istore_n (lv' := [(3, .int (0 + 1)), (2, .int (gM_row v1.2 (1551 : Int32).toNatClampNeg)), (0, .ref (A 60)), (1, .int x1)]) hx hb d_Mo_giveCategory_73 rfl hl (by decide) rfl (fun ls hl => ?_)
        refine lv_aload_n hx hb d_Mo_giveCategory_74 rfl (lv_at hl 2 rfl) ?_
        refine va_get (D := D) (ci := 5) (v := .ref (A 61)) (C := R_Mo) (T := T_Mo) (N := 3) hx hb hts wu_Mo hown hK hP 0 rfl rfl 0 (by decide) (hts _ wf_Mo_7) (fun _ h9 => h9) rfl d_Mo_giveCategory_75 ?_
        refine lv_sipush (v := 1550) hx hb d_Mo_giveCategory_78 (by decide) ?_
        obtain ⟨i9, h⟩ := zo_i h
        refine va_iald hx hb hK hP 1 0 rfl rfl i9 d_Mo_giveCategory_81 ?_
        refine lv_iload_n hx hb d_Mo_giveCategory_82 rfl (lv_at hl 0 rfl) ?_
        refine lv_iadd hx hb d_Mo_giveCategory_83 ?_
        refine lv_bipush (v := 60) hx hb d_Mo_giveCategory_84 (by decide) ?_
        refine lv_icmp_le (tgt := 95) hx hb d_Mo_giveCategory_86 (by decide) (fun c19 => ?_) (fun c19 => ?_)
        · replace h := zo_t c19 h
          refine lv_aload_n hx hb d_Mo_giveCategory_95 rfl (lv_at hl 2 rfl) ?_
          refine va_get (D := D) (ci := 5) (v := .ref (A 61)) (C := R_Mo) (T := T_Mo) (N := 3) hx hb hts wu_Mo hown hK hP 0 rfl rfl 0 (by decide) (hts _ wf_Mo_7) (fun _ h9 => h9) rfl d_Mo_giveCategory_96 ?_
          refine lv_bipush (v := 17) hx hb d_Mo_giveCategory_99 (by decide) ?_
          refine lv_iload_n hx hb d_Mo_giveCategory_101 rfl (lv_at hl 3 rfl) ?_
          refine lv_imul hx hb d_Mo_giveCategory_102 ?_
          refine lv_iconst (v := 2) hx hb d_Mo_giveCategory_103 (by decide) ?_
          refine lv_iadd hx hb d_Mo_giveCategory_104 ?_
          refine lv_aload_n hx hb d_Mo_giveCategory_105 rfl (lv_at hl 2 rfl) ?_
          refine lv_aload_n hx hb d_Mo_giveCategory_106 rfl (lv_at hl 2 rfl) ?_
          refine lv_iload_n hx hb d_Mo_giveCategory_107 rfl (lv_at hl 3 rfl) ?_
          refine lv_iconst (v := 2) hx hb d_Mo_giveCategory_108 (by decide) ?_
          obtain ⟨v20, e9, h⟩ := zo_b h
          refine ka_i (va_runV (As := [.int x1, .int 2]) (rest := [.ref (A 60), .int ((17 * x1) + 2), .ref (A 61)]) S9 (c_Mo_at l hl9 D A r _ v1.2 x1 2 _ e9) (cwV 2 hts (tg_V wl_Mo_32 wm_Mo_at we_Mo_at wi_Mo wo_Mo_at) rfl rfl rfl wq_Mo_at ⟨Nat.le_of_ble_eq_true rfl, Nat.le_of_ble_eq_true rfl⟩) (ka_preV X9 hP hD hS 0 rfl rfl) rfl rfl hl.1 rfl (lv_room (Nat.le_of_ble_eq_true rfl)) d_Mo_giveCategory_109 ⟨Nat.le_of_ble_eq_true rfl, Nat.le_of_ble_eq_true rfl⟩) X9 hD hS rfl (fun H locs hP hD hS => ?_)
          refine lv_iload_n hx hb d_Mo_giveCategory_112 rfl (lv_at hl 1 rfl) ?_
          refine lv_iconst (v := 4) hx hb d_Mo_giveCategory_113 (by decide) ?_
          obtain ⟨v21, e9, h⟩ := zo_b h
          refine ka_i (va_runV (As := [.int v20, .int (gM_row v1.2 (1551 : Int32).toNatClampNeg), .int 4]) (rest := [.int ((17 * x1) + 2), .ref (A 61)]) S9 (c_Mo_made l hl9 D A r _ v1.2 v20 (gM_row v1.2 (1551 : Int32).toNatClampNeg) 4 _ e9) (cwV 3 hts (tg_V wl_Mo_57 wm_Mo_made we_Mo_made wi_Mo wo_Mo_made) rfl rfl rfl wq_Mo_made ⟨Nat.le_of_ble_eq_true rfl, Nat.le_of_ble_eq_true rfl⟩) (ka_preV X9 hP hD hS 0 rfl rfl) rfl rfl hl.1 rfl (lv_room (Nat.le_of_ble_eq_true rfl)) d_Mo_giveCategory_114 ⟨Nat.le_of_ble_eq_true rfl, Nat.le_of_ble_eq_true rfl⟩) X9 hD hS rfl (fun H locs hP hD hS => ?_)
          obtain ⟨i9, h⟩ := zo_i h
          obtain ⟨u22, hu9, h⟩ := zo_l h
          refine va_iast hx hb hK hP hD hS 1 0 rfl rfl i9 d_Mo_giveCategory_117 (fun H locs hP hD hS => ?_)
          replace hP : va_P D vwCl (MW A u22 r) H := by rw [hu9]; exact hP
          replace hD : va_D A9 (MW A u22 r) := by rw [hu9]; exact hD
          refine lv_aload_n hx hb d_Mo_giveCategory_118 rfl (lv_at hl 2 rfl) ?_
          refine va_get (D := D) (ci := 5) (v := .ref (A 61)) (C := R_Mo) (T := T_Mo) (N := 3) hx hb hts wu_Mo hown hK hP 0 rfl rfl 0 (by decide) (hts _ wf_Mo_7) (fun _ h9 => h9) rfl d_Mo_giveCategory_119 ?_
          refine lv_bipush (v := 17) hx hb d_Mo_giveCategory_122 (by decide) ?_
          refine lv_iload_n hx hb d_Mo_giveCategory_124 rfl (lv_at hl 3 rfl) ?_
          refine lv_imul hx hb d_Mo_giveCategory_125 ?_
          refine lv_bipush (v := 6) hx hb d_Mo_giveCategory_126 (by decide) ?_
          refine lv_iadd hx hb d_Mo_giveCategory_128 ?_
          refine lv_aload_n hx hb d_Mo_giveCategory_129 rfl (lv_at hl 2 rfl) ?_
          refine lv_aload_n hx hb d_Mo_giveCategory_130 rfl (lv_at hl 2 rfl) ?_
          refine lv_iload_n hx hb d_Mo_giveCategory_131 rfl (lv_at hl 3 rfl) ?_
          refine lv_bipush (v := 6) hx hb d_Mo_giveCategory_132 (by decide) ?_
          obtain ⟨v23, e9, h⟩ := zo_b h
          refine ka_i (va_runV (As := [.int x1, .int 6]) (rest := [.ref (A 60), .int ((17 * x1) + 6), .ref (A 61)]) S9 (c_Mo_at l hl9 D A r _ u22 x1 6 _ e9) (cwV 2 hts (tg_V wl_Mo_32 wm_Mo_at we_Mo_at wi_Mo wo_Mo_at) rfl rfl rfl wq_Mo_at ⟨Nat.le_of_ble_eq_true rfl, Nat.le_of_ble_eq_true rfl⟩) (ka_preV X9 hP hD hS 0 rfl rfl) rfl rfl hl.1 rfl (lv_room (Nat.le_of_ble_eq_true rfl)) d_Mo_giveCategory_134 ⟨Nat.le_of_ble_eq_true rfl, Nat.le_of_ble_eq_true rfl⟩) X9 hD hS rfl (fun H locs hP hD hS => ?_)
          refine lv_iload_n hx hb d_Mo_giveCategory_137 rfl (lv_at hl 1 rfl) ?_
          refine lv_iconst (v := 3) hx hb d_Mo_giveCategory_138 (by decide) ?_
          obtain ⟨v24, e9, h⟩ := zo_b h
          refine ka_i (va_runV (As := [.int v23, .int (gM_row v1.2 (1551 : Int32).toNatClampNeg), .int 3]) (rest := [.int ((17 * x1) + 6), .ref (A 61)]) S9 (c_Mo_made l hl9 D A r _ u22 v23 (gM_row v1.2 (1551 : Int32).toNatClampNeg) 3 _ e9) (cwV 3 hts (tg_V wl_Mo_57 wm_Mo_made we_Mo_made wi_Mo wo_Mo_made) rfl rfl rfl wq_Mo_made ⟨Nat.le_of_ble_eq_true rfl, Nat.le_of_ble_eq_true rfl⟩) (ka_preV X9 hP hD hS 0 rfl rfl) rfl rfl hl.1 rfl (lv_room (Nat.le_of_ble_eq_true rfl)) d_Mo_giveCategory_139 ⟨Nat.le_of_ble_eq_true rfl, Nat.le_of_ble_eq_true rfl⟩) X9 hD hS rfl (fun H locs hP hD hS => ?_)
          obtain ⟨i9, h⟩ := zo_i h
          obtain ⟨u25, hu9, h⟩ := zo_l h
          refine va_iast hx hb hK hP hD hS 1 0 rfl rfl i9 d_Mo_giveCategory_142 (fun H locs hP hD hS => ?_)
          replace hP : va_P D vwCl (MW A u25 r) H := by rw [hu9]; exact hP
          replace hD : va_D A9 (MW A u25 r) := by rw [hu9]; exact hD
          refine lv_aload_n hx hb d_Mo_giveCategory_143 rfl (lv_at hl 2 rfl) ?_
          refine va_get (D := D) (ci := 5) (v := .ref (A 61)) (C := R_Mo) (T := T_Mo) (N := 3) hx hb hts wu_Mo hown hK hP 0 rfl rfl 0 (by decide) (hts _ wf_Mo_7) (fun _ h9 => h9) rfl d_Mo_giveCategory_144 ?_
          refine lv_sipush (v := 1551) hx hb d_Mo_giveCategory_147 (by decide) ?_
          refine lv_dup2_11 hx hb d_Mo_giveCategory_150 rfl rfl ?_
          obtain ⟨i9, h⟩ := zo_i h
          refine va_iald hx hb hK hP 1 0 rfl rfl i9 d_Mo_giveCategory_151 ?_
          refine lv_iconst (v := 1) hx hb d_Mo_giveCategory_152 (by decide) ?_
          refine lv_iadd hx hb d_Mo_giveCategory_153 ?_
          obtain ⟨i9, h⟩ := zo_i h
          obtain ⟨u26, hu9, h⟩ := zo_l h
          refine va_iast hx hb hK hP hD hS 1 0 rfl rfl i9 d_Mo_giveCategory_154 (fun H locs hP hD hS => ?_)
          replace hP : va_P D vwCl (MW A u26 r) H := by rw [hu9]; exact hP
          replace hD : va_D A9 (MW A u26 r) := by rw [hu9]; exact hD
          refine lv_iload_n hx hb d_Mo_giveCategory_155 rfl (lv_at hl 1 rfl) ?_
          cases h
          exact W.iret hx hb hr (fun t ht hW => ⟨⟨_, (), rfl, rfl, ka_at ht hP⟩, hS.F ht⟩) hS.2.2 d_Mo_giveCategory_156 hlk
        replace h := zo_f c19 h
        refine lv_aload_n hx hb d_Mo_giveCategory_89 rfl (lv_at hl 2 rfl) ?_
        refine lv_iconst (v := 4) hx hb d_Mo_giveCategory_90 (by decide) ?_
        obtain ⟨v27, e9, h⟩ := zo_b h
        refine ka_i (va_runV (As := [.int 4]) (rest := []) S9 (c_Mo_fail l hl9 D A r _ v1.2 4 _ e9) (cwV 1 hts (tg_V wl_Mo_51 wm_Mo_fail we_Mo_fail wi_Mo wo_Mo_fail) rfl rfl rfl wq_Mo_fail ⟨Nat.le_of_ble_eq_true rfl, Nat.le_of_ble_eq_true rfl⟩) (ka_preV X9 hP hD hS 0 rfl rfl) rfl rfl hl.1 rfl (lv_room (Nat.le_of_ble_eq_true rfl)) d_Mo_giveCategory_91 ⟨Nat.le_of_ble_eq_true rfl, Nat.le_of_ble_eq_true rfl⟩) X9 hD hS rfl (fun H locs hP hD hS => ?_)
        cases h
        exact W.iret hx hb hr (fun t ht hW => ⟨⟨_, (), rfl, rfl, ka_at ht hP⟩, hS.F ht⟩) hS.2.2 d_Mo_giveCategory_94 hlk
      replace h := zo_f c6 h
      refine lv_iconst (v := 1) hx hb d_Mo_giveCategory_46 (by decide) ?_
      refine lv_goto (tgt := 51) hx hb d_Mo_giveCategory_47 (by decide) ?_
      refine lv_aload_n hx hb d_Mo_giveCategory_51 rfl (lv_at hl 1 rfl) ?_
      refine lv_aload_n hx hb d_Mo_giveCategory_52 rfl (lv_at hl 1 rfl) ?_
      refine lv_iload_n hx hb d_Mo_giveCategory_53 rfl (lv_at hl 2 rfl) ?_
      refine lv_bipush (v := 6) hx hb d_Mo_giveCategory_54 (by decide) ?_
      obtain ⟨v28, e9, h⟩ := zo_b h
      refine ka_i (va_runV (As := [.int x1, .int 6]) (rest := [.ref (A 60), .int 1]) S9 (c_Mo_at l hl9 D A r _ v1.2 x1 6 _ e9) (cwV 2 hts (tg_V wl_Mo_32 wm_Mo_at we_Mo_at wi_Mo wo_Mo_at) rfl rfl rfl wq_Mo_at ⟨Nat.le_of_ble_eq_true rfl, Nat.le_of_ble_eq_true rfl⟩) (ka_preV X9 hP hD hS 0 rfl rfl) rfl rfl hl.1 rfl (lv_room (Nat.le_of_ble_eq_true rfl)) d_Mo_giveCategory_56 ⟨Nat.le_of_ble_eq_true rfl, Nat.le_of_ble_eq_true rfl⟩) X9 hD hS rfl (fun H locs hP hD hS => ?_)
      refine lv_iload_n hx hb d_Mo_giveCategory_59 rfl (lv_at hl 0 rfl) ?_
      refine lv_iconst (v := 3) hx hb d_Mo_giveCategory_60 (by decide) ?_
      obtain ⟨v29, e9, h⟩ := zo_b h
      refine ka_i (va_runV (As := [.int v28, .int (gM_row v1.2 (1551 : Int32).toNatClampNeg), .int 3]) (rest := [.int 1]) S9 (c_Mo_like l hl9 D A r _ v1.2 v28 (gM_row v1.2 (1551 : Int32).toNatClampNeg) 3 _ e9) (cwV 3 hts (tg_V wl_Mo_47 wm_Mo_like we_Mo_like wi_Mo wo_Mo_like) rfl rfl rfl wq_Mo_like ⟨Nat.le_of_ble_eq_true rfl, Nat.le_of_ble_eq_true rfl⟩) (ka_preV X9 hP hD hS 0 rfl rfl) rfl rfl hl.1 rfl (lv_room (Nat.le_of_ble_eq_true rfl)) d_Mo_giveCategory_61 ⟨Nat.le_of_ble_eq_true rfl, Nat.le_of_ble_eq_true rfl⟩) X9 hD hS rfl (fun H locs hP hD hS => ?_)
      refine lv_if_ge (tgt := 71) hx hb d_Mo_giveCategory_64 (by decide) (fun c30 => ?_) (fun c30 => ?_)
      · replace h := zo_t c30 h
        refine lv_iconst (v := 0) hx hb d_Mo_giveCategory_71 (by decide) ?_
        refine lv_iadd hx hb d_Mo_giveCategory_72 ?_
        refine lv_istore_n (lv' := [(3, .int (1 + 0)), (2, .int (gM_row v1.2 (1551 : Int32).toNatClampNeg)), (0, .ref (A 60)), (1, .int x1)]) hx hb d_Mo_giveCategory_73 rfl hl (by decide) rfl (fun ls hl => ?_)
        refine lv_aload_n hx hb d_Mo_giveCategory_74 rfl (lv_at hl 2 rfl) ?_
        refine va_get (D := D) (ci := 5) (v := .ref (A 61)) (C := R_Mo) (T := T_Mo) (N := 3) hx hb hts wu_Mo hown hK hP 0 rfl rfl 0 (by decide) (hts _ wf_Mo_7) (fun _ h9 => h9) rfl d_Mo_giveCategory_75 ?_
        refine lv_sipush (v := 1550) hx hb d_Mo_giveCategory_78 (by decide) ?_
        obtain ⟨i9, h⟩ := zo_i h
        refine va_iald hx hb hK hP 1 0 rfl rfl i9 d_Mo_giveCategory_81 ?_
        refine lv_iload_n hx hb d_Mo_giveCategory_82 rfl (lv_at hl 0 rfl) ?_
        refine lv_iadd hx hb d_Mo_giveCategory_83 ?_
        refine lv_bipush (v := 60) hx hb d_Mo_giveCategory_84 (by decide) ?_
        refine lv_icmp_le (tgt := 95) hx hb d_Mo_giveCategory_86 (by decide) (fun c31 => ?_) (fun c31 => ?_)
        · replace h := zo_t c31 h
          refine lv_aload_n hx hb d_Mo_giveCategory_95 rfl (lv_at hl 2 rfl) ?_
          refine va_get (D := D) (ci := 5) (v := .ref (A 61)) (C := R_Mo) (T := T_Mo) (N := 3) hx hb hts wu_Mo hown hK hP 0 rfl rfl 0 (by decide) (hts _ wf_Mo_7) (fun _ h9 => h9) rfl d_Mo_giveCategory_96 ?_
          refine lv_bipush (v := 17) hx hb d_Mo_giveCategory_99 (by decide) ?_
          refine lv_iload_n hx hb d_Mo_giveCategory_101 rfl (lv_at hl 3 rfl) ?_
          refine lv_imul hx hb d_Mo_giveCategory_102 ?_
          refine lv_iconst (v := 2) hx hb d_Mo_giveCategory_103 (by decide) ?_
          refine lv_iadd hx hb d_Mo_giveCategory_104 ?_
          refine lv_aload_n hx hb d_Mo_giveCategory_105 rfl (lv_at hl 2 rfl) ?_
          refine lv_aload_n hx hb d_Mo_giveCategory_106 rfl (lv_at hl 2 rfl) ?_
          refine lv_iload_n hx hb d_Mo_giveCategory_107 rfl (lv_at hl 3 rfl) ?_
          refine lv_iconst (v := 2) hx hb d_Mo_giveCategory_108 (by decide) ?_
          obtain ⟨v32, e9, h⟩ := zo_b h
          refine ka_i (va_runV (As := [.int x1, .int 2]) (rest := [.ref (A 60), .int ((17 * x1) + 2), .ref (A 61)]) S9 (c_Mo_at l hl9 D A r _ v1.2 x1 2 _ e9) (cwV 2 hts (tg_V wl_Mo_32 wm_Mo_at we_Mo_at wi_Mo wo_Mo_at) rfl rfl rfl wq_Mo_at ⟨Nat.le_of_ble_eq_true rfl, Nat.le_of_ble_eq_true rfl⟩) (ka_preV X9 hP hD hS 0 rfl rfl) rfl rfl hl.1 rfl (lv_room (Nat.le_of_ble_eq_true rfl)) d_Mo_giveCategory_109 ⟨Nat.le_of_ble_eq_true rfl, Nat.le_of_ble_eq_true rfl⟩) X9 hD hS rfl (fun H locs hP hD hS => ?_)
          refine lv_iload_n hx hb d_Mo_giveCategory_112 rfl (lv_at hl 1 rfl) ?_
          refine lv_iconst (v := 4) hx hb d_Mo_giveCategory_113 (by decide) ?_
          obtain ⟨v33, e9, h⟩ := zo_b h
          refine ka_i (va_runV (As := [.int v32, .int (gM_row v1.2 (1551 : Int32).toNatClampNeg), .int 4]) (rest := [.int ((17 * x1) + 2), .ref (A 61)]) S9 (c_Mo_made l hl9 D A r _ v1.2 v32 (gM_row v1.2 (1551 : Int32).toNatClampNeg) 4 _ e9) (cwV 3 hts (tg_V wl_Mo_57 wm_Mo_made we_Mo_made wi_Mo wo_Mo_made) rfl rfl rfl wq_Mo_made ⟨Nat.le_of_ble_eq_true rfl, Nat.le_of_ble_eq_true rfl⟩) (ka_preV X9 hP hD hS 0 rfl rfl) rfl rfl hl.1 rfl (lv_room (Nat.le_of_ble_eq_true rfl)) d_Mo_giveCategory_114 ⟨Nat.le_of_ble_eq_true rfl, Nat.le_of_ble_eq_true rfl⟩) X9 hD hS rfl (fun H locs hP hD hS => ?_)
          obtain ⟨i9, h⟩ := zo_i h
          obtain ⟨u34, hu9, h⟩ := zo_l h
          refine va_iast hx hb hK hP hD hS 1 0 rfl rfl i9 d_Mo_giveCategory_117 (fun H locs hP hD hS => ?_)
          replace hP : va_P D vwCl (MW A u34 r) H := by rw [hu9]; exact hP
          replace hD : va_D A9 (MW A u34 r) := by rw [hu9]; exact hD
          refine lv_aload_n hx hb d_Mo_giveCategory_118 rfl (lv_at hl 2 rfl) ?_
          refine va_get (D := D) (ci := 5) (v := .ref (A 61)) (C := R_Mo) (T := T_Mo) (N := 3) hx hb hts wu_Mo hown hK hP 0 rfl rfl 0 (by decide) (hts _ wf_Mo_7) (fun _ h9 => h9) rfl d_Mo_giveCategory_119 ?_
          refine lv_bipush (v := 17) hx hb d_Mo_giveCategory_122 (by decide) ?_
          refine lv_iload_n hx hb d_Mo_giveCategory_124 rfl (lv_at hl 3 rfl) ?_
          refine lv_imul hx hb d_Mo_giveCategory_125 ?_
          refine lv_bipush (v := 6) hx hb d_Mo_giveCategory_126 (by decide) ?_
          refine lv_iadd hx hb d_Mo_giveCategory_128 ?_
          refine lv_aload_n hx hb d_Mo_giveCategory_129 rfl (lv_at hl 2 rfl) ?_
          refine lv_aload_n hx hb d_Mo_giveCategory_130 rfl (lv_at hl 2 rfl) ?_
          refine lv_iload_n hx hb d_Mo_giveCategory_131 rfl (lv_at hl 3 rfl) ?_
          refine lv_bipush (v := 6) hx hb d_Mo_giveCategory_132 (by decide) ?_
          obtain ⟨v35, e9, h⟩ := zo_b h
          refine ka_i (va_runV (As := [.int x1, .int 6]) (rest := [.ref (A 60), .int ((17 * x1) + 6), .ref (A 61)]) S9 (c_Mo_at l hl9 D A r _ u34 x1 6 _ e9) (cwV 2 hts (tg_V wl_Mo_32 wm_Mo_at we_Mo_at wi_Mo wo_Mo_at) rfl rfl rfl wq_Mo_at ⟨Nat.le_of_ble_eq_true rfl, Nat.le_of_ble_eq_true rfl⟩) (ka_preV X9 hP hD hS 0 rfl rfl) rfl rfl hl.1 rfl (lv_room (Nat.le_of_ble_eq_true rfl)) d_Mo_giveCategory_134 ⟨Nat.le_of_ble_eq_true rfl, Nat.le_of_ble_eq_true rfl⟩) X9 hD hS rfl (fun H locs hP hD hS => ?_)
          refine lv_iload_n hx hb d_Mo_giveCategory_137 rfl (lv_at hl 1 rfl) ?_
          refine lv_iconst (v := 3) hx hb d_Mo_giveCategory_138 (by decide) ?_
          obtain ⟨v36, e9, h⟩ := zo_b h
          refine ka_i (va_runV (As := [.int v35, .int (gM_row v1.2 (1551 : Int32).toNatClampNeg), .int 3]) (rest := [.int ((17 * x1) + 6), .ref (A 61)]) S9 (c_Mo_made l hl9 D A r _ u34 v35 (gM_row v1.2 (1551 : Int32).toNatClampNeg) 3 _ e9) (cwV 3 hts (tg_V wl_Mo_57 wm_Mo_made we_Mo_made wi_Mo wo_Mo_made) rfl rfl rfl wq_Mo_made ⟨Nat.le_of_ble_eq_true rfl, Nat.le_of_ble_eq_true rfl⟩) (ka_preV X9 hP hD hS 0 rfl rfl) rfl rfl hl.1 rfl (lv_room (Nat.le_of_ble_eq_true rfl)) d_Mo_giveCategory_139 ⟨Nat.le_of_ble_eq_true rfl, Nat.le_of_ble_eq_true rfl⟩) X9 hD hS rfl (fun H locs hP hD hS => ?_)
          obtain ⟨i9, h⟩ := zo_i h
          obtain ⟨u37, hu9, h⟩ := zo_l h
          refine va_iast hx hb hK hP hD hS 1 0 rfl rfl i9 d_Mo_giveCategory_142 (fun H locs hP hD hS => ?_)
          replace hP : va_P D vwCl (MW A u37 r) H := by rw [hu9]; exact hP
          replace hD : va_D A9 (MW A u37 r) := by rw [hu9]; exact hD
          refine lv_aload_n hx hb d_Mo_giveCategory_143 rfl (lv_at hl 2 rfl) ?_
          refine va_get (D := D) (ci := 5) (v := .ref (A 61)) (C := R_Mo) (T := T_Mo) (N := 3) hx hb hts wu_Mo hown hK hP 0 rfl rfl 0 (by decide) (hts _ wf_Mo_7) (fun _ h9 => h9) rfl d_Mo_giveCategory_144 ?_
          refine lv_sipush (v := 1551) hx hb d_Mo_giveCategory_147 (by decide) ?_
          refine lv_dup2_11 hx hb d_Mo_giveCategory_150 rfl rfl ?_
          obtain ⟨i9, h⟩ := zo_i h
          refine va_iald hx hb hK hP 1 0 rfl rfl i9 d_Mo_giveCategory_151 ?_
          refine lv_iconst (v := 1) hx hb d_Mo_giveCategory_152 (by decide) ?_
          refine lv_iadd hx hb d_Mo_giveCategory_153 ?_
          obtain ⟨i9, h⟩ := zo_i h
          obtain ⟨u38, hu9, h⟩ := zo_l h
          refine va_iast hx hb hK hP hD hS 1 0 rfl rfl i9 d_Mo_giveCategory_154 (fun H locs hP hD hS => ?_)
          replace hP : va_P D vwCl (MW A u38 r) H := by rw [hu9]; exact hP
          replace hD : va_D A9 (MW A u38 r) := by rw [hu9]; exact hD
          refine lv_iload_n hx hb d_Mo_giveCategory_155 rfl (lv_at hl 1 rfl) ?_
          cases h
          exact W.iret hx hb hr (fun t ht hW => ⟨⟨_, (), rfl, rfl, ka_at ht hP⟩, hS.F ht⟩) hS.2.2 d_Mo_giveCategory_156 hlk
        replace h := zo_f c31 h
        refine lv_aload_n hx hb d_Mo_giveCategory_89 rfl (lv_at hl 2 rfl) ?_
        refine lv_iconst (v := 4) hx hb d_Mo_giveCategory_90 (by decide) ?_
        obtain ⟨v39, e9, h⟩ := zo_b h
        refine ka_i (va_runV (As := [.int 4]) (rest := []) S9 (c_Mo_fail l hl9 D A r _ v1.2 4 _ e9) (cwV 1 hts (tg_V wl_Mo_51 wm_Mo_fail we_Mo_fail wi_Mo wo_Mo_fail) rfl rfl rfl wq_Mo_fail ⟨Nat.le_of_ble_eq_true rfl, Nat.le_of_ble_eq_true rfl⟩) (ka_preV X9 hP hD hS 0 rfl rfl) rfl rfl hl.1 rfl (lv_room (Nat.le_of_ble_eq_true rfl)) d_Mo_giveCategory_91 ⟨Nat.le_of_ble_eq_true rfl, Nat.le_of_ble_eq_true rfl⟩) X9 hD hS rfl (fun H locs hP hD hS => ?_)
        cases h
        exact W.iret hx hb hr (fun t ht hW => ⟨⟨_, (), rfl, rfl, ka_at ht hP⟩, hS.F ht⟩) hS.2.2 d_Mo_giveCategory_94 hlk
      replace h := zo_f c30 h
      refine lv_iconst (v := 1) hx hb d_Mo_giveCategory_67 (by decide) ?_
      refine lv_goto (tgt := 72) hx hb d_Mo_giveCategory_68 (by decide) ?_
      refine lv_iadd hx hb d_Mo_giveCategory_72 ?_
      refine lv_istore_n (lv' := [(3, .int (1 + 1)), (2, .int (gM_row v1.2 (1551 : Int32).toNatClampNeg)), (0, .ref (A 60)), (1, .int x1)]) hx hb d_Mo_giveCategory_73 rfl hl (by decide) rfl (fun ls hl => ?_)
      refine lv_aload_n hx hb d_Mo_giveCategory_74 rfl (lv_at hl 2 rfl) ?_
      refine va_get (D := D) (ci := 5) (v := .ref (A 61)) (C := R_Mo) (T := T_Mo) (N := 3) hx hb hts wu_Mo hown hK hP 0 rfl rfl 0 (by decide) (hts _ wf_Mo_7) (fun _ h9 => h9) rfl d_Mo_giveCategory_75 ?_
      refine lv_sipush (v := 1550) hx hb d_Mo_giveCategory_78 (by decide) ?_
      obtain ⟨i9, h⟩ := zo_i h
      refine va_iald hx hb hK hP 1 0 rfl rfl i9 d_Mo_giveCategory_81 ?_
      refine lv_iload_n hx hb d_Mo_giveCategory_82 rfl (lv_at hl 0 rfl) ?_
      refine lv_iadd hx hb d_Mo_giveCategory_83 ?_
      refine lv_bipush (v := 60) hx hb d_Mo_giveCategory_84 (by decide) ?_
      refine lv_icmp_le (tgt := 95) hx hb d_Mo_giveCategory_86 (by decide) (fun c40 => ?_) (fun c40 => ?_)
      · replace h := zo_t c40 h
        refine lv_aload_n hx hb d_Mo_giveCategory_95 rfl (lv_at hl 2 rfl) ?_
        refine va_get (D := D) (ci := 5) (v := .ref (A 61)) (C := R_Mo) (T := T_Mo) (N := 3) hx hb hts wu_Mo hown hK hP 0 rfl rfl 0 (by decide) (hts _ wf_Mo_7) (fun _ h9 => h9) rfl d_Mo_giveCategory_96 ?_
        refine lv_bipush (v := 17) hx hb d_Mo_giveCategory_99 (by decide) ?_
        refine lv_iload_n hx hb d_Mo_giveCategory_101 rfl (lv_at hl 3 rfl) ?_
        refine lv_imul hx hb d_Mo_giveCategory_102 ?_
        refine lv_iconst (v := 2) hx hb d_Mo_giveCategory_103 (by decide) ?_
        refine lv_iadd hx hb d_Mo_giveCategory_104 ?_
        refine lv_aload_n hx hb d_Mo_giveCategory_105 rfl (lv_at hl 2 rfl) ?_
        refine lv_aload_n hx hb d_Mo_giveCategory_106 rfl (lv_at hl 2 rfl) ?_
        refine lv_iload_n hx hb d_Mo_giveCategory_107 rfl (lv_at hl 3 rfl) ?_
        refine lv_iconst (v := 2) hx hb d_Mo_giveCategory_108 (by decide) ?_
        obtain ⟨v41, e9, h⟩ := zo_b h
        refine ka_i (va_runV (As := [.int x1, .int 2]) (rest := [.ref (A 60), .int ((17 * x1) + 2), .ref (A 61)]) S9 (c_Mo_at l hl9 D A r _ v1.2 x1 2 _ e9) (cwV 2 hts (tg_V wl_Mo_32 wm_Mo_at we_Mo_at wi_Mo wo_Mo_at) rfl rfl rfl wq_Mo_at ⟨Nat.le_of_ble_eq_true rfl, Nat.le_of_ble_eq_true rfl⟩) (ka_preV X9 hP hD hS 0 rfl rfl) rfl rfl hl.1 rfl (lv_room (Nat.le_of_ble_eq_true rfl)) d_Mo_giveCategory_109 ⟨Nat.le_of_ble_eq_true rfl, Nat.le_of_ble_eq_true rfl⟩) X9 hD hS rfl (fun H locs hP hD hS => ?_)
        refine lv_iload_n hx hb d_Mo_giveCategory_112 rfl (lv_at hl 1 rfl) ?_
        refine lv_iconst (v := 4) hx hb d_Mo_giveCategory_113 (by decide) ?_
        obtain ⟨v42, e9, h⟩ := zo_b h
        refine ka_i (va_runV (As := [.int v41, .int (gM_row v1.2 (1551 : Int32).toNatClampNeg), .int 4]) (rest := [.int ((17 * x1) + 2), .ref (A 61)]) S9 (c_Mo_made l hl9 D A r _ v1.2 v41 (gM_row v1.2 (1551 : Int32).toNatClampNeg) 4 _ e9) (cwV 3 hts (tg_V wl_Mo_57 wm_Mo_made we_Mo_made wi_Mo wo_Mo_made) rfl rfl rfl wq_Mo_made ⟨Nat.le_of_ble_eq_true rfl, Nat.le_of_ble_eq_true rfl⟩) (ka_preV X9 hP hD hS 0 rfl rfl) rfl rfl hl.1 rfl (lv_room (Nat.le_of_ble_eq_true rfl)) d_Mo_giveCategory_114 ⟨Nat.le_of_ble_eq_true rfl, Nat.le_of_ble_eq_true rfl⟩) X9 hD hS rfl (fun H locs hP hD hS => ?_)
        obtain ⟨i9, h⟩ := zo_i h
        obtain ⟨u43, hu9, h⟩ := zo_l h
        refine va_iast hx hb hK hP hD hS 1 0 rfl rfl i9 d_Mo_giveCategory_117 (fun H locs hP hD hS => ?_)
        replace hP : va_P D vwCl (MW A u43 r) H := by rw [hu9]; exact hP
        replace hD : va_D A9 (MW A u43 r) := by rw [hu9]; exact hD
        refine lv_aload_n hx hb d_Mo_giveCategory_118 rfl (lv_at hl 2 rfl) ?_
        refine va_get (D := D) (ci := 5) (v := .ref (A 61)) (C := R_Mo) (T := T_Mo) (N := 3) hx hb hts wu_Mo hown hK hP 0 rfl rfl 0 (by decide) (hts _ wf_Mo_7) (fun _ h9 => h9) rfl d_Mo_giveCategory_119 ?_
        refine lv_bipush (v := 17) hx hb d_Mo_giveCategory_122 (by decide) ?_
        refine lv_iload_n hx hb d_Mo_giveCategory_124 rfl (lv_at hl 3 rfl) ?_
        refine lv_imul hx hb d_Mo_giveCategory_125 ?_
        refine lv_bipush (v := 6) hx hb d_Mo_giveCategory_126 (by decide) ?_
        refine lv_iadd hx hb d_Mo_giveCategory_128 ?_
        refine lv_aload_n hx hb d_Mo_giveCategory_129 rfl (lv_at hl 2 rfl) ?_
        refine lv_aload_n hx hb d_Mo_giveCategory_130 rfl (lv_at hl 2 rfl) ?_
        refine lv_iload_n hx hb d_Mo_giveCategory_131 rfl (lv_at hl 3 rfl) ?_
        refine lv_bipush (v := 6) hx hb d_Mo_giveCategory_132 (by decide) ?_
        obtain ⟨v44, e9, h⟩ := zo_b h
        refine ka_i (va_runV (As := [.int x1, .int 6]) (rest := [.ref (A 60), .int ((17 * x1) + 6), .ref (A 61)]) S9 (c_Mo_at l hl9 D A r _ u43 x1 6 _ e9) (cwV 2 hts (tg_V wl_Mo_32 wm_Mo_at we_Mo_at wi_Mo wo_Mo_at) rfl rfl rfl wq_Mo_at ⟨Nat.le_of_ble_eq_true rfl, Nat.le_of_ble_eq_true rfl⟩) (ka_preV X9 hP hD hS 0 rfl rfl) rfl rfl hl.1 rfl (lv_room (Nat.le_of_ble_eq_true rfl)) d_Mo_giveCategory_134 ⟨Nat.le_of_ble_eq_true rfl, Nat.le_of_ble_eq_true rfl⟩) X9 hD hS rfl (fun H locs hP hD hS => ?_)
        refine lv_iload_n hx hb d_Mo_giveCategory_137 rfl (lv_at hl 1 rfl) ?_
        refine lv_iconst (v := 3) hx hb d_Mo_giveCategory_138 (by decide) ?_
        obtain ⟨v45, e9, h⟩ := zo_b h
        refine ka_i (va_runV (As := [.int v44, .int (gM_row v1.2 (1551 : Int32).toNatClampNeg), .int 3]) (rest := [.int ((17 * x1) + 6), .ref (A 61)]) S9 (c_Mo_made l hl9 D A r _ u43 v44 (gM_row v1.2 (1551 : Int32).toNatClampNeg) 3 _ e9) (cwV 3 hts (tg_V wl_Mo_57 wm_Mo_made we_Mo_made wi_Mo wo_Mo_made) rfl rfl rfl wq_Mo_made ⟨Nat.le_of_ble_eq_true rfl, Nat.le_of_ble_eq_true rfl⟩) (ka_preV X9 hP hD hS 0 rfl rfl) rfl rfl hl.1 rfl (lv_room (Nat.le_of_ble_eq_true rfl)) d_Mo_giveCategory_139 ⟨Nat.le_of_ble_eq_true rfl, Nat.le_of_ble_eq_true rfl⟩) X9 hD hS rfl (fun H locs hP hD hS => ?_)
        obtain ⟨i9, h⟩ := zo_i h
        obtain ⟨u46, hu9, h⟩ := zo_l h
        refine va_iast hx hb hK hP hD hS 1 0 rfl rfl i9 d_Mo_giveCategory_142 (fun H locs hP hD hS => ?_)
        replace hP : va_P D vwCl (MW A u46 r) H := by rw [hu9]; exact hP
        replace hD : va_D A9 (MW A u46 r) := by rw [hu9]; exact hD
        refine lv_aload_n hx hb d_Mo_giveCategory_143 rfl (lv_at hl 2 rfl) ?_
        refine va_get (D := D) (ci := 5) (v := .ref (A 61)) (C := R_Mo) (T := T_Mo) (N := 3) hx hb hts wu_Mo hown hK hP 0 rfl rfl 0 (by decide) (hts _ wf_Mo_7) (fun _ h9 => h9) rfl d_Mo_giveCategory_144 ?_
        refine lv_sipush (v := 1551) hx hb d_Mo_giveCategory_147 (by decide) ?_
        refine lv_dup2_11 hx hb d_Mo_giveCategory_150 rfl rfl ?_
        obtain ⟨i9, h⟩ := zo_i h
        refine va_iald hx hb hK hP 1 0 rfl rfl i9 d_Mo_giveCategory_151 ?_
        refine lv_iconst (v := 1) hx hb d_Mo_giveCategory_152 (by decide) ?_
        refine lv_iadd hx hb d_Mo_giveCategory_153 ?_
        obtain ⟨i9, h⟩ := zo_i h
        obtain ⟨u47, hu9, h⟩ := zo_l h
        refine va_iast hx hb hK hP hD hS 1 0 rfl rfl i9 d_Mo_giveCategory_154 (fun H locs hP hD hS => ?_)
        replace hP : va_P D vwCl (MW A u47 r) H := by rw [hu9]; exact hP
        replace hD : va_D A9 (MW A u47 r) := by rw [hu9]; exact hD
        refine lv_iload_n hx hb d_Mo_giveCategory_155 rfl (lv_at hl 1 rfl) ?_
        cases h
        exact W.iret hx hb hr (fun t ht hW => ⟨⟨_, (), rfl, rfl, ka_at ht hP⟩, hS.F ht⟩) hS.2.2 d_Mo_giveCategory_156 hlk
      replace h := zo_f c40 h
      refine lv_aload_n hx hb d_Mo_giveCategory_89 rfl (lv_at hl 2 rfl) ?_
      refine lv_iconst (v := 4) hx hb d_Mo_giveCategory_90 (by decide) ?_
      obtain ⟨v48, e9, h⟩ := zo_b h
      refine ka_i (va_runV (As := [.int 4]) (rest := []) S9 (c_Mo_fail l hl9 D A r _ v1.2 4 _ e9) (cwV 1 hts (tg_V wl_Mo_51 wm_Mo_fail we_Mo_fail wi_Mo wo_Mo_fail) rfl rfl rfl wq_Mo_fail ⟨Nat.le_of_ble_eq_true rfl, Nat.le_of_ble_eq_true rfl⟩) (ka_preV X9 hP hD hS 0 rfl rfl) rfl rfl hl.1 rfl (lv_room (Nat.le_of_ble_eq_true rfl)) d_Mo_giveCategory_91 ⟨Nat.le_of_ble_eq_true rfl, Nat.le_of_ble_eq_true rfl⟩) X9 hD hS rfl (fun H locs hP hD hS => ?_)
      cases h
      exact W.iret hx hb hr (fun t ht hW => ⟨⟨_, (), rfl, rfl, ka_at ht hP⟩, hS.F ht⟩) hS.2.2 d_Mo_giveCategory_94 hlk
    replace h := zo_t c3 h
    refine lv_aload_n hx hb d_Mo_giveCategory_25 rfl (lv_at hl 1 rfl) ?_
    refine lv_iconst (v := 4) hx hb d_Mo_giveCategory_26 (by decide) ?_
    obtain ⟨v49, e9, h⟩ := zo_b h
    refine ka_i (va_runV (As := [.int 4]) (rest := []) S9 (c_Mo_fail l hl9 D A r _ v1.2 4 _ e9) (cwV 1 hts (tg_V wl_Mo_51 wm_Mo_fail we_Mo_fail wi_Mo wo_Mo_fail) rfl rfl rfl wq_Mo_fail ⟨Nat.le_of_ble_eq_true rfl, Nat.le_of_ble_eq_true rfl⟩) (ka_preV X9 hP hD hS 0 rfl rfl) rfl rfl hl.1 rfl (lv_room (Nat.le_of_ble_eq_true rfl)) d_Mo_giveCategory_27 ⟨Nat.le_of_ble_eq_true rfl, Nat.le_of_ble_eq_true rfl⟩) X9 hD hS rfl (fun H locs hP hD hS => ?_)
    cases h
    exact W.iret hx hb hr (fun t ht hW => ⟨⟨_, (), rfl, rfl, ka_at ht hP⟩, hS.F ht⟩) hS.2.2 d_Mo_giveCategory_30 hlk
  replace h := zo_t c2 h
  refine lv_iconst (v := 0) hx hb d_Mo_giveCategory_8 (by decide) ?_
  cases h
  exact W.iret hx hb hr (fun t ht hW => ⟨⟨_, (), rfl, rfl, ka_at ht hP⟩, hS.F ht⟩) hS.2.2 d_Mo_giveCategory_9 hlk
def f_Mo_category (σ : RS) (x1 : Int32) : Option (Int32 × RS) := zl (sM_code σ 0) fun u1 => (f_Mo_giveCategory u1 x1).bind fun v2 => some (v2.1, v2.2)
set_option maxRecDepth 100000 in
set_option maxHeartbeats 4000000 in
theorem c_Mo_category (l : Launch) (hl9 : l.stackTraces = false) (D : va_G) (A : Nat → Nat) (r : va_W) (sz : Nat) (σ : RS) (x1 : Int32) (z : Int32 × RS) (h : f_Mo_category σ x1 = some z) : Met l y_Mo_category (Cond.code y_Mo_category b_Mo_category 2 (some .int) :: T0) ({ frames := 4, cells := 0, slots := 0, locals := 96 } : Room) (va_Pc [.ref (A 60), .int x1] (ka_Wd D A (MW A σ r) sz)) (ka_Ri D z.1 (MW A z.2 r) (va_A (MW A σ r) sz)) 0 0 (va_A (MW A σ r) sz) := by
  unfold f_Mo_category at h
  refine ka_of (own := R_Mo) (fun A9 => ka_Ri D z.1 (MW A z.2 r) A9) (by decide) rfl (Nat.le_of_ble_eq_true rfl) ?_
  intro p e s m below meth c A9 ls S9 hr hlk hex X9 hP hD hl
  obtain ⟨hx, hb, hml, hown, hts⟩ := id S9
  have hK := X9.2.1
  have hS : va_S A9 s.heap s.heap [] := va_S.rf
  replace hl : lv_has ls 2 [(0, .ref (A 60)), (1, .int x1)] := hl
  refine lv_aload_n hx hb d_Mo_category_0 rfl (lv_at hl 0 rfl) ?_
  refine lv_iconst (v := 0) hx hb d_Mo_category_1 (by decide) ?_
  obtain ⟨u1, hu9, h⟩ := zo_l h
  refine va_put (D := D) (ci := 5) (v := .int 0) (ty := .int) (C := R_Mo) (T := T_Mo) (N := 3) hx hb hts wu_Mo ft_Mo fk_Mo nm_Mo hown hK hP hD hS 0 rfl rfl 2 (by decide) (hts _ wf_Mo_16) (fun _ h9 => h9) rfl (by decide +kernel) rfl rfl (Nat.le_of_ble_eq_true rfl) d_Mo_category_2 (fun H locs hP hD hS => ?_)
  replace hP : va_P D vwCl (MW A u1 r) H := by rw [hu9]; exact hP
  replace hD : va_D A9 (MW A u1 r) := by rw [hu9]; exact hD
  refine lv_aload_n hx hb d_Mo_category_5 rfl (lv_at hl 0 rfl) ?_
  refine lv_iload_n hx hb d_Mo_category_6 rfl (lv_at hl 1 rfl) ?_
  obtain ⟨v2, e9, h⟩ := zo_b h
  refine ka_i (va_runV (As := [.int x1]) (rest := []) S9 (c_Mo_giveCategory l hl9 D A r _ u1 x1 _ e9) (cwV 1 hts (tg_V wl_Mo_63 wm_Mo_giveCategory we_Mo_giveCategory wi_Mo wo_Mo_giveCategory) rfl rfl rfl wq_Mo_giveCategory ⟨Nat.le_of_ble_eq_true rfl, Nat.le_of_ble_eq_true rfl⟩) (ka_preV X9 hP hD hS 0 rfl rfl) rfl rfl hl.1 rfl (lv_room (Nat.le_of_ble_eq_true rfl)) d_Mo_category_7 ⟨Nat.le_of_ble_eq_true rfl, Nat.le_of_ble_eq_true rfl⟩) X9 hD hS rfl (fun H locs hP hD hS => ?_)
  cases h
  exact W.iret hx hb hr (fun t ht hW => ⟨⟨_, (), rfl, rfl, ka_at ht hP⟩, hS.F ht⟩) hS.2.2 d_Mo_category_10 hlk
def f_Mo_deep_L4 (σ : RS) : Nat → Int32 → Int32 → Int32 → Option (Int32)
  | 0, _, _, _ => none
  | n + 1, y1, y2, y3 => if y3 ≤ 1 then (some y2) else ((f_Mo_at σ y3 4).bind fun v2 => f_Mo_deep_L4 σ n y1 (y2 + 1) v2)
def f_Mo_deep (σ : RS) (x1 : Int32) : Option (Int32) := f_Mo_deep_L4 σ 100 x1 0 x1
set_option maxRecDepth 100000 in
set_option maxHeartbeats 4000000 in
theorem c_Mo_deep (l : Launch) (hl9 : l.stackTraces = false) (D : va_G) (A : Nat → Nat) (r : va_W) (sz : Nat) (σ : RS) (x1 : Int32) (z : Int32) (h : f_Mo_deep σ x1 = some z) : Met l y_Mo_deep (Cond.code y_Mo_deep b_Mo_deep 4 (some .int) :: T0) ({ frames := 1, cells := 0, slots := 0, locals := 22 } : Room) (va_Pc [.ref (A 60), .int x1] (ka_Wd D A (MW A σ r) sz)) (ka_Ri D z (MW A σ r) (va_A (MW A σ r) sz)) 0 0 (va_A (MW A σ r) sz) := by
  unfold f_Mo_deep at h
  refine ka_of (own := R_Mo) (fun A9 => ka_Ri D z (MW A σ r) A9) (by decide) rfl (Nat.le_of_ble_eq_true rfl) ?_
  intro p e s m below meth c A9 ls S9 hr hlk hex X9 hP hD hl
  obtain ⟨hx, hb, hml, hown, hts⟩ := id S9
  have hK := X9.2.1
  have hS : va_S A9 s.heap s.heap [] := va_S.rf
  replace hl : lv_has ls 4 [(0, .ref (A 60)), (1, .int x1)] := hl
  have L4 : ∀ (n : Nat) (y1 y2 y3 : Int32) (H : Heap) (locs : List Loc) (ls : Array Slot), f_Mo_deep_L4 σ n y1 y2 y3 = some z → va_P D vwCl (MW A σ r) H → va_D A9 (MW A σ r) → va_S A9 s.heap H locs → lv_has ls 4 [(0, .ref (A 60)), (1, .int y1), (2, .int y2), (3, .int y3)] → W p l e ({ frames := 1, cells := 0, slots := 0, locals := 22 } : Room) s m [.ref (A 60), .int x1].toArray below meth c H locs 0 0 (MQ below (ka_Ri D z (MW A σ r) A9) [.ref (A 60), .int x1].toArray s 0 0 A9) (F0 m 4 ls []) := by
    intro n
    induction n with
    | zero => intro y1 y2 y3 H locs ls h; cases h
    | succ n ih4 =>
      intro y1 y2 y3 H locs ls h hP hD hS hl
      rw [f_Mo_deep_L4] at h
      refine lv_iload_n hx hb d_Mo_deep_4 rfl (lv_at hl 3 rfl) ?_
      refine lv_iconst (v := 1) hx hb d_Mo_deep_5 (by decide) ?_
      refine lv_icmp_le (tgt := 22) hx hb d_Mo_deep_6 (by decide) (fun c1 => ?_) (fun c1 => ?_)
      · replace h := zo_t c1 h
        refine lv_iload_n hx hb d_Mo_deep_22 rfl (lv_at hl 2 rfl) ?_
        cases h
        exact W.iret hx hb hr (fun t ht hW => ⟨⟨_, (), rfl, rfl, ka_at ht hP⟩, hS.F ht⟩) hS.2.2 d_Mo_deep_23 hlk
      replace h := zo_f c1 h
      refine lv_iinc (v := y2 + 1) (lv' := [(2, .int (y2 + 1)), (0, .ref (A 60)), (1, .int y1), (3, .int y3)]) hx hb d_Mo_deep_9 hl (k := 2) rfl rfl (by decide) rfl (fun ls hl => ?_)
      refine lv_aload_n hx hb d_Mo_deep_12 rfl (lv_at hl 1 rfl) ?_
      refine lv_iload_n hx hb d_Mo_deep_13 rfl (lv_at hl 3 rfl) ?_
      refine lv_iconst (v := 4) hx hb d_Mo_deep_14 (by decide) ?_
      obtain ⟨v2, e9, h⟩ := zo_b h
      refine ka_i (va_runV (As := [.int y3, .int 4]) (rest := []) S9 (c_Mo_at l hl9 D A r _ σ y3 4 _ e9) (cwV 2 hts (tg_V wl_Mo_32 wm_Mo_at we_Mo_at wi_Mo wo_Mo_at) rfl rfl rfl wq_Mo_at ⟨Nat.le_of_ble_eq_true rfl, Nat.le_of_ble_eq_true rfl⟩) (ka_preV X9 hP hD hS 0 rfl rfl) rfl rfl hl.1 rfl (lv_room (Nat.le_of_ble_eq_true rfl)) d_Mo_deep_15 ⟨Nat.le_of_ble_eq_true rfl, Nat.le_of_ble_eq_true rfl⟩) X9 hD hS rfl (fun H locs hP hD hS => ?_)
      refine lv_istore_n (lv' := [(3, .int v2), (2, .int (y2 + 1)), (0, .ref (A 60)), (1, .int y1)]) hx hb d_Mo_deep_18 rfl hl (by decide) rfl (fun ls hl => ?_)
      refine lv_goto (tgt := 4) hx hb d_Mo_deep_19 (by decide) ?_
      exact ih4 y1 (y2 + 1) v2 _ _ _ h hP hD hS (lv_sub hl [2, 3, 1, 0] rfl)
  refine lv_iconst (v := 0) hx hb d_Mo_deep_0 (by decide) ?_
  refine lv_istore_n (lv' := [(2, .int 0), (0, .ref (A 60)), (1, .int x1)]) hx hb d_Mo_deep_1 rfl hl (by decide) rfl (fun ls hl => ?_)
  refine lv_iload_n hx hb d_Mo_deep_2 rfl (lv_at hl 2 rfl) ?_
  refine lv_istore_n (lv' := [(3, .int x1), (2, .int 0), (0, .ref (A 60)), (1, .int x1)]) hx hb d_Mo_deep_3 rfl hl (by decide) rfl (fun ls hl => ?_)
  exact L4 100 x1 0 x1 _ _ _ h hP hD hS (lv_sub hl [2, 3, 1, 0] rfl)
def f_Mo_starsWithin (x0 x1 : Int32) : Option (Int32) := if x0 = 4 then (if x1 = 4 then (some 1) else (some 0)) else (some 1)
set_option maxRecDepth 100000 in
set_option maxHeartbeats 4000000 in
theorem c_Mo_starsWithin (l : Launch) (hl9 : l.stackTraces = false) (D : va_G) (A : Nat → Nat) (w : va_W) (sz : Nat) (x0 x1 : Int32) (z : Int32) (h : f_Mo_starsWithin x0 x1 = some z) : Met l y_Mo_starsWithin (Cond.code y_Mo_starsWithin b_Mo_starsWithin 2 (some .boolean) :: T0) ({ frames := 0, cells := 0, slots := 0, locals := 0 } : Room) (va_Pc [.int x0, .int x1] (ka_Wd D A (w) sz)) (ka_Ri D z (w) (va_A (w) sz)) 0 0 (va_A (w) sz) := by
  unfold f_Mo_starsWithin at h
  refine ka_of (own := R_Mo) (fun A9 => ka_Ri D z (w) A9) (by decide) rfl (Nat.le_of_ble_eq_true rfl) ?_
  intro p e s m below meth c A9 ls S9 hr hlk hex X9 hP hD hl
  obtain ⟨hx, hb, hml, hown, hts⟩ := id S9
  have hK := X9.2.1
  have hS : va_S A9 s.heap s.heap [] := va_S.rf
  replace hl : lv_has ls 2 [(0, .int x0), (1, .int x1)] := hl
  refine lv_iload_n hx hb d_Mo_starsWithin_0 rfl (lv_at hl 0 rfl) ?_
  refine lv_iconst (v := 4) hx hb d_Mo_starsWithin_1 (by decide) ?_
  refine lv_icmp_ne (tgt := 10) hx hb d_Mo_starsWithin_2 (by decide) (fun c1 => ?_) (fun c1 => ?_)
  · replace h := zo_f c1 h
    refine lv_iconst (v := 1) hx hb d_Mo_starsWithin_10 (by decide) ?_
    refine lv_goto (tgt := 15) hx hb d_Mo_starsWithin_11 (by decide) ?_
    cases h
    exact W.zret hx hb hr (by decide) (fun t ht hW => ⟨⟨_, (), rfl, rfl, ka_at ht hP⟩, hS.F ht⟩) hS.2.2 d_Mo_starsWithin_15 hlk
  replace h := zo_t c1 h
  refine lv_iload_n hx hb d_Mo_starsWithin_5 rfl (lv_at hl 1 rfl) ?_
  refine lv_iconst (v := 4) hx hb d_Mo_starsWithin_6 (by decide) ?_
  refine lv_icmp_ne (tgt := 14) hx hb d_Mo_starsWithin_7 (by decide) (fun c2 => ?_) (fun c2 => ?_)
  · replace h := zo_f c2 h
    refine lv_iconst (v := 0) hx hb d_Mo_starsWithin_14 (by decide) ?_
    cases h
    exact W.zret hx hb hr (by decide) (fun t ht hW => ⟨⟨_, (), rfl, rfl, ka_at ht hP⟩, hS.F ht⟩) hS.2.2 d_Mo_starsWithin_15 hlk
  replace h := zo_t c2 h
  refine lv_iconst (v := 1) hx hb d_Mo_starsWithin_10 (by decide) ?_
  refine lv_goto (tgt := 15) hx hb d_Mo_starsWithin_11 (by decide) ?_
  cases h
  exact W.zret hx hb hr (by decide) (fun t ht hW => ⟨⟨_, (), rfl, rfl, ka_at ht hP⟩, hS.F ht⟩) hS.2.2 d_Mo_starsWithin_15 hlk
def f_Mo_starsOf_L2 (σ : RS) : Nat → Int32 → Int32 → Int32 → Option (Int32)
  | 0, _, _, _ => none
  | n + 1, y1, y2, y3 => if 8 ≤ y3 then (some 1) else ((f_Mo_lev σ y1 y3).bind fun v2 => (f_Mo_at σ y2 2).bind fun v3 => (f_Mo_lev σ v3 y3).bind fun v4 => (f_Mo_starsWithin v2 v4).bind fun v5 => if v5 = 0 then (some 0) else (f_Mo_starsOf_L2 σ n y1 y2 (y3 + 1)))
def f_Mo_starsOf (σ : RS) (x1 x2 : Int32) : Option (Int32) := f_Mo_starsOf_L2 σ 100 x1 x2 0
set_option maxRecDepth 100000 in
set_option maxHeartbeats 4000000 in
theorem c_Mo_starsOf (l : Launch) (hl9 : l.stackTraces = false) (D : va_G) (A : Nat → Nat) (r : va_W) (sz : Nat) (σ : RS) (x1 x2 : Int32) (z : Int32) (h : f_Mo_starsOf σ x1 x2 = some z) : Met l y_Mo_starsOf (Cond.code y_Mo_starsOf b_Mo_starsOf 4 (some .boolean) :: T0) ({ frames := 1, cells := 0, slots := 0, locals := 22 } : Room) (va_Pc [.ref (A 60), .int x1, .int x2] (ka_Wd D A (MW A σ r) sz)) (ka_Ri D z (MW A σ r) (va_A (MW A σ r) sz)) 0 0 (va_A (MW A σ r) sz) := by
  unfold f_Mo_starsOf at h
  refine ka_of (own := R_Mo) (fun A9 => ka_Ri D z (MW A σ r) A9) (by decide) rfl (Nat.le_of_ble_eq_true rfl) ?_
  intro p e s m below meth c A9 ls S9 hr hlk hex X9 hP hD hl
  obtain ⟨hx, hb, hml, hown, hts⟩ := id S9
  have hK := X9.2.1
  have hS : va_S A9 s.heap s.heap [] := va_S.rf
  replace hl : lv_has ls 4 [(0, .ref (A 60)), (1, .int x1), (2, .int x2)] := hl
  have L2 : ∀ (n : Nat) (y1 y2 y3 : Int32) (H : Heap) (locs : List Loc) (ls : Array Slot), f_Mo_starsOf_L2 σ n y1 y2 y3 = some z → va_P D vwCl (MW A σ r) H → va_D A9 (MW A σ r) → va_S A9 s.heap H locs → lv_has ls 4 [(0, .ref (A 60)), (1, .int y1), (2, .int y2), (3, .int y3)] → W p l e ({ frames := 1, cells := 0, slots := 0, locals := 22 } : Room) s m [.ref (A 60), .int x1, .int x2].toArray below meth c H locs 0 0 (MQ below (ka_Ri D z (MW A σ r) A9) [.ref (A 60), .int x1, .int x2].toArray s 0 0 A9) (F0 m 2 ls []) := by
    intro n
    induction n with
    | zero => intro y1 y2 y3 H locs ls h; cases h
    | succ n ih2 =>
      intro y1 y2 y3 H locs ls h hP hD hS hl
      rw [f_Mo_starsOf_L2] at h
      refine lv_iload_n hx hb d_Mo_starsOf_2 rfl (lv_at hl 3 rfl) ?_
      refine lv_bipush (v := 8) hx hb d_Mo_starsOf_3 (by decide) ?_
      refine lv_icmp_ge (tgt := 39) hx hb d_Mo_starsOf_5 (by decide) (fun c1 => ?_) (fun c1 => ?_)
      · replace h := zo_t c1 h
        refine lv_iconst (v := 1) hx hb d_Mo_starsOf_39 (by decide) ?_
        cases h
        exact W.zret hx hb hr (by decide) (fun t ht hW => ⟨⟨_, (), rfl, rfl, ka_at ht hP⟩, hS.F ht⟩) hS.2.2 d_Mo_starsOf_40 hlk
      replace h := zo_f c1 h
      refine lv_aload_n hx hb d_Mo_starsOf_8 rfl (lv_at hl 0 rfl) ?_
      refine lv_iload_n hx hb d_Mo_starsOf_9 rfl (lv_at hl 1 rfl) ?_
      refine lv_iload_n hx hb d_Mo_starsOf_10 rfl (lv_at hl 3 rfl) ?_
      obtain ⟨v2, e9, h⟩ := zo_b h
      refine ka_i (va_runV (As := [.int y1, .int y3]) (rest := []) S9 (c_Mo_lev l hl9 D A r _ σ y1 y3 _ e9) (cwV 2 hts (tg_V wl_Mo_20 wm_Mo_lev we_Mo_lev wi_Mo wo_Mo_lev) rfl rfl rfl wq_Mo_lev ⟨Nat.le_of_ble_eq_true rfl, Nat.le_of_ble_eq_true rfl⟩) (ka_preV X9 hP hD hS 0 rfl rfl) rfl rfl hl.1 rfl (lv_room (Nat.le_of_ble_eq_true rfl)) d_Mo_starsOf_11 ⟨Nat.le_of_ble_eq_true rfl, Nat.le_of_ble_eq_true rfl⟩) X9 hD hS rfl (fun H locs hP hD hS => ?_)
      refine lv_aload_n hx hb d_Mo_starsOf_14 rfl (lv_at hl 0 rfl) ?_
      refine lv_aload_n hx hb d_Mo_starsOf_15 rfl (lv_at hl 0 rfl) ?_
      refine lv_iload_n hx hb d_Mo_starsOf_16 rfl (lv_at hl 2 rfl) ?_
      refine lv_iconst (v := 2) hx hb d_Mo_starsOf_17 (by decide) ?_
      obtain ⟨v3, e9, h⟩ := zo_b h
      refine ka_i (va_runV (As := [.int y2, .int 2]) (rest := [.ref (A 60), .int v2]) S9 (c_Mo_at l hl9 D A r _ σ y2 2 _ e9) (cwV 2 hts (tg_V wl_Mo_32 wm_Mo_at we_Mo_at wi_Mo wo_Mo_at) rfl rfl rfl wq_Mo_at ⟨Nat.le_of_ble_eq_true rfl, Nat.le_of_ble_eq_true rfl⟩) (ka_preV X9 hP hD hS 0 rfl rfl) rfl rfl hl.1 rfl (lv_room (Nat.le_of_ble_eq_true rfl)) d_Mo_starsOf_18 ⟨Nat.le_of_ble_eq_true rfl, Nat.le_of_ble_eq_true rfl⟩) X9 hD hS rfl (fun H locs hP hD hS => ?_)
      refine lv_iload_n hx hb d_Mo_starsOf_21 rfl (lv_at hl 3 rfl) ?_
      obtain ⟨v4, e9, h⟩ := zo_b h
      refine ka_i (va_runV (As := [.int v3, .int y3]) (rest := [.int v2]) S9 (c_Mo_lev l hl9 D A r _ σ v3 y3 _ e9) (cwV 2 hts (tg_V wl_Mo_20 wm_Mo_lev we_Mo_lev wi_Mo wo_Mo_lev) rfl rfl rfl wq_Mo_lev ⟨Nat.le_of_ble_eq_true rfl, Nat.le_of_ble_eq_true rfl⟩) (ka_preV X9 hP hD hS 0 rfl rfl) rfl rfl hl.1 rfl (lv_room (Nat.le_of_ble_eq_true rfl)) d_Mo_starsOf_22 ⟨Nat.le_of_ble_eq_true rfl, Nat.le_of_ble_eq_true rfl⟩) X9 hD hS rfl (fun H locs hP hD hS => ?_)
      obtain ⟨v5, e9, h⟩ := zo_b h
      refine ka_i (va_runS (As := [.int v2, .int v4]) (rest := []) S9 (c_Mo_starsWithin l hl9 D A (MW A σ r) _ v2 v4 _ e9) (cwS 2 hts (tg_S wl_Mo_66 ws_Mo_starsWithin wi_Mo wo_Mo_starsWithin) rfl rfl rfl wq_Mo_starsWithin ⟨Nat.le_of_ble_eq_true rfl, Nat.le_of_ble_eq_true rfl⟩) (ka_preS X9 hP hD hS) rfl rfl hl.1 rfl (lv_room (Nat.le_of_ble_eq_true rfl)) d_Mo_starsOf_25 ⟨Nat.le_of_ble_eq_true rfl, Nat.le_of_ble_eq_true rfl⟩) X9 hD hS rfl (fun H locs hP hD hS => ?_)
      refine lv_if_ne (tgt := 33) hx hb d_Mo_starsOf_28 (by decide) (fun c6 => ?_) (fun c6 => ?_)
      · replace h := zo_f c6 h
        refine lv_iinc (v := y3 + 1) (lv' := [(3, .int (y3 + 1)), (0, .ref (A 60)), (1, .int y1), (2, .int y2)]) hx hb d_Mo_starsOf_33 hl (k := 3) rfl rfl (by decide) rfl (fun ls hl => ?_)
        refine lv_goto (tgt := 2) hx hb d_Mo_starsOf_36 (by decide) ?_
        exact ih2 y1 y2 (y3 + 1) _ _ _ h hP hD hS (lv_sub hl [1, 2, 3, 0] rfl)
      replace h := zo_t c6 h
      refine lv_iconst (v := 0) hx hb d_Mo_starsOf_31 (by decide) ?_
      cases h
      exact W.zret hx hb hr (by decide) (fun t ht hW => ⟨⟨_, (), rfl, rfl, ka_at ht hP⟩, hS.F ht⟩) hS.2.2 d_Mo_starsOf_32 hlk
  refine lv_iconst (v := 0) hx hb d_Mo_starsOf_0 (by decide) ?_
  refine lv_istore_n (lv' := [(3, .int 0), (0, .ref (A 60)), (1, .int x1), (2, .int x2)]) hx hb d_Mo_starsOf_1 rfl hl (by decide) rfl (fun ls hl => ?_)
  exact L2 100 x1 x2 0 _ _ _ h hP hD hS (lv_sub hl [1, 2, 3, 0] rfl)
