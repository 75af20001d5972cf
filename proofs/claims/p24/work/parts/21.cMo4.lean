def f_Mo_passes_L36 (σ : RS) : Nat → Int32 → Int32 → Int32 → Int32 → Int32 → Option (Int32)
  | 0, _, _, _, _, _ => none
  | n + 1, y1, y2, y3, y4, y5 => if 8 ≤ y5 then (some 1) else ((f_Mo_lev σ y3 y5).bind fun v8 => (f_Mo_at σ y1 2).bind fun v9 => (f_Mo_lev σ v9 y5).bind fun v10 => (f_Mo_at σ y2 2).bind fun v11 => (f_Mo_lev σ v11 y5).bind fun v12 => if v8 = 4 then (if v10 = 4 then ((f_Mo_lev σ y4 y5).bind fun v26 => (f_Mo_at σ y1 6).bind fun v27 => (f_Mo_lev σ v27 y5).bind fun v28 => if v26 ≤ v28 then (f_Mo_passes_L36 σ n y1 y2 y3 y4 (y5 + 1)) else ((f_Mo_at σ y2 6).bind fun v30 => (f_Mo_lev σ v30 y5).bind fun v31 => if v26 ≤ v31 then (f_Mo_passes_L36 σ n y1 y2 y3 y4 (y5 + 1)) else (some 0))) else (if v12 = 4 then ((f_Mo_lev σ y4 y5).bind fun v34 => (f_Mo_at σ y1 6).bind fun v35 => (f_Mo_lev σ v35 y5).bind fun v36 => if v34 ≤ v36 then (f_Mo_passes_L36 σ n y1 y2 y3 y4 (y5 + 1)) else ((f_Mo_at σ y2 6).bind fun v38 => (f_Mo_lev σ v38 y5).bind fun v39 => if v34 ≤ v39 then (f_Mo_passes_L36 σ n y1 y2 y3 y4 (y5 + 1)) else (some 0))) else (some 0))) else ((f_Mo_low v10).bind fun v14 => if v8 < v14 then (some 0) else ((f_Mo_low v12).bind fun v16 => if v16 ≤ v8 then ((f_Mo_lev σ y4 y5).bind fun v18 => (f_Mo_at σ y1 6).bind fun v19 => (f_Mo_lev σ v19 y5).bind fun v20 => if v18 ≤ v20 then (f_Mo_passes_L36 σ n y1 y2 y3 y4 (y5 + 1)) else ((f_Mo_at σ y2 6).bind fun v22 => (f_Mo_lev σ v22 y5).bind fun v23 => if v18 ≤ v23 then (f_Mo_passes_L36 σ n y1 y2 y3 y4 (y5 + 1)) else (some 0))) else (some 0))))
def f_Mo_passes (σ : RS) (x1 x2 x3 x4 : Int32) : Option (Int32) := (f_Mo_at σ x1 2).bind fun v1 => (f_Mo_at σ x2 5).bind fun v2 => (f_Mo_under σ v1 v2 0).bind fun v3 => if v3 = 0 then (some 0) else ((f_Mo_under σ x3 x4 0).bind fun v5 => if v5 = 0 then (some 0) else (f_Mo_passes_L36 σ 100 x1 x2 x3 x4 0))
set_option maxRecDepth 100000 in
set_option maxHeartbeats 4000000 in
theorem c_Mo_passes (l : Launch) (hl9 : l.stackTraces = false) (D : va_G) (A : Nat → Nat) (r : va_W) (sz : Nat) (σ : RS) (x1 x2 x3 x4 : Int32) (z : Int32) (h : f_Mo_passes σ x1 x2 x3 x4 = some z) : Met l y_Mo_passes (Cond.code y_Mo_passes b_Mo_passes 10 (some .boolean) :: T0) ({ frames := 2, cells := 0, slots := 0, locals := 47 } : Room) (va_Pc [.ref (A 60), .int x1, .int x2, .int x3, .int x4] (ka_Wd D A (MW A σ r) sz)) (ka_Ri D z (MW A σ r) (va_A (MW A σ r) sz)) 0 0 (va_A (MW A σ r) sz) := by
  unfold f_Mo_passes at h
  refine ka_of (own := R_Mo) (fun A9 => ka_Ri D z (MW A σ r) A9) (by decide) rfl (Nat.le_of_ble_eq_true rfl) ?_
  intro p e s m below meth c A9 ls S9 hr hlk hex X9 hP hD hl
  obtain ⟨hx, hb, hml, hown, hts⟩ := id S9
  have hK := X9.2.1
  have hS : va_S A9 s.heap s.heap [] := va_S.rf
  replace hl : lv_has ls 10 [(0, .ref (A 60)), (1, .int x1), (2, .int x2), (3, .int x3), (4, .int x4)] := hl
  have L36 : ∀ (n : Nat) (y1 y2 y3 y4 y5 : Int32) (H : Heap) (locs : List Loc) (ls : Array Slot), f_Mo_passes_L36 σ n y1 y2 y3 y4 y5 = some z → va_P D vwCl (MW A σ r) H → va_D A9 (MW A σ r) → va_S A9 s.heap H locs → lv_has ls 10 [(0, .ref (A 60)), (1, .int y1), (2, .int y2), (3, .int y3), (4, .int y4), (5, .int y5)] → W p l e ({ frames := 2, cells := 0, slots := 0, locals := 47 } : Room) s m [.ref (A 60), .int x1, .int x2, .int x3, .int x4].toArray below meth c H locs 0 0 (MQ below (ka_Ri D z (MW A σ r) A9) [.ref (A 60), .int x1, .int x2, .int x3, .int x4].toArray s 0 0 A9) (F0 m 36 ls []) := by
    intro n
    induction n with
    | zero => intro y1 y2 y3 y4 y5 H locs ls h; cases h
    | succ n ih36 =>
      intro y1 y2 y3 y4 y5 H locs ls h hP hD hS hl
      rw [f_Mo_passes_L36] at h
      refine lv_iload hx hb d_Mo_passes_36 (lv_at hl 5 rfl) ?_
      refine lv_bipush (v := 8) hx hb d_Mo_passes_38 (by decide) ?_
      refine lv_icmp_ge (tgt := 177) hx hb d_Mo_passes_40 (by decide) (fun c7 => ?_) (fun c7 => ?_)
      · replace h := zo_t c7 h
        refine lv_iconst (v := 1) hx hb d_Mo_passes_177 (by decide) ?_
        cases h
        exact W.zret hx hb hr (by decide) (fun t ht hW => ⟨⟨_, (), rfl, rfl, ka_at ht hP⟩, hS.F ht⟩) hS.2.2 d_Mo_passes_178 hlk
      replace h := zo_f c7 h
      refine lv_aload_n hx hb d_Mo_passes_43 rfl (lv_at hl 0 rfl) ?_
      refine lv_iload_n hx hb d_Mo_passes_44 rfl (lv_at hl 3 rfl) ?_
      refine lv_iload hx hb d_Mo_passes_45 (lv_at hl 5 rfl) ?_
      obtain ⟨v8, e9, h⟩ := zo_b h
      refine ka_i (va_runV (As := [.int y3, .int y5]) (rest := []) S9 (c_Mo_lev l hl9 D A r _ σ y3 y5 _ e9) (cwV 2 hts (tg_V wl_Mo_20 wm_Mo_lev we_Mo_lev wi_Mo wo_Mo_lev) rfl rfl rfl wq_Mo_lev ⟨Nat.le_of_ble_eq_true rfl, Nat.le_of_ble_eq_true rfl⟩) (ka_preV X9 hP hD hS 0 rfl rfl) rfl rfl hl.1 rfl (lv_room (Nat.le_of_ble_eq_true rfl)) d_Mo_passes_47 ⟨Nat.le_of_ble_eq_true rfl, Nat.le_of_ble_eq_true rfl⟩) X9 hD hS rfl (fun H locs hP hD hS => ?_)
      refine lv_istore (lv' := [(6, .int v8), (0, .ref (A 60)), (1, .int y1), (2, .int y2), (3, .int y3), (4, .int y4), (5, .int y5)]) hx hb d_Mo_passes_50 hl (by decide) rfl (fun ls hl => ?_)
      refine lv_aload_n hx hb d_Mo_passes_52 rfl (lv_at hl 1 rfl) ?_
      refine lv_aload_n hx hb d_Mo_passes_53 rfl (lv_at hl 1 rfl) ?_
      refine lv_iload_n hx hb d_Mo_passes_54 rfl (lv_at hl 2 rfl) ?_
      refine lv_iconst (v := 2) hx hb d_Mo_passes_55 (by decide) ?_
      obtain ⟨v9, e9, h⟩ := zo_b h
      refine ka_i (va_runV (As := [.int y1, .int 2]) (rest := [.ref (A 60)]) S9 (c_Mo_at l hl9 D A r _ σ y1 2 _ e9) (cwV 2 hts (tg_V wl_Mo_32 wm_Mo_at we_Mo_at wi_Mo wo_Mo_at) rfl rfl rfl wq_Mo_at ⟨Nat.le_of_ble_eq_true rfl, Nat.le_of_ble_eq_true rfl⟩) (ka_preV X9 hP hD hS 0 rfl rfl) rfl rfl hl.1 rfl (lv_room (Nat.le_of_ble_eq_true rfl)) d_Mo_passes_56 ⟨Nat.le_of_ble_eq_true rfl, Nat.le_of_ble_eq_true rfl⟩) X9 hD hS rfl (fun H locs hP hD hS => ?_)
      refine lv_iload hx hb d_Mo_passes_59 (lv_at hl 6 rfl) ?_
      obtain ⟨v10, e9, h⟩ := zo_b h
      refine ka_i (va_runV (As := [.int v9, .int y5]) (rest := []) S9 (c_Mo_lev l hl9 D A r _ σ v9 y5 _ e9) (cwV 2 hts (tg_V wl_Mo_20 wm_Mo_lev we_Mo_lev wi_Mo wo_Mo_lev) rfl rfl rfl wq_Mo_lev ⟨Nat.le_of_ble_eq_true rfl, Nat.le_of_ble_eq_true rfl⟩) (ka_preV X9 hP hD hS 0 rfl rfl) rfl rfl hl.1 rfl (lv_room (Nat.le_of_ble_eq_true rfl)) d_Mo_passes_61 ⟨Nat.le_of_ble_eq_true rfl, Nat.le_of_ble_eq_true rfl⟩) X9 hD hS rfl (fun H locs hP hD hS => ?_)
      refine lv_istore (lv' := [(7, .int v10), (6, .int v8), (0, .ref (A 60)), (1, .int y1), (2, .int y2), (3, .int y3), (4, .int y4), (5, .int y5)]) hx hb d_Mo_passes_64 hl (by decide) rfl (fun ls hl => ?_)
      refine lv_aload_n hx hb d_Mo_passes_66 rfl (lv_at hl 2 rfl) ?_
      refine lv_aload_n hx hb d_Mo_passes_67 rfl (lv_at hl 2 rfl) ?_
      refine lv_iload_n hx hb d_Mo_passes_68 rfl (lv_at hl 4 rfl) ?_
      refine lv_iconst (v := 2) hx hb d_Mo_passes_69 (by decide) ?_
      obtain ⟨v11, e9, h⟩ := zo_b h
      refine ka_i (va_runV (As := [.int y2, .int 2]) (rest := [.ref (A 60)]) S9 (c_Mo_at l hl9 D A r _ σ y2 2 _ e9) (cwV 2 hts (tg_V wl_Mo_32 wm_Mo_at we_Mo_at wi_Mo wo_Mo_at) rfl rfl rfl wq_Mo_at ⟨Nat.le_of_ble_eq_true rfl, Nat.le_of_ble_eq_true rfl⟩) (ka_preV X9 hP hD hS 0 rfl rfl) rfl rfl hl.1 rfl (lv_room (Nat.le_of_ble_eq_true rfl)) d_Mo_passes_70 ⟨Nat.le_of_ble_eq_true rfl, Nat.le_of_ble_eq_true rfl⟩) X9 hD hS rfl (fun H locs hP hD hS => ?_)
      refine lv_iload hx hb d_Mo_passes_73 (lv_at hl 7 rfl) ?_
      obtain ⟨v12, e9, h⟩ := zo_b h
      refine ka_i (va_runV (As := [.int v11, .int y5]) (rest := []) S9 (c_Mo_lev l hl9 D A r _ σ v11 y5 _ e9) (cwV 2 hts (tg_V wl_Mo_20 wm_Mo_lev we_Mo_lev wi_Mo wo_Mo_lev) rfl rfl rfl wq_Mo_lev ⟨Nat.le_of_ble_eq_true rfl, Nat.le_of_ble_eq_true rfl⟩) (ka_preV X9 hP hD hS 0 rfl rfl) rfl rfl hl.1 rfl (lv_room (Nat.le_of_ble_eq_true rfl)) d_Mo_passes_75 ⟨Nat.le_of_ble_eq_true rfl, Nat.le_of_ble_eq_true rfl⟩) X9 hD hS rfl (fun H locs hP hD hS => ?_)
      refine lv_istore (lv' := [(8, .int v12), (7, .int v10), (6, .int v8), (0, .ref (A 60)), (1, .int y1), (2, .int y2), (3, .int y3), (4, .int y4), (5, .int y5)]) hx hb d_Mo_passes_78 hl (by decide) rfl (fun ls hl => ?_)
      refine lv_iload hx hb d_Mo_passes_80 (lv_at hl 2 rfl) ?_
      refine lv_iconst (v := 4) hx hb d_Mo_passes_82 (by decide) ?_
      refine lv_icmp_ne (tgt := 101) hx hb d_Mo_passes_83 (by decide) (fun c13 => ?_) (fun c13 => ?_)
      · replace h := zo_f c13 h
        refine lv_iload hx hb d_Mo_passes_101 (lv_at hl 2 rfl) ?_
        refine lv_iload hx hb d_Mo_passes_103 (lv_at hl 1 rfl) ?_
        obtain ⟨v14, e9, h⟩ := zo_b h
        refine ka_i (va_runS (As := [.int v10]) (rest := [.int v8]) S9 (c_Mo_low l hl9 D A (MW A σ r) _ v10 _ e9) (cwS 1 hts (tg_S wl_Mo_24 ws_Mo_low wi_Mo wo_Mo_low) rfl rfl rfl wq_Mo_low ⟨Nat.le_of_ble_eq_true rfl, Nat.le_of_ble_eq_true rfl⟩) (ka_preS X9 hP hD hS) rfl rfl hl.1 rfl (lv_room (Nat.le_of_ble_eq_true rfl)) d_Mo_passes_105 ⟨Nat.le_of_ble_eq_true rfl, Nat.le_of_ble_eq_true rfl⟩) X9 hD hS rfl (fun H locs hP hD hS => ?_)
        refine lv_icmp_lt (tgt := 121) hx hb d_Mo_passes_108 (by decide) (fun c15 => ?_) (fun c15 => ?_)
        · replace h := zo_t c15 h
          refine lv_iconst (v := 0) hx hb d_Mo_passes_121 (by decide) ?_
          cases h
          exact W.zret hx hb hr (by decide) (fun t ht hW => ⟨⟨_, (), rfl, rfl, ka_at ht hP⟩, hS.F ht⟩) hS.2.2 d_Mo_passes_122 hlk
        replace h := zo_f c15 h
        refine lv_iload hx hb d_Mo_passes_111 (lv_at hl 2 rfl) ?_
        refine lv_iload hx hb d_Mo_passes_113 (lv_at hl 0 rfl) ?_
        obtain ⟨v16, e9, h⟩ := zo_b h
        refine ka_i (va_runS (As := [.int v12]) (rest := [.int v8]) S9 (c_Mo_low l hl9 D A (MW A σ r) _ v12 _ e9) (cwS 1 hts (tg_S wl_Mo_24 ws_Mo_low wi_Mo wo_Mo_low) rfl rfl rfl wq_Mo_low ⟨Nat.le_of_ble_eq_true rfl, Nat.le_of_ble_eq_true rfl⟩) (ka_preS X9 hP hD hS) rfl rfl hl.1 rfl (lv_room (Nat.le_of_ble_eq_true rfl)) d_Mo_passes_115 ⟨Nat.le_of_ble_eq_true rfl, Nat.le_of_ble_eq_true rfl⟩) X9 hD hS rfl (fun H locs hP hD hS => ?_)
        refine lv_icmp_ge (tgt := 123) hx hb d_Mo_passes_118 (by decide) (fun c17 => ?_) (fun c17 => ?_)
        · replace h := zo_t c17 h
          refine lv_aload_n hx hb d_Mo_passes_123 rfl (lv_at hl 3 rfl) ?_
          refine lv_iload hx hb d_Mo_passes_124 (lv_at hl 7 rfl) ?_
          refine lv_iload hx hb d_Mo_passes_126 (lv_at hl 8 rfl) ?_
          obtain ⟨v18, e9, h⟩ := zo_b h
          refine ka_i (va_runV (As := [.int y4, .int y5]) (rest := []) S9 (c_Mo_lev l hl9 D A r _ σ y4 y5 _ e9) (cwV 2 hts (tg_V wl_Mo_20 wm_Mo_lev we_Mo_lev wi_Mo wo_Mo_lev) rfl rfl rfl wq_Mo_lev ⟨Nat.le_of_ble_eq_true rfl, Nat.le_of_ble_eq_true rfl⟩) (ka_preV X9 hP hD hS 0 rfl rfl) rfl rfl hl.1 rfl (lv_room (Nat.le_of_ble_eq_true rfl)) d_Mo_passes_128 ⟨Nat.le_of_ble_eq_true rfl, Nat.le_of_ble_eq_true rfl⟩) X9 hD hS rfl (fun H locs hP hD hS => ?_)
          refine lv_istore (lv' := [(9, .int v18), (8, .int v12), (7, .int v10), (6, .int v8), (0, .ref (A 60)), (1, .int y1), (2, .int y2), (3, .int y3), (4, .int y4), (5, .int y5)]) hx hb d_Mo_passes_131 hl (by decide) rfl (fun ls hl => ?_)
          refine lv_iload hx hb d_Mo_passes_133 (lv_at hl 0 rfl) ?_
          refine lv_aload_n hx hb d_Mo_passes_135 rfl (lv_at hl 4 rfl) ?_
          refine lv_aload_n hx hb d_Mo_passes_136 rfl (lv_at hl 4 rfl) ?_
          refine lv_iload_n hx hb d_Mo_passes_137 rfl (lv_at hl 5 rfl) ?_
          refine lv_bipush (v := 6) hx hb d_Mo_passes_138 (by decide) ?_
          obtain ⟨v19, e9, h⟩ := zo_b h
          refine ka_i (va_runV (As := [.int y1, .int 6]) (rest := [.ref (A 60), .int v18]) S9 (c_Mo_at l hl9 D A r _ σ y1 6 _ e9) (cwV 2 hts (tg_V wl_Mo_32 wm_Mo_at we_Mo_at wi_Mo wo_Mo_at) rfl rfl rfl wq_Mo_at ⟨Nat.le_of_ble_eq_true rfl, Nat.le_of_ble_eq_true rfl⟩) (ka_preV X9 hP hD hS 0 rfl rfl) rfl rfl hl.1 rfl (lv_room (Nat.le_of_ble_eq_true rfl)) d_Mo_passes_140 ⟨Nat.le_of_ble_eq_true rfl, Nat.le_of_ble_eq_true rfl⟩) X9 hD hS rfl (fun H locs hP hD hS => ?_)
          refine lv_iload hx hb d_Mo_passes_143 (lv_at hl 9 rfl) ?_
          obtain ⟨v20, e9, h⟩ := zo_b h
          refine ka_i (va_runV (As := [.int v19, .int y5]) (rest := [.int v18]) S9 (c_Mo_lev l hl9 D A r _ σ v19 y5 _ e9) (cwV 2 hts (tg_V wl_Mo_20 wm_Mo_lev we_Mo_lev wi_Mo wo_Mo_lev) rfl rfl rfl wq_Mo_lev ⟨Nat.le_of_ble_eq_true rfl, Nat.le_of_ble_eq_true rfl⟩) (ka_preV X9 hP hD hS 0 rfl rfl) rfl rfl hl.1 rfl (lv_room (Nat.le_of_ble_eq_true rfl)) d_Mo_passes_145 ⟨Nat.le_of_ble_eq_true rfl, Nat.le_of_ble_eq_true rfl⟩) X9 hD hS rfl (fun H locs hP hD hS => ?_)
          refine lv_icmp_le (tgt := 171) hx hb d_Mo_passes_148 (by decide) (fun c21 => ?_) (fun c21 => ?_)
          · replace h := zo_t c21 h
            refine lv_iinc (v := y5 + 1) (lv' := [(5, .int (y5 + 1)), (9, .int v18), (8, .int v12), (7, .int v10), (6, .int v8), (0, .ref (A 60)), (1, .int y1), (2, .int y2), (3, .int y3), (4, .int y4)]) hx hb d_Mo_passes_171 hl (k := 9) rfl rfl (by decide) rfl (fun ls hl => ?_)
            refine lv_goto (tgt := 36) hx hb d_Mo_passes_174 (by decide) ?_
            exact ih36 y1 y2 y3 y4 (y5 + 1) _ _ _ h hP hD hS (lv_sub hl [5, 6, 7, 8, 9, 0] rfl)
          replace h := zo_f c21 h
          refine lv_iload hx hb d_Mo_passes_151 (lv_at hl 0 rfl) ?_
          refine lv_aload_n hx hb d_Mo_passes_153 rfl (lv_at hl 4 rfl) ?_
          refine lv_aload_n hx hb d_Mo_passes_154 rfl (lv_at hl 4 rfl) ?_
          refine lv_iload_n hx hb d_Mo_passes_155 rfl (lv_at hl 6 rfl) ?_
          refine lv_bipush (v := 6) hx hb d_Mo_passes_156 (by decide) ?_
          obtain ⟨v22, e9, h⟩ := zo_b h
          refine ka_i (va_runV (As := [.int y2, .int 6]) (rest := [.ref (A 60), .int v18]) S9 (c_Mo_at l hl9 D A r _ σ y2 6 _ e9) (cwV 2 hts (tg_V wl_Mo_32 wm_Mo_at we_Mo_at wi_Mo wo_Mo_at) rfl rfl rfl wq_Mo_at ⟨Nat.le_of_ble_eq_true rfl, Nat.le_of_ble_eq_true rfl⟩) (ka_preV X9 hP hD hS 0 rfl rfl) rfl rfl hl.1 rfl (lv_room (Nat.le_of_ble_eq_true rfl)) d_Mo_passes_158 ⟨Nat.le_of_ble_eq_true rfl, Nat.le_of_ble_eq_true rfl⟩) X9 hD hS rfl (fun H locs hP hD hS => ?_)
          refine lv_iload hx hb d_Mo_passes_161 (lv_at hl 9 rfl) ?_
          obtain ⟨v23, e9, h⟩ := zo_b h
          refine ka_i (va_runV (As := [.int v22, .int y5]) (rest := [.int v18]) S9 (c_Mo_lev l hl9 D A r _ σ v22 y5 _ e9) (cwV 2 hts (tg_V wl_Mo_20 wm_Mo_lev we_Mo_lev wi_Mo wo_Mo_lev) rfl rfl rfl wq_Mo_lev ⟨Nat.le_of_ble_eq_true rfl, Nat.le_of_ble_eq_true rfl⟩) (ka_preV X9 hP hD hS 0 rfl rfl) rfl rfl hl.1 rfl (lv_room (Nat.le_of_ble_eq_true rfl)) d_Mo_passes_163 ⟨Nat.le_of_ble_eq_true rfl, Nat.le_of_ble_eq_true rfl⟩) X9 hD hS rfl (fun H locs hP hD hS => ?_)
          refine lv_icmp_le (tgt := 171) hx hb d_Mo_passes_166 (by decide) (fun c24 => ?_) (fun c24 => ?_)
          · replace h := zo_t c24 h
            refine lv_iinc (v := y5 + 1) (lv' := [(5, .int (y5 + 1)), (9, .int v18), (8, .int v12), (7, .int v10), (6, .int v8), (0, .ref (A 60)), (1, .int y1), (2, .int y2), (3, .int y3), (4, .int y4)]) hx hb d_Mo_passes_171 hl (k := 9) rfl rfl (by decide) rfl (fun ls hl => ?_)
            refine lv_goto (tgt := 36) hx hb d_Mo_passes_174 (by decide) ?_
            exact ih36 y1 y2 y3 y4 (y5 + 1) _ _ _ h hP hD hS (lv_sub hl [5, 6, 7, 8, 9, 0] rfl)
          replace h := zo_f c24 h
          refine lv_iconst (v := 0) hx hb d_Mo_passes_169 (by decide) ?_
          cases h
          exact W.zret hx hb hr (by decide) (fun t ht hW => ⟨⟨_, (), rfl, rfl, ka_at ht hP⟩, hS.F ht⟩) hS.2.2 d_Mo_passes_170 hlk
        replace h := zo_f c17 h
        refine lv_iconst (v := 0) hx hb d_Mo_passes_121 (by decide) ?_
        cases h
        exact W.zret hx hb hr (by decide) (fun t ht hW => ⟨⟨_, (), rfl, rfl, ka_at ht hP⟩, hS.F ht⟩) hS.2.2 d_Mo_passes_122 hlk
      replace h := zo_t c13 h
      refine lv_iload hx hb d_Mo_passes_86 (lv_at hl 1 rfl) ?_
      refine lv_iconst (v := 4) hx hb d_Mo_passes_88 (by decide) ?_
      refine lv_icmp_eq (tgt := 123) hx hb d_Mo_passes_89 (by decide) (fun c25 => ?_) (fun c25 => ?_)
      · replace h := zo_t c25 h
        refine lv_aload_n hx hb d_Mo_passes_123 rfl (lv_at hl 3 rfl) ?_
        refine lv_iload hx hb d_Mo_passes_124 (lv_at hl 7 rfl) ?_
        refine lv_iload hx hb d_Mo_passes_126 (lv_at hl 8 rfl) ?_
        obtain ⟨v26, e9, h⟩ := zo_b h
        refine ka_i (va_runV (As := [.int y4, .int y5]) (rest := []) S9 (c_Mo_lev l hl9 D A r _ σ y4 y5 _ e9) (cwV 2 hts (tg_V wl_Mo_20 wm_Mo_lev we_Mo_lev wi_Mo wo_Mo_lev) rfl rfl rfl wq_Mo_lev ⟨Nat.le_of_ble_eq_true rfl, Nat.le_of_ble_eq_true rfl⟩) (ka_preV X9 hP hD hS 0 rfl rfl) rfl rfl hl.1 rfl (lv_room (Nat.le_of_ble_eq_true rfl)) d_Mo_passes_128 ⟨Nat.le_of_ble_eq_true rfl, Nat.le_of_ble_eq_true rfl⟩) X9 hD hS rfl (fun H locs hP hD hS => ?_)
        refine lv_istore (lv' := [(9, .int v26), (8, .int v12), (7, .int v10), (6, .int v8), (0, .ref (A 60)), (1, .int y1), (2, .int y2), (3, .int y3), (4, .int y4), (5, .int y5)]) hx hb d_Mo_passes_131 hl (by decide) rfl (fun ls hl => ?_)
        refine lv_iload hx hb d_Mo_passes_133 (lv_at hl 0 rfl) ?_
        refine lv_aload_n hx hb d_Mo_passes_135 rfl (lv_at hl 4 rfl) ?_
        refine lv_aload_n hx hb d_Mo_passes_136 rfl (lv_at hl 4 rfl) ?_
        refine lv_iload_n hx hb d_Mo_passes_137 rfl (lv_at hl 5 rfl) ?_
        refine lv_bipush (v := 6) hx hb d_Mo_passes_138 (by decide) ?_
        obtain ⟨v27, e9, h⟩ := zo_b h
        refine ka_i (va_runV (As := [.int y1, .int 6]) (rest := [.ref (A 60), .int v26]) S9 (c_Mo_at l hl9 D A r _ σ y1 6 _ e9) (cwV 2 hts (tg_V wl_Mo_32 wm_Mo_at we_Mo_at wi_Mo wo_Mo_at) rfl rfl rfl wq_Mo_at ⟨Nat.le_of_ble_eq_true rfl, Nat.le_of_ble_eq_true rfl⟩) (ka_preV X9 hP hD hS 0 rfl rfl) rfl rfl hl.1 rfl (lv_room (Nat.le_of_ble_eq_true rfl)) d_Mo_passes_140 ⟨Nat.le_of_ble_eq_true rfl, Nat.le_of_ble_eq_true rfl⟩) X9 hD hS rfl (fun H locs hP hD hS => ?_)
        refine lv_iload hx hb d_Mo_passes_143 (lv_at hl 9 rfl) ?_
        obtain ⟨v28, e9, h⟩ := zo_b h
        refine ka_i (va_runV (As := [.int v27, .int y5]) (rest := [.int v26]) S9 (c_Mo_lev l hl9 D A r _ σ v27 y5 _ e9) (cwV 2 hts (tg_V wl_Mo_20 wm_Mo_lev we_Mo_lev wi_Mo wo_Mo_lev) rfl rfl rfl wq_Mo_lev ⟨Nat.le_of_ble_eq_true rfl, Nat.le_of_ble_eq_true rfl⟩) (ka_preV X9 hP hD hS 0 rfl rfl) rfl rfl hl.1 rfl (lv_room (Nat.le_of_ble_eq_true rfl)) d_Mo_passes_145 ⟨Nat.le_of_ble_eq_true rfl, Nat.le_of_ble_eq_true rfl⟩) X9 hD hS rfl (fun H locs hP hD hS => ?_)
        refine lv_icmp_le (tgt := 171) hx hb d_Mo_passes_148 (by decide) (fun c29 => ?_) (fun c29 => ?_)
        · replace h := zo_t c29 h
          refine lv_iinc (v := y5 + 1) (lv' := [(5, .int (y5 + 1)), (9, .int v26), (8, .int v12), (7, .int v10), (6, .int v8), (0, .ref (A 60)), (1, .int y1), (2, .int y2), (3, .int y3), (4, .int y4)]) hx hb d_Mo_passes_171 hl (k := 9) rfl rfl (by decide) rfl (fun ls hl => ?_)
          refine lv_goto (tgt := 36) hx hb d_Mo_passes_174 (by decide) ?_
          exact ih36 y1 y2 y3 y4 (y5 + 1) _ _ _ h hP hD hS (lv_sub hl [5, 6, 7, 8, 9, 0] rfl)
        replace h := zo_f c29 h
        refine lv_iload hx hb d_Mo_passes_151 (lv_at hl 0 rfl) ?_
        refine lv_aload_n hx hb d_Mo_passes_153 rfl (lv_at hl 4 rfl) ?_
        refine lv_aload_n hx hb d_Mo_passes_154 rfl (lv_at hl 4 rfl) ?_
        refine lv_iload_n hx hb d_Mo_passes_155 rfl (lv_at hl 6 rfl) ?_
        refine lv_bipush (v := 6) hx hb d_Mo_passes_156 (by decide) ?_
        obtain ⟨v30, e9, h⟩ := zo_b h
        refine ka_i (va_runV (As := [.int y2, .int 6]) (rest := [.ref (A 60), .int v26]) S9 (c_Mo_at l hl9 D A r _ σ y2 6 _ e9) (cwV 2 hts (tg_V wl_Mo_32 wm_Mo_at we_Mo_at wi_Mo wo_Mo_at) rfl rfl rfl wq_Mo_at ⟨Nat.le_of_ble_eq_true rfl, Nat.le_of_ble_eq_true rfl⟩) (ka_preV X9 hP hD hS 0 rfl rfl) rfl rfl hl.1 rfl (lv_room (Nat.le_of_ble_eq_true rfl)) d_Mo_passes_158 ⟨Nat.le_of_ble_eq_true rfl, Nat.le_of_ble_eq_true rfl⟩) X9 hD hS rfl (fun H locs hP hD hS => ?_)
        refine lv_iload hx hb d_Mo_passes_161 (lv_at hl 9 rfl) ?_
        obtain ⟨v31, e9, h⟩ := zo_b h
        refine ka_i (va_runV (As := [.int v30, .int y5]) (rest := [.int v26]) S9 (c_Mo_lev l hl9 D A r _ σ v30 y5 _ e9) (cwV 2 hts (tg_V wl_Mo_20 wm_Mo_lev we_Mo_lev wi_Mo wo_Mo_lev) rfl rfl rfl wq_Mo_lev ⟨Nat.le_of_ble_eq_true rfl, Nat.le_of_ble_eq_true rfl⟩) (ka_preV X9 hP hD hS 0 rfl rfl) rfl rfl hl.1 rfl (lv_room (Nat.le_of_ble_eq_true rfl)) d_Mo_passes_163 ⟨Nat.le_of_ble_eq_true rfl, Nat.le_of_ble_eq_true rfl⟩) X9 hD hS rfl (fun H locs hP hD hS => ?_)
        refine lv_icmp_le (tgt := 171) hx hb d_Mo_passes_166 (by decide) (fun c32 => ?_) (fun c32 => ?_)
        · replace h := zo_t c32 h
          refine lv_iinc (v := y5 + 1) (lv' := [(5, .int (y5 + 1)), (9, .int v26), (8, .int v12), (7, .int v10), (6, .int v8), (0, .ref (A 60)), (1, .int y1), (2, .int y2), (3, .int y3), (4, .int y4)]) hx hb d_Mo_passes_171 hl (k := 9) rfl rfl (by decide) rfl (fun ls hl => ?_)
          refine lv_goto (tgt := 36) hx hb d_Mo_passes_174 (by decide) ?_
          exact ih36 y1 y2 y3 y4 (y5 + 1) _ _ _ h hP hD hS (lv_sub hl [5, 6, 7, 8, 9, 0] rfl)
        replace h := zo_f c32 h
        refine lv_iconst (v := 0) hx hb d_Mo_passes_169 (by decide) ?_
        cases h
        exact W.zret hx hb hr (by decide) (fun t ht hW => ⟨⟨_, (), rfl, rfl, ka_at ht hP⟩, hS.F ht⟩) hS.2.2 d_Mo_passes_170 hlk
      replace h := zo_f c25 h
      refine lv_iload hx hb d_Mo_passes_92 (lv_at hl 0 rfl) ?_
      refine lv_iconst (v := 4) hx hb d_Mo_passes_94 (by decide) ?_
      refine lv_icmp_eq (tgt := 123) hx hb d_Mo_passes_95 (by decide) (fun c33 => ?_) (fun c33 => ?_)
      · replace h := zo_t c33 h
        refine lv_aload_n hx hb d_Mo_passes_123 rfl (lv_at hl 3 rfl) ?_
        refine lv_iload hx hb d_Mo_passes_124 (lv_at hl 7 rfl) ?_
        refine lv_iload hx hb d_Mo_passes_126 (lv_at hl 8 rfl) ?_
        obtain ⟨v34, e9, h⟩ := zo_b h
        refine ka_i (va_runV (As := [.int y4, .int y5]) (rest := []) S9 (c_Mo_lev l hl9 D A r _ σ y4 y5 _ e9) (cwV 2 hts (tg_V wl_Mo_20 wm_Mo_lev we_Mo_lev wi_Mo wo_Mo_lev) rfl rfl rfl wq_Mo_lev ⟨Nat.le_of_ble_eq_true rfl, Nat.le_of_ble_eq_true rfl⟩) (ka_preV X9 hP hD hS 0 rfl rfl) rfl rfl hl.1 rfl (lv_room (Nat.le_of_ble_eq_true rfl)) d_Mo_passes_128 ⟨Nat.le_of_ble_eq_true rfl, Nat.le_of_ble_eq_true rfl⟩) X9 hD hS rfl (fun H locs hP hD hS => ?_)
        refine lv_istore (lv' := [(9, .int v34), (8, .int v12), (7, .int v10), (6, .int v8), (0, .ref (A 60)), (1, .int y1), (2, .int y2), (3, .int y3), (4, .int y4), (5, .int y5)]) hx hb d_Mo_passes_131 hl (by decide) rfl (fun ls hl => ?_)
        refine lv_iload hx hb d_Mo_passes_133 (lv_at hl 0 rfl) ?_
        refine lv_aload_n hx hb d_Mo_passes_135 rfl (lv_at hl 4 rfl) ?_
        refine lv_aload_n hx hb d_Mo_passes_136 rfl (lv_at hl 4 rfl) ?_
        refine lv_iload_n hx hb d_Mo_passes_137 rfl (lv_at hl 5 rfl) ?_
        refine lv_bipush (v := 6) hx hb d_Mo_passes_138 (by decide) ?_
        obtain ⟨v35, e9, h⟩ := zo_b h
        refine ka_i (va_runV (As := [.int y1, .int 6]) (rest := [.ref (A 60), .int v34]) S9 (c_Mo_at l hl9 D A r _ σ y1 6 _ e9) (cwV 2 hts (tg_V wl_Mo_32 wm_Mo_at we_Mo_at wi_Mo wo_Mo_at) rfl rfl rfl wq_Mo_at ⟨Nat.le_of_ble_eq_true rfl, Nat.le_of_ble_eq_true rfl⟩) (ka_preV X9 hP hD hS 0 rfl rfl) rfl rfl hl.1 rfl (lv_room (Nat.le_of_ble_eq_true rfl)) d_Mo_passes_140 ⟨Nat.le_of_ble_eq_true rfl, Nat.le_of_ble_eq_true rfl⟩) X9 hD hS rfl (fun H locs hP hD hS => ?_)
        refine lv_iload hx hb d_Mo_passes_143 (lv_at hl 9 rfl) ?_
        obtain ⟨v36, e9, h⟩ := zo_b h
        refine ka_i (va_runV (As := [.int v35, .int y5]) (rest := [.int v34]) S9 (c_Mo_lev l hl9 D A r _ σ v35 y5 _ e9) (cwV 2 hts (tg_V wl_Mo_20 wm_Mo_lev we_Mo_lev wi_Mo wo_Mo_lev) rfl rfl rfl wq_Mo_lev ⟨Nat.le_of_ble_eq_true rfl, Nat.le_of_ble_eq_true rfl⟩) (ka_preV X9 hP hD hS 0 rfl rfl) rfl rfl hl.1 rfl (lv_room (Nat.le_of_ble_eq_true rfl)) d_Mo_passes_145 ⟨Nat.le_of_ble_eq_true rfl, Nat.le_of_ble_eq_true rfl⟩) X9 hD hS rfl (fun H locs hP hD hS => ?_)
        refine lv_icmp_le (tgt := 171) hx hb d_Mo_passes_148 (by decide) (fun c37 => ?_) (fun c37 => ?_)
        · replace h := zo_t c37 h
          refine lv_iinc (v := y5 + 1) (lv' := [(5, .int (y5 + 1)), (9, .int v34), (8, .int v12), (7, .int v10), (6, .int v8), (0, .ref (A 60)), (1, .int y1), (2, .int y2), (3, .int y3), (4, .int y4)]) hx hb d_Mo_passes_171 hl (k := 9) rfl rfl (by decide) rfl (fun ls hl => ?_)
          refine lv_goto (tgt := 36) hx hb d_Mo_passes_174 (by decide) ?_
          exact ih36 y1 y2 y3 y4 (y5 + 1) _ _ _ h hP hD hS (lv_sub hl [5, 6, 7, 8, 9, 0] rfl)
        replace h := zo_f c37 h
        refine lv_iload hx hb d_Mo_passes_151 (lv_at hl 0 rfl) ?_
        refine lv_aload_n hx hb d_Mo_passes_153 rfl (lv_at hl 4 rfl) ?_
        refine lv_aload_n hx hb d_Mo_passes_154 rfl (lv_at hl 4 rfl) ?_
        refine lv_iload_n hx hb d_Mo_passes_155 rfl (lv_at hl 6 rfl) ?_
        refine lv_bipush (v := 6) hx hb d_Mo_passes_156 (by decide) ?_
        obtain ⟨v38, e9, h⟩ := zo_b h
        refine ka_i (va_runV (As := [.int y2, .int 6]) (rest := [.ref (A 60), .int v34]) S9 (c_Mo_at l hl9 D A r _ σ y2 6 _ e9) (cwV 2 hts (tg_V wl_Mo_32 wm_Mo_at we_Mo_at wi_Mo wo_Mo_at) rfl rfl rfl wq_Mo_at ⟨Nat.le_of_ble_eq_true rfl, Nat.le_of_ble_eq_true rfl⟩) (ka_preV X9 hP hD hS 0 rfl rfl) rfl rfl hl.1 rfl (lv_room (Nat.le_of_ble_eq_true rfl)) d_Mo_passes_158 ⟨Nat.le_of_ble_eq_true rfl, Nat.le_of_ble_eq_true rfl⟩) X9 hD hS rfl (fun H locs hP hD hS => ?_)
        refine lv_iload hx hb d_Mo_passes_161 (lv_at hl 9 rfl) ?_
        obtain ⟨v39, e9, h⟩ := zo_b h
        refine ka_i (va_runV (As := [.int v38, .int y5]) (rest := [.int v34]) S9 (c_Mo_lev l hl9 D A r _ σ v38 y5 _ e9) (cwV 2 hts (tg_V wl_Mo_20 wm_Mo_lev we_Mo_lev wi_Mo wo_Mo_lev) rfl rfl rfl wq_Mo_lev ⟨Nat.le_of_ble_eq_true rfl, Nat.le_of_ble_eq_true rfl⟩) (ka_preV X9 hP hD hS 0 rfl rfl) rfl rfl hl.1 rfl (lv_room (Nat.le_of_ble_eq_true rfl)) d_Mo_passes_163 ⟨Nat.le_of_ble_eq_true rfl, Nat.le_of_ble_eq_true rfl⟩) X9 hD hS rfl (fun H locs hP hD hS => ?_)
        refine lv_icmp_le (tgt := 171) hx hb d_Mo_passes_166 (by decide) (fun c40 => ?_) (fun c40 => ?_)
        · replace h := zo_t c40 h
          refine lv_iinc (v := y5 + 1) (lv' := [(5, .int (y5 + 1)), (9, .int v34), (8, .int v12), (7, .int v10), (6, .int v8), (0, .ref (A 60)), (1, .int y1), (2, .int y2), (3, .int y3), (4, .int y4)]) hx hb d_Mo_passes_171 hl (k := 9) rfl rfl (by decide) rfl (fun ls hl => ?_)
          refine lv_goto (tgt := 36) hx hb d_Mo_passes_174 (by decide) ?_
          exact ih36 y1 y2 y3 y4 (y5 + 1) _ _ _ h hP hD hS (lv_sub hl [5, 6, 7, 8, 9, 0] rfl)
        replace h := zo_f c40 h
        refine lv_iconst (v := 0) hx hb d_Mo_passes_169 (by decide) ?_
        cases h
        exact W.zret hx hb hr (by decide) (fun t ht hW => ⟨⟨_, (), rfl, rfl, ka_at ht hP⟩, hS.F ht⟩) hS.2.2 d_Mo_passes_170 hlk
      replace h := zo_f c33 h
      refine lv_goto (tgt := 121) hx hb d_Mo_passes_98 (by decide) ?_
      refine lv_iconst (v := 0) hx hb d_Mo_passes_121 (by decide) ?_
      cases h
      exact W.zret hx hb hr (by decide) (fun t ht hW => ⟨⟨_, (), rfl, rfl, ka_at ht hP⟩, hS.F ht⟩) hS.2.2 d_Mo_passes_122 hlk
  refine lv_aload_n hx hb d_Mo_passes_0 rfl (lv_at hl 0 rfl) ?_
  refine lv_aload_n hx hb d_Mo_passes_1 rfl (lv_at hl 0 rfl) ?_
  refine lv_iload_n hx hb d_Mo_passes_2 rfl (lv_at hl 1 rfl) ?_
  refine lv_iconst (v := 2) hx hb d_Mo_passes_3 (by decide) ?_
  obtain ⟨v1, e9, h⟩ := zo_b h
  refine ka_i (va_runV (As := [.int x1, .int 2]) (rest := [.ref (A 60)]) S9 (c_Mo_at l hl9 D A r _ σ x1 2 _ e9) (cwV 2 hts (tg_V wl_Mo_32 wm_Mo_at we_Mo_at wi_Mo wo_Mo_at) rfl rfl rfl wq_Mo_at ⟨Nat.le_of_ble_eq_true rfl, Nat.le_of_ble_eq_true rfl⟩) (ka_preV X9 hP hD hS 0 rfl rfl) rfl rfl hl.1 rfl (lv_room (Nat.le_of_ble_eq_true rfl)) d_Mo_passes_4 ⟨Nat.le_of_ble_eq_true rfl, Nat.le_of_ble_eq_true rfl⟩) X9 hD hS rfl (fun H locs hP hD hS => ?_)
  refine lv_aload_n hx hb d_Mo_passes_7 rfl (lv_at hl 0 rfl) ?_
  refine lv_iload_n hx hb d_Mo_passes_8 rfl (lv_at hl 2 rfl) ?_
  refine lv_iconst (v := 5) hx hb d_Mo_passes_9 (by decide) ?_
  obtain ⟨v2, e9, h⟩ := zo_b h
  refine ka_i (va_runV (As := [.int x2, .int 5]) (rest := [.int v1, .ref (A 60)]) S9 (c_Mo_at l hl9 D A r _ σ x2 5 _ e9) (cwV 2 hts (tg_V wl_Mo_32 wm_Mo_at we_Mo_at wi_Mo wo_Mo_at) rfl rfl rfl wq_Mo_at ⟨Nat.le_of_ble_eq_true rfl, Nat.le_of_ble_eq_true rfl⟩) (ka_preV X9 hP hD hS 0 rfl rfl) rfl rfl hl.1 rfl (lv_room (Nat.le_of_ble_eq_true rfl)) d_Mo_passes_10 ⟨Nat.le_of_ble_eq_true rfl, Nat.le_of_ble_eq_true rfl⟩) X9 hD hS rfl (fun H locs hP hD hS => ?_)
  refine lv_iconst (v := 0) hx hb d_Mo_passes_13 (by decide) ?_
  obtain ⟨v3, e9, h⟩ := zo_b h
  refine ka_i (va_runV (As := [.int v1, .int v2, .int 0]) (rest := []) S9 (c_Mo_under l hl9 D A r _ σ v1 v2 0 _ e9) (cwV 3 hts (tg_V wl_Mo_35 wm_Mo_under we_Mo_under wi_Mo wo_Mo_under) rfl rfl rfl wq_Mo_under ⟨Nat.le_of_ble_eq_true rfl, Nat.le_of_ble_eq_true rfl⟩) (ka_preV X9 hP hD hS 0 rfl rfl) rfl rfl hl.1 rfl (lv_room (Nat.le_of_ble_eq_true rfl)) d_Mo_passes_14 ⟨Nat.le_of_ble_eq_true rfl, Nat.le_of_ble_eq_true rfl⟩) X9 hD hS rfl (fun H locs hP hD hS => ?_)
  refine lv_if_eq (tgt := 31) hx hb d_Mo_passes_17 (by decide) (fun c4 => ?_) (fun c4 => ?_)
  · replace h := zo_t c4 h
    refine lv_iconst (v := 0) hx hb d_Mo_passes_31 (by decide) ?_
    cases h
    exact W.zret hx hb hr (by decide) (fun t ht hW => ⟨⟨_, (), rfl, rfl, ka_at ht hP⟩, hS.F ht⟩) hS.2.2 d_Mo_passes_32 hlk
  replace h := zo_f c4 h
  refine lv_aload_n hx hb d_Mo_passes_20 rfl (lv_at hl 0 rfl) ?_
  refine lv_iload_n hx hb d_Mo_passes_21 rfl (lv_at hl 3 rfl) ?_
  refine lv_iload hx hb d_Mo_passes_22 (lv_at hl 4 rfl) ?_
  refine lv_iconst (v := 0) hx hb d_Mo_passes_24 (by decide) ?_
  obtain ⟨v5, e9, h⟩ := zo_b h
  refine ka_i (va_runV (As := [.int x3, .int x4, .int 0]) (rest := []) S9 (c_Mo_under l hl9 D A r _ σ x3 x4 0 _ e9) (cwV 3 hts (tg_V wl_Mo_35 wm_Mo_under we_Mo_under wi_Mo wo_Mo_under) rfl rfl rfl wq_Mo_under ⟨Nat.le_of_ble_eq_true rfl, Nat.le_of_ble_eq_true rfl⟩) (ka_preV X9 hP hD hS 0 rfl rfl) rfl rfl hl.1 rfl (lv_room (Nat.le_of_ble_eq_true rfl)) d_Mo_passes_25 ⟨Nat.le_of_ble_eq_true rfl, Nat.le_of_ble_eq_true rfl⟩) X9 hD hS rfl (fun H locs hP hD hS => ?_)
  refine lv_if_ne (tgt := 33) hx hb d_Mo_passes_28 (by decide) (fun c6 => ?_) (fun c6 => ?_)
  · replace h := zo_f c6 h
    refine lv_iconst (v := 0) hx hb d_Mo_passes_33 (by decide) ?_
    refine lv_istore (lv' := [(5, .int 0), (0, .ref (A 60)), (1, .int x1), (2, .int x2), (3, .int x3), (4, .int x4)]) hx hb d_Mo_passes_34 hl (by decide) rfl (fun ls hl => ?_)
    exact L36 100 x1 x2 x3 x4 0 _ _ _ h hP hD hS (lv_sub hl [1, 2, 3, 4, 5, 0] rfl)
  replace h := zo_t c6 h
  refine lv_iconst (v := 0) hx hb d_Mo_passes_31 (by decide) ?_
  cases h
  exact W.zret hx hb hr (by decide) (fun t ht hW => ⟨⟨_, (), rfl, rfl, ka_at ht hP⟩, hS.F ht⟩) hS.2.2 d_Mo_passes_32 hlk
def f_Mo_go (σ : RS) (x1 x2 x3 x4 x5 : Int32) : Option (Int32 × RS) := (f_Mo_isLabel σ x4).bind fun v1 => if v1 = 0 then ((f_Mo_fail σ 1).bind fun v3 => some (v3.1, v3.2)) else ((f_Mo_isLabel σ x5).bind fun v4 => if v4 = 0 then ((f_Mo_fail σ 1).bind fun v6 => some (v6.1, v6.2)) else ((f_Mo_starless σ x5).bind fun v7 => if v7 = 0 then ((f_Mo_fail σ 1).bind fun v20 => some (v20.1, v20.2)) else ((f_Mo_named σ x1 x2 x3 2).bind fun v9 => if v9.1 = 0 then (some (0, v9.2)) else ((f_Mo_sees v9.2 x1 x2).bind fun v11 => if v11 = 0 then ((f_Mo_fail v9.2 3).bind fun v13 => some (v13.1, v13.2)) else ((f_Mo_passes v9.2 x1 x3 x4 x5).bind fun v14 => if v14 = 0 then ((f_Mo_fail v9.2 3).bind fun v19 => some (v19.1, v19.2)) else (if ((17 * x1) + 2) < 0 ∨ 1552 ≤ ((17 * x1) + 2).toNatClampNeg then none else zl (sM_row v9.2 (upd (gM_row v9.2) ((17 * x1) + 2).toNatClampNeg x4)) fun u16 => if ((17 * x1) + 6) < 0 ∨ 1552 ≤ ((17 * x1) + 6).toNatClampNeg then none else zl (sM_row u16 (upd (gM_row u16) ((17 * x1) + 6).toNatClampNeg x5)) fun u17 => (f_Mo_at u17 x3 7).bind fun v18 => some (v18, u17)))))))
set_option maxRecDepth 100000 in
set_option maxHeartbeats 4000000 in
theorem c_Mo_go (l : Launch) (hl9 : l.stackTraces = false) (D : va_G) (A : Nat → Nat) (r : va_W) (sz : Nat) (σ : RS) (x1 x2 x3 x4 x5 : Int32) (z : Int32 × RS) (h : f_Mo_go σ x1 x2 x3 x4 x5 = some z) : Met l y_Mo_go (Cond.code y_Mo_go b_Mo_go 6 (some .int) :: T0) ({ frames := 3, cells := 0, slots := 0, locals := 76 } : Room) (va_Pc [.ref (A 60), .int x1, .int x2, .int x3, .int x4, .int x5] (ka_Wd D A (MW A σ r) sz)) (ka_Ri D z.1 (MW A z.2 r) (va_A (MW A σ r) sz)) 0 0 (va_A (MW A σ r) sz) := by
  unfold f_Mo_go at h
  refine ka_of (own := R_Mo) (fun A9 => ka_Ri D z.1 (MW A z.2 r) A9) (by decide) rfl (Nat.le_of_ble_eq_true rfl) ?_
  intro p e s m below meth c A9 ls S9 hr hlk hex X9 hP hD hl
  obtain ⟨hx, hb, hml, hown, hts⟩ := id S9
  have hK := X9.2.1
  have hS : va_S A9 s.heap s.heap [] := va_S.rf
  replace hl : lv_has ls 6 [(0, .ref (A 60)), (1, .int x1), (2, .int x2), (3, .int x3), (4, .int x4), (5, .int x5)] := hl
  refine lv_aload_n hx hb d_Mo_go_0 rfl (lv_at hl 0 rfl) ?_
  refine lv_iload hx hb d_Mo_go_1 (lv_at hl 4 rfl) ?_
  obtain ⟨v1, e9, h⟩ := zo_b h
  refine ka_i (va_runV (As := [.int x4]) (rest := []) S9 (c_Mo_isLabel l hl9 D A r _ σ x4 _ e9) (cwV 1 hts (tg_V wl_Mo_54 wm_Mo_isLabel we_Mo_isLabel wi_Mo wo_Mo_isLabel) rfl rfl rfl wq_Mo_isLabel ⟨Nat.le_of_ble_eq_true rfl, Nat.le_of_ble_eq_true rfl⟩) (ka_preV X9 hP hD hS 0 rfl rfl) rfl rfl hl.1 rfl (lv_room (Nat.le_of_ble_eq_true rfl)) d_Mo_go_3 ⟨Nat.le_of_ble_eq_true rfl, Nat.le_of_ble_eq_true rfl⟩) X9 hD hS rfl (fun H locs hP hD hS => ?_)
  refine lv_if_eq (tgt := 27) hx hb d_Mo_go_6 (by decide) (fun c2 => ?_) (fun c2 => ?_)
  · replace h := zo_t c2 h
    refine lv_aload_n hx hb d_Mo_go_27 rfl (lv_at hl 0 rfl) ?_
    refine lv_iconst (v := 1) hx hb d_Mo_go_28 (by decide) ?_
    obtain ⟨v3, e9, h⟩ := zo_b h
    refine ka_i (va_runV (As := [.int 1]) (rest := []) S9 (c_Mo_fail l hl9 D A r _ σ 1 _ e9) (cwV 1 hts (tg_V wl_Mo_51 wm_Mo_fail we_Mo_fail wi_Mo wo_Mo_fail) rfl rfl rfl wq_Mo_fail ⟨Nat.le_of_ble_eq_true rfl, Nat.le_of_ble_eq_true rfl⟩) (ka_preV X9 hP hD hS 0 rfl rfl) rfl rfl hl.1 rfl (lv_room (Nat.le_of_ble_eq_true rfl)) d_Mo_go_29 ⟨Nat.le_of_ble_eq_true rfl, Nat.le_of_ble_eq_true rfl⟩) X9 hD hS rfl (fun H locs hP hD hS => ?_)
    cases h
    exact W.iret hx hb hr (fun t ht hW => ⟨⟨_, (), rfl, rfl, ka_at ht hP⟩, hS.F ht⟩) hS.2.2 d_Mo_go_32 hlk
  replace h := zo_f c2 h
  refine lv_aload_n hx hb d_Mo_go_9 rfl (lv_at hl 0 rfl) ?_
  refine lv_iload hx hb d_Mo_go_10 (lv_at hl 5 rfl) ?_
  obtain ⟨v4, e9, h⟩ := zo_b h
  refine ka_i (va_runV (As := [.int x5]) (rest := []) S9 (c_Mo_isLabel l hl9 D A r _ σ x5 _ e9) (cwV 1 hts (tg_V wl_Mo_54 wm_Mo_isLabel we_Mo_isLabel wi_Mo wo_Mo_isLabel) rfl rfl rfl wq_Mo_isLabel ⟨Nat.le_of_ble_eq_true rfl, Nat.le_of_ble_eq_true rfl⟩) (ka_preV X9 hP hD hS 0 rfl rfl) rfl rfl hl.1 rfl (lv_room (Nat.le_of_ble_eq_true rfl)) d_Mo_go_12 ⟨Nat.le_of_ble_eq_true rfl, Nat.le_of_ble_eq_true rfl⟩) X9 hD hS rfl (fun H locs hP hD hS => ?_)
  refine lv_if_eq (tgt := 27) hx hb d_Mo_go_15 (by decide) (fun c5 => ?_) (fun c5 => ?_)
  · replace h := zo_t c5 h
    refine lv_aload_n hx hb d_Mo_go_27 rfl (lv_at hl 0 rfl) ?_
    refine lv_iconst (v := 1) hx hb d_Mo_go_28 (by decide) ?_
    obtain ⟨v6, e9, h⟩ := zo_b h
    refine ka_i (va_runV (As := [.int 1]) (rest := []) S9 (c_Mo_fail l hl9 D A r _ σ 1 _ e9) (cwV 1 hts (tg_V wl_Mo_51 wm_Mo_fail we_Mo_fail wi_Mo wo_Mo_fail) rfl rfl rfl wq_Mo_fail ⟨Nat.le_of_ble_eq_true rfl, Nat.le_of_ble_eq_true rfl⟩) (ka_preV X9 hP hD hS 0 rfl rfl) rfl rfl hl.1 rfl (lv_room (Nat.le_of_ble_eq_true rfl)) d_Mo_go_29 ⟨Nat.le_of_ble_eq_true rfl, Nat.le_of_ble_eq_true rfl⟩) X9 hD hS rfl (fun H locs hP hD hS => ?_)
    cases h
    exact W.iret hx hb hr (fun t ht hW => ⟨⟨_, (), rfl, rfl, ka_at ht hP⟩, hS.F ht⟩) hS.2.2 d_Mo_go_32 hlk
  replace h := zo_f c5 h
  refine lv_aload_n hx hb d_Mo_go_18 rfl (lv_at hl 0 rfl) ?_
  refine lv_iload hx hb d_Mo_go_19 (lv_at hl 5 rfl) ?_
  obtain ⟨v7, e9, h⟩ := zo_b h
  refine ka_i (va_runV (As := [.int x5]) (rest := []) S9 (c_Mo_starless l hl9 D A r _ σ x5 _ e9) (cwV 1 hts (tg_V wl_Mo_81 wm_Mo_starless we_Mo_starless wi_Mo wo_Mo_starless) rfl rfl rfl wq_Mo_starless ⟨Nat.le_of_ble_eq_true rfl, Nat.le_of_ble_eq_true rfl⟩) (ka_preV X9 hP hD hS 0 rfl rfl) rfl rfl hl.1 rfl (lv_room (Nat.le_of_ble_eq_true rfl)) d_Mo_go_21 ⟨Nat.le_of_ble_eq_true rfl, Nat.le_of_ble_eq_true rfl⟩) X9 hD hS rfl (fun H locs hP hD hS => ?_)
  refine lv_if_ne (tgt := 33) hx hb d_Mo_go_24 (by decide) (fun c8 => ?_) (fun c8 => ?_)
  · replace h := zo_f c8 h
    refine lv_aload_n hx hb d_Mo_go_33 rfl (lv_at hl 0 rfl) ?_
    refine lv_iload_n hx hb d_Mo_go_34 rfl (lv_at hl 1 rfl) ?_
    refine lv_iload_n hx hb d_Mo_go_35 rfl (lv_at hl 2 rfl) ?_
    refine lv_iload_n hx hb d_Mo_go_36 rfl (lv_at hl 3 rfl) ?_
    refine lv_iconst (v := 2) hx hb d_Mo_go_37 (by decide) ?_
    obtain ⟨v9, e9, h⟩ := zo_b h
    refine ka_i (va_runV (As := [.int x1, .int x2, .int x3, .int 2]) (rest := []) S9 (c_Mo_named l hl9 D A r _ σ x1 x2 x3 2 _ e9) (cwV 4 hts (tg_V wl_Mo_99 wm_Mo_named we_Mo_named wi_Mo wo_Mo_named) rfl rfl rfl wq_Mo_named ⟨Nat.le_of_ble_eq_true rfl, Nat.le_of_ble_eq_true rfl⟩) (ka_preV X9 hP hD hS 0 rfl rfl) rfl rfl hl.1 rfl (lv_room (Nat.le_of_ble_eq_true rfl)) d_Mo_go_38 ⟨Nat.le_of_ble_eq_true rfl, Nat.le_of_ble_eq_true rfl⟩) X9 hD hS rfl (fun H locs hP hD hS => ?_)
    refine lv_if_ne (tgt := 46) hx hb d_Mo_go_41 (by decide) (fun c10 => ?_) (fun c10 => ?_)
    · replace h := zo_f c10 h
      refine lv_aload_n hx hb d_Mo_go_46 rfl (lv_at hl 0 rfl) ?_
      refine lv_iload_n hx hb d_Mo_go_47 rfl (lv_at hl 1 rfl) ?_
      refine lv_iload_n hx hb d_Mo_go_48 rfl (lv_at hl 2 rfl) ?_
      obtain ⟨v11, e9, h⟩ := zo_b h
      refine ka_i (va_runV (As := [.int x1, .int x2]) (rest := []) S9 (c_Mo_sees l hl9 D A r _ v9.2 x1 x2 _ e9) (cwV 2 hts (tg_V wl_Mo_39 wm_Mo_sees we_Mo_sees wi_Mo wo_Mo_sees) rfl rfl rfl wq_Mo_sees ⟨Nat.le_of_ble_eq_true rfl, Nat.le_of_ble_eq_true rfl⟩) (ka_preV X9 hP hD hS 0 rfl rfl) rfl rfl hl.1 rfl (lv_room (Nat.le_of_ble_eq_true rfl)) d_Mo_go_49 ⟨Nat.le_of_ble_eq_true rfl, Nat.le_of_ble_eq_true rfl⟩) X9 hD hS rfl (fun H locs hP hD hS => ?_)
      refine lv_if_eq (tgt := 68) hx hb d_Mo_go_52 (by decide) (fun c12 => ?_) (fun c12 => ?_)
      · replace h := zo_t c12 h
        refine lv_aload_n hx hb d_Mo_go_68 rfl (lv_at hl 0 rfl) ?_
        refine lv_iconst (v := 3) hx hb d_Mo_go_69 (by decide) ?_
        obtain ⟨v13, e9, h⟩ := zo_b h
        refine ka_i (va_runV (As := [.int 3]) (rest := []) S9 (c_Mo_fail l hl9 D A r _ v9.2 3 _ e9) (cwV 1 hts (tg_V wl_Mo_51 wm_Mo_fail we_Mo_fail wi_Mo wo_Mo_fail) rfl rfl rfl wq_Mo_fail ⟨Nat.le_of_ble_eq_true rfl, Nat.le_of_ble_eq_true rfl⟩) (ka_preV X9 hP hD hS 0 rfl rfl) rfl rfl hl.1 rfl (lv_room (Nat.le_of_ble_eq_true rfl)) d_Mo_go_70 ⟨Nat.le_of_ble_eq_true rfl, Nat.le_of_ble_eq_true rfl⟩) X9 hD hS rfl (fun H locs hP hD hS => ?_)
        cases h
        exact W.iret hx hb hr (fun t ht hW => ⟨⟨_, (), rfl, rfl, ka_at ht hP⟩, hS.F ht⟩) hS.2.2 d_Mo_go_73 hlk
      replace h := zo_f c12 h
      refine lv_aload_n hx hb d_Mo_go_55 rfl (lv_at hl 0 rfl) ?_
      refine lv_iload_n hx hb d_Mo_go_56 rfl (lv_at hl 1 rfl) ?_
      refine lv_iload_n hx hb d_Mo_go_57 rfl (lv_at hl 3 rfl) ?_
      refine lv_iload hx hb d_Mo_go_58 (lv_at hl 4 rfl) ?_
      refine lv_iload hx hb d_Mo_go_60 (lv_at hl 5 rfl) ?_
      obtain ⟨v14, e9, h⟩ := zo_b h
      refine ka_i (va_runV (As := [.int x1, .int x3, .int x4, .int x5]) (rest := []) S9 (c_Mo_passes l hl9 D A r _ v9.2 x1 x3 x4 x5 _ e9) (cwV 4 hts (tg_V wl_Mo_110 wm_Mo_passes we_Mo_passes wi_Mo wo_Mo_passes) rfl rfl rfl wq_Mo_passes ⟨Nat.le_of_ble_eq_true rfl, Nat.le_of_ble_eq_true rfl⟩) (ka_preV X9 hP hD hS 0 rfl rfl) rfl rfl hl.1 rfl (lv_room (Nat.le_of_ble_eq_true rfl)) d_Mo_go_62 ⟨Nat.le_of_ble_eq_true rfl, Nat.le_of_ble_eq_true rfl⟩) X9 hD hS rfl (fun H locs hP hD hS => ?_)
      refine lv_if_ne (tgt := 74) hx hb d_Mo_go_65 (by decide) (fun c15 => ?_) (fun c15 => ?_)
      · replace h := zo_f c15 h
        refine lv_aload_n hx hb d_Mo_go_74 rfl (lv_at hl 0 rfl) ?_
        refine va_get (D := D) (ci := 5) (v := .ref (A 61)) (C := R_Mo) (T := T_Mo) (N := 3) hx hb hts wu_Mo hown hK hP 0 rfl rfl 0 (by decide) (hts _ wf_Mo_7) (fun _ h9 => h9) rfl d_Mo_go_75 ?_
        refine lv_bipush (v := 17) hx hb d_Mo_go_78 (by decide) ?_
        refine lv_iload_n hx hb d_Mo_go_80 rfl (lv_at hl 1 rfl) ?_
        refine lv_imul hx hb d_Mo_go_81 ?_
        refine lv_iconst (v := 2) hx hb d_Mo_go_82 (by decide) ?_
        refine lv_iadd hx hb d_Mo_go_83 ?_
        refine lv_iload hx hb d_Mo_go_84 (lv_at hl 4 rfl) ?_
        obtain ⟨i9, h⟩ := zo_i h
        obtain ⟨u16, hu9, h⟩ := zo_l h
        refine va_iast hx hb hK hP hD hS 1 0 rfl rfl i9 d_Mo_go_86 (fun H locs hP hD hS => ?_)
        replace hP : va_P D vwCl (MW A u16 r) H := by rw [hu9]; exact hP
        replace hD : va_D A9 (MW A u16 r) := by rw [hu9]; exact hD
        refine lv_aload_n hx hb d_Mo_go_87 rfl (lv_at hl 0 rfl) ?_
        refine va_get (D := D) (ci := 5) (v := .ref (A 61)) (C := R_Mo) (T := T_Mo) (N := 3) hx hb hts wu_Mo hown hK hP 0 rfl rfl 0 (by decide) (hts _ wf_Mo_7) (fun _ h9 => h9) rfl d_Mo_go_88 ?_
        refine lv_bipush (v := 17) hx hb d_Mo_go_91 (by decide) ?_
        refine lv_iload_n hx hb d_Mo_go_93 rfl (lv_at hl 1 rfl) ?_
        refine lv_imul hx hb d_Mo_go_94 ?_
        refine lv_bipush (v := 6) hx hb d_Mo_go_95 (by decide) ?_
        refine lv_iadd hx hb d_Mo_go_97 ?_
        refine lv_iload hx hb d_Mo_go_98 (lv_at hl 5 rfl) ?_
        obtain ⟨i9, h⟩ := zo_i h
        obtain ⟨u17, hu9, h⟩ := zo_l h
        refine va_iast hx hb hK hP hD hS 1 0 rfl rfl i9 d_Mo_go_100 (fun H locs hP hD hS => ?_)
        replace hP : va_P D vwCl (MW A u17 r) H := by rw [hu9]; exact hP
        replace hD : va_D A9 (MW A u17 r) := by rw [hu9]; exact hD
        refine lv_aload_n hx hb d_Mo_go_101 rfl (lv_at hl 0 rfl) ?_
        refine lv_iload_n hx hb d_Mo_go_102 rfl (lv_at hl 3 rfl) ?_
        refine lv_bipush (v := 7) hx hb d_Mo_go_103 (by decide) ?_
        obtain ⟨v18, e9, h⟩ := zo_b h
        refine ka_i (va_runV (As := [.int x3, .int 7]) (rest := []) S9 (c_Mo_at l hl9 D A r _ u17 x3 7 _ e9) (cwV 2 hts (tg_V wl_Mo_32 wm_Mo_at we_Mo_at wi_Mo wo_Mo_at) rfl rfl rfl wq_Mo_at ⟨Nat.le_of_ble_eq_true rfl, Nat.le_of_ble_eq_true rfl⟩) (ka_preV X9 hP hD hS 0 rfl rfl) rfl rfl hl.1 rfl (lv_room (Nat.le_of_ble_eq_true rfl)) d_Mo_go_105 ⟨Nat.le_of_ble_eq_true rfl, Nat.le_of_ble_eq_true rfl⟩) X9 hD hS rfl (fun H locs hP hD hS => ?_)
        cases h
        exact W.iret hx hb hr (fun t ht hW => ⟨⟨_, (), rfl, rfl, ka_at ht hP⟩, hS.F ht⟩) hS.2.2 d_Mo_go_108 hlk
      replace h := zo_t c15 h
      refine lv_aload_n hx hb d_Mo_go_68 rfl (lv_at hl 0 rfl) ?_
      refine lv_iconst (v := 3) hx hb d_Mo_go_69 (by decide) ?_
      obtain ⟨v19, e9, h⟩ := zo_b h
      refine ka_i (va_runV (As := [.int 3]) (rest := []) S9 (c_Mo_fail l hl9 D A r _ v9.2 3 _ e9) (cwV 1 hts (tg_V wl_Mo_51 wm_Mo_fail we_Mo_fail wi_Mo wo_Mo_fail) rfl rfl rfl wq_Mo_fail ⟨Nat.le_of_ble_eq_true rfl, Nat.le_of_ble_eq_true rfl⟩) (ka_preV X9 hP hD hS 0 rfl rfl) rfl rfl hl.1 rfl (lv_room (Nat.le_of_ble_eq_true rfl)) d_Mo_go_70 ⟨Nat.le_of_ble_eq_true rfl, Nat.le_of_ble_eq_true rfl⟩) X9 hD hS rfl (fun H locs hP hD hS => ?_)
      cases h
      exact W.iret hx hb hr (fun t ht hW => ⟨⟨_, (), rfl, rfl, ka_at ht hP⟩, hS.F ht⟩) hS.2.2 d_Mo_go_73 hlk
    replace h := zo_t c10 h
    refine lv_iconst (v := 0) hx hb d_Mo_go_44 (by decide) ?_
    cases h
    exact W.iret hx hb hr (fun t ht hW => ⟨⟨_, (), rfl, rfl, ka_at ht hP⟩, hS.F ht⟩) hS.2.2 d_Mo_go_45 hlk
  replace h := zo_t c8 h
  refine lv_aload_n hx hb d_Mo_go_27 rfl (lv_at hl 0 rfl) ?_
  refine lv_iconst (v := 1) hx hb d_Mo_go_28 (by decide) ?_
  obtain ⟨v20, e9, h⟩ := zo_b h
  refine ka_i (va_runV (As := [.int 1]) (rest := []) S9 (c_Mo_fail l hl9 D A r _ σ 1 _ e9) (cwV 1 hts (tg_V wl_Mo_51 wm_Mo_fail we_Mo_fail wi_Mo wo_Mo_fail) rfl rfl rfl wq_Mo_fail ⟨Nat.le_of_ble_eq_true rfl, Nat.le_of_ble_eq_true rfl⟩) (ka_preV X9 hP hD hS 0 rfl rfl) rfl rfl hl.1 rfl (lv_room (Nat.le_of_ble_eq_true rfl)) d_Mo_go_29 ⟨Nat.le_of_ble_eq_true rfl, Nat.le_of_ble_eq_true rfl⟩) X9 hD hS rfl (fun H locs hP hD hS => ?_)
  cases h
  exact W.iret hx hb hr (fun t ht hW => ⟨⟨_, (), rfl, rfl, ka_at ht hP⟩, hS.F ht⟩) hS.2.2 d_Mo_go_32 hlk
def f_Mo_enter (σ : RS) (x1 x2 x3 x4 x5 : Int32) : Option (Int32 × RS) := zl (sM_code σ 0) fun u1 => (f_Mo_go u1 x1 x2 x3 x4 x5).bind fun v2 => some (v2.1, v2.2)
set_option maxRecDepth 100000 in
set_option maxHeartbeats 4000000 in
theorem c_Mo_enter (l : Launch) (hl9 : l.stackTraces = false) (D : va_G) (A : Nat → Nat) (r : va_W) (sz : Nat) (σ : RS) (x1 x2 x3 x4 x5 : Int32) (z : Int32 × RS) (h : f_Mo_enter σ x1 x2 x3 x4 x5 = some z) : Met l y_Mo_enter (Cond.code y_Mo_enter b_Mo_enter 6 (some .int) :: T0) ({ frames := 4, cells := 0, slots := 0, locals := 101 } : Room) (va_Pc [.ref (A 60), .int x1, .int x2, .int x3, .int x4, .int x5] (ka_Wd D A (MW A σ r) sz)) (ka_Ri D z.1 (MW A z.2 r) (va_A (MW A σ r) sz)) 0 0 (va_A (MW A σ r) sz) := by
  unfold f_Mo_enter at h
  refine ka_of (own := R_Mo) (fun A9 => ka_Ri D z.1 (MW A z.2 r) A9) (by decide) rfl (Nat.le_of_ble_eq_true rfl) ?_
  intro p e s m below meth c A9 ls S9 hr hlk hex X9 hP hD hl
  obtain ⟨hx, hb, hml, hown, hts⟩ := id S9
  have hK := X9.2.1
  have hS : va_S A9 s.heap s.heap [] := va_S.rf
  replace hl : lv_has ls 6 [(0, .ref (A 60)), (1, .int x1), (2, .int x2), (3, .int x3), (4, .int x4), (5, .int x5)] := hl
  refine lv_aload_n hx hb d_Mo_enter_0 rfl (lv_at hl 0 rfl) ?_
  refine lv_iconst (v := 0) hx hb d_Mo_enter_1 (by decide) ?_
  obtain ⟨u1, hu9, h⟩ := zo_l h
  refine va_put (D := D) (ci := 5) (v := .int 0) (ty := .int) (C := R_Mo) (T := T_Mo) (N := 3) hx hb hts wu_Mo ft_Mo fk_Mo nm_Mo hown hK hP hD hS 0 rfl rfl 2 (by decide) (hts _ wf_Mo_16) (fun _ h9 => h9) rfl (by decide +kernel) rfl rfl (Nat.le_of_ble_eq_true rfl) d_Mo_enter_2 (fun H locs hP hD hS => ?_)
  replace hP : va_P D vwCl (MW A u1 r) H := by rw [hu9]; exact hP
  replace hD : va_D A9 (MW A u1 r) := by rw [hu9]; exact hD
  refine lv_aload_n hx hb d_Mo_enter_5 rfl (lv_at hl 0 rfl) ?_
  refine lv_iload_n hx hb d_Mo_enter_6 rfl (lv_at hl 1 rfl) ?_
  refine lv_iload_n hx hb d_Mo_enter_7 rfl (lv_at hl 2 rfl) ?_
  refine lv_iload_n hx hb d_Mo_enter_8 rfl (lv_at hl 3 rfl) ?_
  refine lv_iload hx hb d_Mo_enter_9 (lv_at hl 4 rfl) ?_
  refine lv_iload hx hb d_Mo_enter_11 (lv_at hl 5 rfl) ?_
  obtain ⟨v2, e9, h⟩ := zo_b h
  refine ka_i (va_runV (As := [.int x1, .int x2, .int x3, .int x4, .int x5]) (rest := []) S9 (c_Mo_go l hl9 D A r _ u1 x1 x2 x3 x4 x5 _ e9) (cwV 5 hts (tg_V wl_Mo_113 wm_Mo_go we_Mo_go wi_Mo wo_Mo_go) rfl rfl rfl wq_Mo_go ⟨Nat.le_of_ble_eq_true rfl, Nat.le_of_ble_eq_true rfl⟩) (ka_preV X9 hP hD hS 0 rfl rfl) rfl rfl hl.1 rfl (lv_room (Nat.le_of_ble_eq_true rfl)) d_Mo_enter_13 ⟨Nat.le_of_ble_eq_true rfl, Nat.le_of_ble_eq_true rfl⟩) X9 hD hS rfl (fun H locs hP hD hS => ?_)
  cases h
  exact W.iret hx hb hr (fun t ht hW => ⟨⟨_, (), rfl, rfl, ka_at ht hP⟩, hS.F ht⟩) hS.2.2 d_Mo_enter_16 hlk
def f_Mo_of (σ : RS) (x1 x2 : Int32) : Option (Int32) := if ((1517 + (8 * x1)) + x2) < 0 ∨ 1552 ≤ ((1517 + (8 * x1)) + x2).toNatClampNeg then none else some (gM_row σ ((1517 + (8 * x1)) + x2).toNatClampNeg)
set_option maxRecDepth 100000 in
set_option maxHeartbeats 4000000 in
theorem c_Mo_of (l : Launch) (hl9 : l.stackTraces = false) (D : va_G) (A : Nat → Nat) (r : va_W) (sz : Nat) (σ : RS) (x1 x2 : Int32) (z : Int32) (h : f_Mo_of σ x1 x2 = some z) : Met l y_Mo_of (Cond.code y_Mo_of b_Mo_of 3 (some .int) :: T0) ({ frames := 0, cells := 0, slots := 0, locals := 0 } : Room) (va_Pc [.ref (A 60), .int x1, .int x2] (ka_Wd D A (MW A σ r) sz)) (ka_Ri D z (MW A σ r) (va_A (MW A σ r) sz)) 0 0 (va_A (MW A σ r) sz) := by
  unfold f_Mo_of at h
  refine ka_of (own := R_Mo) (fun A9 => ka_Ri D z (MW A σ r) A9) (by decide) rfl (Nat.le_of_ble_eq_true rfl) ?_
  intro p e s m below meth c A9 ls S9 hr hlk hex X9 hP hD hl
  obtain ⟨hx, hb, hml, hown, hts⟩ := id S9
  have hK := X9.2.1
  have hS : va_S A9 s.heap s.heap [] := va_S.rf
  replace hl : lv_has ls 3 [(0, .ref (A 60)), (1, .int x1), (2, .int x2)] := hl
  refine lv_aload_n hx hb d_Mo_of_0 rfl (lv_at hl 0 rfl) ?_
  refine va_get (D := D) (ci := 5) (v := .ref (A 61)) (C := R_Mo) (T := T_Mo) (N := 3) hx hb hts wu_Mo hown hK hP 0 rfl rfl 0 (by decide) (hts _ wf_Mo_7) (fun _ h9 => h9) rfl d_Mo_of_1 ?_
  refine lv_sipush (v := 1517) hx hb d_Mo_of_4 (by decide) ?_
  refine lv_bipush (v := 8) hx hb d_Mo_of_7 (by decide) ?_
  refine lv_iload_n hx hb d_Mo_of_9 rfl (lv_at hl 1 rfl) ?_
  refine lv_imul hx hb d_Mo_of_10 ?_
  refine lv_iadd hx hb d_Mo_of_11 ?_
  refine lv_iload_n hx hb d_Mo_of_12 rfl (lv_at hl 2 rfl) ?_
  refine lv_iadd hx hb d_Mo_of_13 ?_
  obtain ⟨i9, h⟩ := zo_i h
  refine va_iald hx hb hK hP 1 0 rfl rfl i9 d_Mo_of_14 ?_
  cases h
  exact W.iret hx hb hr (fun t ht hW => ⟨⟨_, (), rfl, rfl, ka_at ht hP⟩, hS.F ht⟩) hS.2.2 d_Mo_of_15 hlk
def f_Mo_both (σ : RS) (x1 x2 x3 x4 x5 : Int32) : Option (Int32 × RS) := (f_Mo_made σ x1 x2 x4).bind fun v1 => if (gM_code v1.2) = 0 then ((f_Mo_made v1.2 v1.1 x3 x5).bind fun v3 => some (v3.1, v3.2)) else (some (0, v1.2))
set_option maxRecDepth 100000 in
set_option maxHeartbeats 4000000 in
theorem c_Mo_both (l : Launch) (hl9 : l.stackTraces = false) (D : va_G) (A : Nat → Nat) (r : va_W) (sz : Nat) (σ : RS) (x1 x2 x3 x4 x5 : Int32) (z : Int32 × RS) (h : f_Mo_both σ x1 x2 x3 x4 x5 = some z) : Met l y_Mo_both (Cond.code y_Mo_both b_Mo_both 7 (some .int) :: T0) ({ frames := 3, cells := 0, slots := 0, locals := 73 } : Room) (va_Pc [.ref (A 60), .int x1, .int x2, .int x3, .int x4, .int x5] (ka_Wd D A (MW A σ r) sz)) (ka_Ri D z.1 (MW A z.2 r) (va_A (MW A σ r) sz)) 0 0 (va_A (MW A σ r) sz) := by
  unfold f_Mo_both at h
  refine ka_of (own := R_Mo) (fun A9 => ka_Ri D z.1 (MW A z.2 r) A9) (by decide) rfl (Nat.le_of_ble_eq_true rfl) ?_
  intro p e s m below meth c A9 ls S9 hr hlk hex X9 hP hD hl
  obtain ⟨hx, hb, hml, hown, hts⟩ := id S9
  have hK := X9.2.1
  have hS : va_S A9 s.heap s.heap [] := va_S.rf
  replace hl : lv_has ls 7 [(0, .ref (A 60)), (1, .int x1), (2, .int x2), (3, .int x3), (4, .int x4), (5, .int x5)] := hl
  refine lv_aload_n hx hb d_Mo_both_0 rfl (lv_at hl 0 rfl) ?_
  refine lv_iload_n hx hb d_Mo_both_1 rfl (lv_at hl 1 rfl) ?_
  refine lv_iload_n hx hb d_Mo_both_2 rfl (lv_at hl 2 rfl) ?_
  refine lv_iload hx hb d_Mo_both_3 (lv_at hl 4 rfl) ?_
  obtain ⟨v1, e9, h⟩ := zo_b h
  refine ka_i (va_runV (As := [.int x1, .int x2, .int x4]) (rest := []) S9 (c_Mo_made l hl9 D A r _ σ x1 x2 x4 _ e9) (cwV 3 hts (tg_V wl_Mo_57 wm_Mo_made we_Mo_made wi_Mo wo_Mo_made) rfl rfl rfl wq_Mo_made ⟨Nat.le_of_ble_eq_true rfl, Nat.le_of_ble_eq_true rfl⟩) (ka_preV X9 hP hD hS 0 rfl rfl) rfl rfl hl.1 rfl (lv_room (Nat.le_of_ble_eq_true rfl)) d_Mo_both_5 ⟨Nat.le_of_ble_eq_true rfl, Nat.le_of_ble_eq_true rfl⟩) X9 hD hS rfl (fun H locs hP hD hS => ?_)
  refine lv_istore (lv' := [(6, .int v1.1), (0, .ref (A 60)), (1, .int x1), (2, .int x2), (3, .int x3), (4, .int x4), (5, .int x5)]) hx hb d_Mo_both_8 hl (by decide) rfl (fun ls hl => ?_)
  refine lv_aload_n hx hb d_Mo_both_10 rfl (lv_at hl 1 rfl) ?_
  refine va_get (D := D) (ci := 5) (v := .int (gM_code v1.2)) (C := R_Mo) (T := T_Mo) (N := 3) hx hb hts wu_Mo hown hK hP 0 rfl rfl 2 (by decide) (hts _ wf_Mo_16) (fun _ h9 => h9) rfl d_Mo_both_11 ?_
  refine lv_if_ne (tgt := 29) hx hb d_Mo_both_14 (by decide) (fun c2 => ?_) (fun c2 => ?_)
  · replace h := zo_f c2 h
    refine lv_iconst (v := 0) hx hb d_Mo_both_29 (by decide) ?_
    cases h
    exact W.iret hx hb hr (fun t ht hW => ⟨⟨_, (), rfl, rfl, ka_at ht hP⟩, hS.F ht⟩) hS.2.2 d_Mo_both_30 hlk
  replace h := zo_t c2 h
  refine lv_aload_n hx hb d_Mo_both_17 rfl (lv_at hl 1 rfl) ?_
  refine lv_iload hx hb d_Mo_both_18 (lv_at hl 0 rfl) ?_
  refine lv_iload_n hx hb d_Mo_both_20 rfl (lv_at hl 4 rfl) ?_
  refine lv_iload hx hb d_Mo_both_21 (lv_at hl 6 rfl) ?_
  obtain ⟨v3, e9, h⟩ := zo_b h
  refine ka_i (va_runV (As := [.int v1.1, .int x3, .int x5]) (rest := []) S9 (c_Mo_made l hl9 D A r _ v1.2 v1.1 x3 x5 _ e9) (cwV 3 hts (tg_V wl_Mo_57 wm_Mo_made we_Mo_made wi_Mo wo_Mo_made) rfl rfl rfl wq_Mo_made ⟨Nat.le_of_ble_eq_true rfl, Nat.le_of_ble_eq_true rfl⟩) (ka_preV X9 hP hD hS 0 rfl rfl) rfl rfl hl.1 rfl (lv_room (Nat.le_of_ble_eq_true rfl)) d_Mo_both_23 ⟨Nat.le_of_ble_eq_true rfl, Nat.le_of_ble_eq_true rfl⟩) X9 hD hS rfl (fun H locs hP hD hS => ?_)
  refine lv_goto (tgt := 30) hx hb d_Mo_both_26 (by decide) ?_
  cases h
  exact W.iret hx hb hr (fun t ht hW => ⟨⟨_, (), rfl, rfl, ka_at ht hP⟩, hS.F ht⟩) hS.2.2 d_Mo_both_30 hlk
def f_Mo_user (σ : RS) (x1 x2 x3 : Int32) : Option (Int32 × RS) := zl (sM_code σ 0) fun u1 => (f_Mo_within x2 0 3).bind fun v2 => if v2 = 0 then ((f_Mo_fail u1 1).bind fun v4 => some (v4.1, v4.2)) else ((f_Mo_of u1 x2 0).bind fun v5 => if v5 = 1 then ((f_Mo_fail u1 1).bind fun v28 => some (v28.1, v28.2)) else ((f_Mo_giveCategory u1 x1).bind fun v7 => if (gM_code v7.2) = 0 then ((f_Mo_giveCategory v7.2 x1).bind fun v9 => if (gM_code v9.2) = 0 then ((f_Mo_both v9.2 0 v7.1 v9.1 3 0).bind fun v11 => if (gM_code v11.2) = 0 then ((f_Mo_makeContainer v11.2 x1 1 v11.1 40).bind fun v13 => if (gM_code v13.2) = 0 then ((f_Mo_makeSegment v13.2 x1 v13.1 v11.1 4).bind fun v15 => if (gM_code v15.2) = 0 then ((f_Mo_both v15.2 0 v7.1 v9.1 4 4).bind fun v17 => if (gM_code v17.2) = 0 then ((f_Mo_makeGate v17.2 x1 1 v17.1 1 x2).bind fun v19 => if (gM_code v19.2) = 0 then (if (1517 + (8 * x2)) < 0 ∨ 1552 ≤ (1517 + (8 * x2)).toNatClampNeg then none else zl (sM_row v19.2 (upd (gM_row v19.2) (1517 + (8 * x2)).toNatClampNeg 1)) fun u21 => if ((1517 + (8 * x2)) + 1) < 0 ∨ 1552 ≤ ((1517 + (8 * x2)) + 1).toNatClampNeg then none else zl (sM_row u21 (upd (gM_row u21) ((1517 + (8 * x2)) + 1).toNatClampNeg x3)) fun u22 => if ((1517 + (8 * x2)) + 2) < 0 ∨ 1552 ≤ ((1517 + (8 * x2)) + 2).toNatClampNeg then none else zl (sM_row u22 (upd (gM_row u22) ((1517 + (8 * x2)) + 2).toNatClampNeg v7.1)) fun u23 => if ((1517 + (8 * x2)) + 3) < 0 ∨ 1552 ≤ ((1517 + (8 * x2)) + 3).toNatClampNeg then none else zl (sM_row u23 (upd (gM_row u23) ((1517 + (8 * x2)) + 3).toNatClampNeg v9.1)) fun u24 => if ((1517 + (8 * x2)) + 4) < 0 ∨ 1552 ≤ ((1517 + (8 * x2)) + 4).toNatClampNeg then none else zl (sM_row u24 (upd (gM_row u24) ((1517 + (8 * x2)) + 4).toNatClampNeg v13.1)) fun u25 => if ((1517 + (8 * x2)) + 5) < 0 ∨ 1552 ≤ ((1517 + (8 * x2)) + 5).toNatClampNeg then none else zl (sM_row u25 (upd (gM_row u25) ((1517 + (8 * x2)) + 5).toNatClampNeg v15.1)) fun u26 => if ((1517 + (8 * x2)) + 6) < 0 ∨ 1552 ≤ ((1517 + (8 * x2)) + 6).toNatClampNeg then none else zl (sM_row u26 (upd (gM_row u26) ((1517 + (8 * x2)) + 6).toNatClampNeg v19.1)) fun u27 => some (v13.1, u27)) else (some (0, v19.2))) else (some (0, v17.2))) else (some (0, v15.2))) else (some (0, v13.2))) else (some (0, v11.2))) else (some (0, v9.2))) else (some (0, v7.2))))
set_option maxRecDepth 100000 in
set_option maxHeartbeats 4000000 in
theorem c_Mo_user (l : Launch) (hl9 : l.stackTraces = false) (D : va_G) (A : Nat → Nat) (r : va_W) (sz : Nat) (σ : RS) (x1 x2 x3 : Int32) (z : Int32 × RS) (h : f_Mo_user σ x1 x2 x3 = some z) : Met l y_Mo_user (Cond.code y_Mo_user b_Mo_user 12 (some .int) :: T0) ({ frames := 6, cells := 0, slots := 0, locals := 146 } : Room) (va_Pc [.ref (A 60), .int x1, .int x2, .int x3] (ka_Wd D A (MW A σ r) sz)) (ka_Ri D z.1 (MW A z.2 r) (va_A (MW A σ r) sz)) 0 0 (va_A (MW A σ r) sz) := by
  unfold f_Mo_user at h
  refine ka_of (own := R_Mo) (fun A9 => ka_Ri D z.1 (MW A z.2 r) A9) (by decide) rfl (Nat.le_of_ble_eq_true rfl) ?_
  intro p e s m below meth c A9 ls S9 hr hlk hex X9 hP hD hl
  obtain ⟨hx, hb, hml, hown, hts⟩ := id S9
  have hK := X9.2.1
  have hS : va_S A9 s.heap s.heap [] := va_S.rf
  replace hl : lv_has ls 12 [(0, .ref (A 60)), (1, .int x1), (2, .int x2), (3, .int x3)] := hl
  refine lv_aload_n hx hb d_Mo_user_0 rfl (lv_at hl 0 rfl) ?_
  refine lv_iconst (v := 0) hx hb d_Mo_user_1 (by decide) ?_
  obtain ⟨u1, hu9, h⟩ := zo_l h
  refine va_put (D := D) (ci := 5) (v := .int 0) (ty := .int) (C := R_Mo) (T := T_Mo) (N := 3) hx hb hts wu_Mo ft_Mo fk_Mo nm_Mo hown hK hP hD hS 0 rfl rfl 2 (by decide) (hts _ wf_Mo_16) (fun _ h9 => h9) rfl (by decide +kernel) rfl rfl (Nat.le_of_ble_eq_true rfl) d_Mo_user_2 (fun H locs hP hD hS => ?_)
  replace hP : va_P D vwCl (MW A u1 r) H := by rw [hu9]; exact hP
  replace hD : va_D A9 (MW A u1 r) := by rw [hu9]; exact hD
  refine lv_iload_n hx hb d_Mo_user_5 rfl (lv_at hl 2 rfl) ?_
  refine lv_iconst (v := 0) hx hb d_Mo_user_6 (by decide) ?_
  refine lv_iconst (v := 3) hx hb d_Mo_user_7 (by decide) ?_
  obtain ⟨v2, e9, h⟩ := zo_b h
  refine ka_i (va_runS (As := [.int x2, .int 0, .int 3]) (rest := []) S9 (c_Mo_within l hl9 D A (MW A u1 r) _ x2 0 3 _ e9) (cwS 3 hts (tg_S wl_Mo_28 ws_Mo_within wi_Mo wo_Mo_within) rfl rfl rfl wq_Mo_within ⟨Nat.le_of_ble_eq_true rfl, Nat.le_of_ble_eq_true rfl⟩) (ka_preS X9 hP hD hS) rfl rfl hl.1 rfl (lv_room (Nat.le_of_ble_eq_true rfl)) d_Mo_user_8 ⟨Nat.le_of_ble_eq_true rfl, Nat.le_of_ble_eq_true rfl⟩) X9 hD hS rfl (fun H locs hP hD hS => ?_)
  refine lv_if_eq (tgt := 24) hx hb d_Mo_user_11 (by decide) (fun c3 => ?_) (fun c3 => ?_)
  · replace h := zo_t c3 h
    refine lv_aload_n hx hb d_Mo_user_24 rfl (lv_at hl 0 rfl) ?_
    refine lv_iconst (v := 1) hx hb d_Mo_user_25 (by decide) ?_
    obtain ⟨v4, e9, h⟩ := zo_b h
    refine ka_i (va_runV (As := [.int 1]) (rest := []) S9 (c_Mo_fail l hl9 D A r _ u1 1 _ e9) (cwV 1 hts (tg_V wl_Mo_51 wm_Mo_fail we_Mo_fail wi_Mo wo_Mo_fail) rfl rfl rfl wq_Mo_fail ⟨Nat.le_of_ble_eq_true rfl, Nat.le_of_ble_eq_true rfl⟩) (ka_preV X9 hP hD hS 0 rfl rfl) rfl rfl hl.1 rfl (lv_room (Nat.le_of_ble_eq_true rfl)) d_Mo_user_26 ⟨Nat.le_of_ble_eq_true rfl, Nat.le_of_ble_eq_true rfl⟩) X9 hD hS rfl (fun H locs hP hD hS => ?_)
    cases h
    exact W.iret hx hb hr (fun t ht hW => ⟨⟨_, (), rfl, rfl, ka_at ht hP⟩, hS.F ht⟩) hS.2.2 d_Mo_user_29 hlk
  replace h := zo_f c3 h
  refine lv_aload_n hx hb d_Mo_user_14 rfl (lv_at hl 0 rfl) ?_
  refine lv_iload_n hx hb d_Mo_user_15 rfl (lv_at hl 2 rfl) ?_
  refine lv_iconst (v := 0) hx hb d_Mo_user_16 (by decide) ?_
  obtain ⟨v5, e9, h⟩ := zo_b h
  refine ka_i (va_runV (As := [.int x2, .int 0]) (rest := []) S9 (c_Mo_of l hl9 D A r _ u1 x2 0 _ e9) (cwV 2 hts (tg_V wl_Mo_116 wm_Mo_of we_Mo_of wi_Mo wo_Mo_of) rfl rfl rfl wq_Mo_of ⟨Nat.le_of_ble_eq_true rfl, Nat.le_of_ble_eq_true rfl⟩) (ka_preV X9 hP hD hS 0 rfl rfl) rfl rfl hl.1 rfl (lv_room (Nat.le_of_ble_eq_true rfl)) d_Mo_user_17 ⟨Nat.le_of_ble_eq_true rfl, Nat.le_of_ble_eq_true rfl⟩) X9 hD hS rfl (fun H locs hP hD hS => ?_)
  refine lv_iconst (v := 1) hx hb d_Mo_user_20 (by decide) ?_
  refine lv_icmp_ne (tgt := 30) hx hb d_Mo_user_21 (by decide) (fun c6 => ?_) (fun c6 => ?_)
  · replace h := zo_f c6 h
    refine lv_aload_n hx hb d_Mo_user_30 rfl (lv_at hl 0 rfl) ?_
    refine lv_iload_n hx hb d_Mo_user_31 rfl (lv_at hl 1 rfl) ?_
    obtain ⟨v7, e9, h⟩ := zo_b h
    refine ka_i (va_runV (As := [.int x1]) (rest := []) S9 (c_Mo_giveCategory l hl9 D A r _ u1 x1 _ e9) (cwV 1 hts (tg_V wl_Mo_63 wm_Mo_giveCategory we_Mo_giveCategory wi_Mo wo_Mo_giveCategory) rfl rfl rfl wq_Mo_giveCategory ⟨Nat.le_of_ble_eq_true rfl, Nat.le_of_ble_eq_true rfl⟩) (ka_preV X9 hP hD hS 0 rfl rfl) rfl rfl hl.1 rfl (lv_room (Nat.le_of_ble_eq_true rfl)) d_Mo_user_32 ⟨Nat.le_of_ble_eq_true rfl, Nat.le_of_ble_eq_true rfl⟩) X9 hD hS rfl (fun H locs hP hD hS => ?_)
    refine lv_istore (lv' := [(4, .int v7.1), (0, .ref (A 60)), (1, .int x1), (2, .int x2), (3, .int x3)]) hx hb d_Mo_user_35 hl (by decide) rfl (fun ls hl => ?_)
    refine lv_aload_n hx hb d_Mo_user_37 rfl (lv_at hl 1 rfl) ?_
    refine va_get (D := D) (ci := 5) (v := .int (gM_code v7.2)) (C := R_Mo) (T := T_Mo) (N := 3) hx hb hts wu_Mo hown hK hP 0 rfl rfl 2 (by decide) (hts _ wf_Mo_16) (fun _ h9 => h9) rfl d_Mo_user_38 ?_
    refine lv_if_ne (tgt := 52) hx hb d_Mo_user_41 (by decide) (fun c8 => ?_) (fun c8 => ?_)
    · replace h := zo_f c8 h
      refine lv_iconst (v := 0) hx hb d_Mo_user_52 (by decide) ?_
      refine lv_istore (lv' := [(5, .int 0), (4, .int v7.1), (0, .ref (A 60)), (1, .int x1), (2, .int x2), (3, .int x3)]) hx hb d_Mo_user_53 hl (by decide) rfl (fun ls hl => ?_)
      refine lv_aload_n hx hb d_Mo_user_55 rfl (lv_at hl 2 rfl) ?_
      refine va_get (D := D) (ci := 5) (v := .int (gM_code v7.2)) (C := R_Mo) (T := T_Mo) (N := 3) hx hb hts wu_Mo hown hK hP 0 rfl rfl 2 (by decide) (hts _ wf_Mo_16) (fun _ h9 => h9) rfl d_Mo_user_56 ?_
      refine lv_if_ne (tgt := 76) hx hb d_Mo_user_59 (by decide) (fun _ => ?_) (fun c9 => absurd c9 c8)
      refine lv_iconst (v := 0) hx hb d_Mo_user_76 (by decide) ?_
      refine lv_istore (lv' := [(6, .int 0), (5, .int 0), (4, .int v7.1), (0, .ref (A 60)), (1, .int x1), (2, .int x2), (3, .int x3)]) hx hb d_Mo_user_77 hl (by decide) rfl (fun ls hl => ?_)
      refine lv_aload_n hx hb d_Mo_user_79 rfl (lv_at hl 3 rfl) ?_
      refine va_get (D := D) (ci := 5) (v := .int (gM_code v7.2)) (C := R_Mo) (T := T_Mo) (N := 3) hx hb hts wu_Mo hown hK hP 0 rfl rfl 2 (by decide) (hts _ wf_Mo_16) (fun _ h9 => h9) rfl d_Mo_user_80 ?_
      refine lv_if_ne (tgt := 99) hx hb d_Mo_user_83 (by decide) (fun _ => ?_) (fun c9 => absurd c9 c8)
      refine lv_iconst (v := 0) hx hb d_Mo_user_99 (by decide) ?_
      refine lv_istore (lv' := [(7, .int 0), (6, .int 0), (5, .int 0), (4, .int v7.1), (0, .ref (A 60)), (1, .int x1), (2, .int x2), (3, .int x3)]) hx hb d_Mo_user_100 hl (by decide) rfl (fun ls hl => ?_)
      refine lv_aload_n hx hb d_Mo_user_102 rfl (lv_at hl 4 rfl) ?_
      refine va_get (D := D) (ci := 5) (v := .int (gM_code v7.2)) (C := R_Mo) (T := T_Mo) (N := 3) hx hb hts wu_Mo hown hK hP 0 rfl rfl 2 (by decide) (hts _ wf_Mo_16) (fun _ h9 => h9) rfl d_Mo_user_103 ?_
      refine lv_if_ne (tgt := 122) hx hb d_Mo_user_106 (by decide) (fun _ => ?_) (fun c9 => absurd c9 c8)
      refine lv_iconst (v := 0) hx hb d_Mo_user_122 (by decide) ?_
      refine lv_istore (lv' := [(8, .int 0), (7, .int 0), (6, .int 0), (5, .int 0), (4, .int v7.1), (0, .ref (A 60)), (1, .int x1), (2, .int x2), (3, .int x3)]) hx hb d_Mo_user_123 hl (by decide) rfl (fun ls hl => ?_)
      refine lv_aload_n hx hb d_Mo_user_125 rfl (lv_at hl 5 rfl) ?_
      refine va_get (D := D) (ci := 5) (v := .int (gM_code v7.2)) (C := R_Mo) (T := T_Mo) (N := 3) hx hb hts wu_Mo hown hK hP 0 rfl rfl 2 (by decide) (hts _ wf_Mo_16) (fun _ h9 => h9) rfl d_Mo_user_126 ?_
      refine lv_if_ne (tgt := 146) hx hb d_Mo_user_129 (by decide) (fun _ => ?_) (fun c9 => absurd c9 c8)
      refine lv_iconst (v := 0) hx hb d_Mo_user_146 (by decide) ?_
      refine lv_istore (lv' := [(9, .int 0), (8, .int 0), (7, .int 0), (6, .int 0), (5, .int 0), (4, .int v7.1), (0, .ref (A 60)), (1, .int x1), (2, .int x2), (3, .int x3)]) hx hb d_Mo_user_147 hl (by decide) rfl (fun ls hl => ?_)
      refine lv_aload_n hx hb d_Mo_user_149 rfl (lv_at hl 6 rfl) ?_
      refine va_get (D := D) (ci := 5) (v := .int (gM_code v7.2)) (C := R_Mo) (T := T_Mo) (N := 3) hx hb hts wu_Mo hown hK hP 0 rfl rfl 2 (by decide) (hts _ wf_Mo_16) (fun _ h9 => h9) rfl d_Mo_user_150 ?_
      refine lv_if_ne (tgt := 169) hx hb d_Mo_user_153 (by decide) (fun _ => ?_) (fun c9 => absurd c9 c8)
      refine lv_iconst (v := 0) hx hb d_Mo_user_169 (by decide) ?_
      refine lv_istore (lv' := [(10, .int 0), (9, .int 0), (8, .int 0), (7, .int 0), (6, .int 0), (5, .int 0), (4, .int v7.1), (0, .ref (A 60)), (1, .int x1), (2, .int x2), (3, .int x3)]) hx hb d_Mo_user_170 hl (by decide) rfl (fun ls hl => ?_)
      refine lv_aload_n hx hb d_Mo_user_172 rfl (lv_at hl 7 rfl) ?_
      refine va_get (D := D) (ci := 5) (v := .int (gM_code v7.2)) (C := R_Mo) (T := T_Mo) (N := 3) hx hb hts wu_Mo hown hK hP 0 rfl rfl 2 (by decide) (hts _ wf_Mo_16) (fun _ h9 => h9) rfl d_Mo_user_173 ?_
      refine lv_if_eq (tgt := 181) hx hb d_Mo_user_176 (by decide) (fun c9 => absurd c9 c8) (fun _ => ?_)
      refine lv_iconst (v := 0) hx hb d_Mo_user_179 (by decide) ?_
      cases h
      exact W.iret hx hb hr (fun t ht hW => ⟨⟨_, (), rfl, rfl, ka_at ht hP⟩, hS.F ht⟩) hS.2.2 d_Mo_user_180 hlk
    replace h := zo_t c8 h
    refine lv_aload_n hx hb d_Mo_user_44 rfl (lv_at hl 1 rfl) ?_
    refine lv_iload_n hx hb d_Mo_user_45 rfl (lv_at hl 2 rfl) ?_
    obtain ⟨v9, e9, h⟩ := zo_b h
    refine ka_i (va_runV (As := [.int x1]) (rest := []) S9 (c_Mo_giveCategory l hl9 D A r _ v7.2 x1 _ e9) (cwV 1 hts (tg_V wl_Mo_63 wm_Mo_giveCategory we_Mo_giveCategory wi_Mo wo_Mo_giveCategory) rfl rfl rfl wq_Mo_giveCategory ⟨Nat.le_of_ble_eq_true rfl, Nat.le_of_ble_eq_true rfl⟩) (ka_preV X9 hP hD hS 0 rfl rfl) rfl rfl hl.1 rfl (lv_room (Nat.le_of_ble_eq_true rfl)) d_Mo_user_46 ⟨Nat.le_of_ble_eq_true rfl, Nat.le_of_ble_eq_true rfl⟩) X9 hD hS rfl (fun H locs hP hD hS => ?_)
    refine lv_goto (tgt := 53) hx hb d_Mo_user_49 (by decide) ?_
    refine lv_istore (lv' := [(5, .int v9.1), (4, .int v7.1), (0, .ref (A 60)), (1, .int x1), (2, .int x2), (3, .int x3)]) hx hb d_Mo_user_53 hl (by decide) rfl (fun ls hl => ?_)
    refine lv_aload_n hx hb d_Mo_user_55 rfl (lv_at hl 2 rfl) ?_
    refine va_get (D := D) (ci := 5) (v := .int (gM_code v9.2)) (C := R_Mo) (T := T_Mo) (N := 3) hx hb hts wu_Mo hown hK hP 0 rfl rfl 2 (by decide) (hts _ wf_Mo_16) (fun _ h9 => h9) rfl d_Mo_user_56 ?_
    refine lv_if_ne (tgt := 76) hx hb d_Mo_user_59 (by decide) (fun c10 => ?_) (fun c10 => ?_)
    · replace h := zo_f c10 h
      refine lv_iconst (v := 0) hx hb d_Mo_user_76 (by decide) ?_
      refine lv_istore (lv' := [(6, .int 0), (5, .int v9.1), (4, .int v7.1), (0, .ref (A 60)), (1, .int x1), (2, .int x2), (3, .int x3)]) hx hb d_Mo_user_77 hl (by decide) rfl (fun ls hl => ?_)
      refine lv_aload_n hx hb d_Mo_user_79 rfl (lv_at hl 3 rfl) ?_
      refine va_get (D := D) (ci := 5) (v := .int (gM_code v9.2)) (C := R_Mo) (T := T_Mo) (N := 3) hx hb hts wu_Mo hown hK hP 0 rfl rfl 2 (by decide) (hts _ wf_Mo_16) (fun _ h9 => h9) rfl d_Mo_user_80 ?_
      refine lv_if_ne (tgt := 99) hx hb d_Mo_user_83 (by decide) (fun _ => ?_) (fun c9 => absurd c9 c10)
      refine lv_iconst (v := 0) hx hb d_Mo_user_99 (by decide) ?_
      refine lv_istore (lv' := [(7, .int 0), (6, .int 0), (5, .int v9.1), (4, .int v7.1), (0, .ref (A 60)), (1, .int x1), (2, .int x2), (3, .int x3)]) hx hb d_Mo_user_100 hl (by decide) rfl (fun ls hl => ?_)
      refine lv_aload_n hx hb d_Mo_user_102 rfl (lv_at hl 4 rfl) ?_
      refine va_get (D := D) (ci := 5) (v := .int (gM_code v9.2)) (C := R_Mo) (T := T_Mo) (N := 3) hx hb hts wu_Mo hown hK hP 0 rfl rfl 2 (by decide) (hts _ wf_Mo_16) (fun _ h9 => h9) rfl d_Mo_user_103 ?_
      refine lv_if_ne (tgt := 122) hx hb d_Mo_user_106 (by decide) (fun _ => ?_) (fun c9 => absurd c9 c10)
      refine lv_iconst (v := 0) hx hb d_Mo_user_122 (by decide) ?_
      refine lv_istore (lv' := [(8, .int 0), (7, .int 0), (6, .int 0), (5, .int v9.1), (4, .int v7.1), (0, .ref (A 60)), (1, .int x1), (2, .int x2), (3, .int x3)]) hx hb d_Mo_user_123 hl (by decide) rfl (fun ls hl => ?_)
      refine lv_aload_n hx hb d_Mo_user_125 rfl (lv_at hl 5 rfl) ?_
      refine va_get (D := D) (ci := 5) (v := .int (gM_code v9.2)) (C := R_Mo) (T := T_Mo) (N := 3) hx hb hts wu_Mo hown hK hP 0 rfl rfl 2 (by decide) (hts _ wf_Mo_16) (fun _ h9 => h9) rfl d_Mo_user_126 ?_
      refine lv_if_ne (tgt := 146) hx hb d_Mo_user_129 (by decide) (fun _ => ?_) (fun c9 => absurd c9 c10)
      refine lv_iconst (v := 0) hx hb d_Mo_user_146 (by decide) ?_
      refine lv_istore (lv' := [(9, .int 0), (8, .int 0), (7, .int 0), (6, .int 0), (5, .int v9.1), (4, .int v7.1), (0, .ref (A 60)), (1, .int x1), (2, .int x2), (3, .int x3)]) hx hb d_Mo_user_147 hl (by decide) rfl (fun ls hl => ?_)
      refine lv_aload_n hx hb d_Mo_user_149 rfl (lv_at hl 6 rfl) ?_
      refine va_get (D := D) (ci := 5) (v := .int (gM_code v9.2)) (C := R_Mo) (T := T_Mo) (N := 3) hx hb hts wu_Mo hown hK hP 0 rfl rfl 2 (by decide) (hts _ wf_Mo_16) (fun _ h9 => h9) rfl d_Mo_user_150 ?_
      refine lv_if_ne (tgt := 169) hx hb d_Mo_user_153 (by decide) (fun _ => ?_) (fun c9 => absurd c9 c10)
      refine lv_iconst (v := 0) hx hb d_Mo_user_169 (by decide) ?_
      refine lv_istore (lv' := [(10, .int 0), (9, .int 0), (8, .int 0), (7, .int 0), (6, .int 0), (5, .int v9.1), (4, .int v7.1), (0, .ref (A 60)), (1, .int x1), (2, .int x2), (3, .int x3)]) hx hb d_Mo_user_170 hl (by decide) rfl (fun ls hl => ?_)
      refine lv_aload_n hx hb d_Mo_user_172 rfl (lv_at hl 7 rfl) ?_
      refine va_get (D := D) (ci := 5) (v := .int (gM_code v9.2)) (C := R_Mo) (T := T_Mo) (N := 3) hx hb hts wu_Mo hown hK hP 0 rfl rfl 2 (by decide) (hts _ wf_Mo_16) (fun _ h9 => h9) rfl d_Mo_user_173 ?_
      refine lv_if_eq (tgt := 181) hx hb d_Mo_user_176 (by decide) (fun c9 => absurd c9 c10) (fun _ => ?_)
      refine lv_iconst (v := 0) hx hb d_Mo_user_179 (by decide) ?_
      cases h
      exact W.iret hx hb hr (fun t ht hW => ⟨⟨_, (), rfl, rfl, ka_at ht hP⟩, hS.F ht⟩) hS.2.2 d_Mo_user_180 hlk
    replace h := zo_t c10 h
    refine lv_aload_n hx hb d_Mo_user_62 rfl (lv_at hl 2 rfl) ?_
    refine lv_iconst (v := 0) hx hb d_Mo_user_63 (by decide) ?_
    refine lv_iload hx hb d_Mo_user_64 (lv_at hl 1 rfl) ?_
    refine lv_iload hx hb d_Mo_user_66 (lv_at hl 0 rfl) ?_
    refine lv_iconst (v := 3) hx hb d_Mo_user_68 (by decide) ?_
    refine lv_iconst (v := 0) hx hb d_Mo_user_69 (by decide) ?_
    obtain ⟨v11, e9, h⟩ := zo_b h
    refine ka_i (va_runV (As := [.int 0, .int v7.1, .int v9.1, .int 3, .int 0]) (rest := []) S9 (c_Mo_both l hl9 D A r _ v9.2 0 v7.1 v9.1 3 0 _ e9) (cwV 5 hts (tg_V wl_Mo_119 wm_Mo_both we_Mo_both wi_Mo wo_Mo_both) rfl rfl rfl wq_Mo_both ⟨Nat.le_of_ble_eq_true rfl, Nat.le_of_ble_eq_true rfl⟩) (ka_preV X9 hP hD hS 0 rfl rfl) rfl rfl hl.1 rfl (lv_room (Nat.le_of_ble_eq_true rfl)) d_Mo_user_70 ⟨Nat.le_of_ble_eq_true rfl, Nat.le_of_ble_eq_true rfl⟩) X9 hD hS rfl (fun H locs hP hD hS => ?_)
    refine lv_goto (tgt := 77) hx hb d_Mo_user_73 (by decide) ?_
    refine lv_istore (lv' := [(6, .int v11.1), (5, .int v9.1), (4, .int v7.1), (0, .ref (A 60)), (1, .int x1), (2, .int x2), (3, .int x3)]) hx hb d_Mo_user_77 hl (by decide) rfl (fun ls hl => ?_)
    refine lv_aload_n hx hb d_Mo_user_79 rfl (lv_at hl 3 rfl) ?_
    refine va_get (D := D) (ci := 5) (v := .int (gM_code v11.2)) (C := R_Mo) (T := T_Mo) (N := 3) hx hb hts wu_Mo hown hK hP 0 rfl rfl 2 (by decide) (hts _ wf_Mo_16) (fun _ h9 => h9) rfl d_Mo_user_80 ?_
    refine lv_if_ne (tgt := 99) hx hb d_Mo_user_83 (by decide) (fun c12 => ?_) (fun c12 => ?_)
    · replace h := zo_f c12 h
      refine lv_iconst (v := 0) hx hb d_Mo_user_99 (by decide) ?_
      refine lv_istore (lv' := [(7, .int 0), (6, .int v11.1), (5, .int v9.1), (4, .int v7.1), (0, .ref (A 60)), (1, .int x1), (2, .int x2), (3, .int x3)]) hx hb d_Mo_user_100 hl (by decide) rfl (fun ls hl => ?_)
      refine lv_aload_n hx hb d_Mo_user_102 rfl (lv_at hl 4 rfl) ?_
      refine va_get (D := D) (ci := 5) (v := .int (gM_code v11.2)) (C := R_Mo) (T := T_Mo) (N := 3) hx hb hts wu_Mo hown hK hP 0 rfl rfl 2 (by decide) (hts _ wf_Mo_16) (fun _ h9 => h9) rfl d_Mo_user_103 ?_
      refine lv_if_ne (tgt := 122) hx hb d_Mo_user_106 (by decide) (fun _ => ?_) (fun c9 => absurd c9 c12)
      refine lv_iconst (v := 0) hx hb d_Mo_user_122 (by decide) ?_
      refine lv_istore (lv' := [(8, .int 0), (7, .int 0), (6, .int v11.1), (5, .int v9.1), (4, .int v7.1), (0, .ref (A 60)), (1, .int x1), (2, .int x2), (3, .int x3)]) hx hb d_Mo_user_123 hl (by decide) rfl (fun ls hl => ?_)
      refine lv_aload_n hx hb d_Mo_user_125 rfl (lv_at hl 5 rfl) ?_
      refine va_get (D := D) (ci := 5) (v := .int (gM_code v11.2)) (C := R_Mo) (T := T_Mo) (N := 3) hx hb hts wu_Mo hown hK hP 0 rfl rfl 2 (by decide) (hts _ wf_Mo_16) (fun _ h9 => h9) rfl d_Mo_user_126 ?_
      refine lv_if_ne (tgt := 146) hx hb d_Mo_user_129 (by decide) (fun _ => ?_) (fun c9 => absurd c9 c12)
      refine lv_iconst (v := 0) hx hb d_Mo_user_146 (by decide) ?_
      refine lv_istore (lv' := [(9, .int 0), (8, .int 0), (7, .int 0), (6, .int v11.1), (5, .int v9.1), (4, .int v7.1), (0, .ref (A 60)), (1, .int x1), (2, .int x2), (3, .int x3)]) hx hb d_Mo_user_147 hl (by decide) rfl (fun ls hl => ?_)
      refine lv_aload_n hx hb d_Mo_user_149 rfl (lv_at hl 6 rfl) ?_
      refine va_get (D := D) (ci := 5) (v := .int (gM_code v11.2)) (C := R_Mo) (T := T_Mo) (N := 3) hx hb hts wu_Mo hown hK hP 0 rfl rfl 2 (by decide) (hts _ wf_Mo_16) (fun _ h9 => h9) rfl d_Mo_user_150 ?_
      refine lv_if_ne (tgt := 169) hx hb d_Mo_user_153 (by decide) (fun _ => ?_) (fun c9 => absurd c9 c12)
      refine lv_iconst (v := 0) hx hb d_Mo_user_169 (by decide) ?_
      refine lv_istore (lv' := [(10, .int 0), (9, .int 0), (8, .int 0), (7, .int 0), (6, .int v11.1), (5, .int v9.1), (4, .int v7.1), (0, .ref (A 60)), (1, .int x1), (2, .int x2), (3, .int x3)]) hx hb d_Mo_user_170 hl (by decide) rfl (fun ls hl => ?_)
      refine lv_aload_n hx hb d_Mo_user_172 rfl (lv_at hl 7 rfl) ?_
      refine va_get (D := D) (ci := 5) (v := .int (gM_code v11.2)) (C := R_Mo) (T := T_Mo) (N := 3) hx hb hts wu_Mo hown hK hP 0 rfl rfl 2 (by decide) (hts _ wf_Mo_16) (fun _ h9 => h9) rfl d_Mo_user_173 ?_
      refine lv_if_eq (tgt := 181) hx hb d_Mo_user_176 (by decide) (fun c9 => absurd c9 c12) (fun _ => ?_)
      refine lv_iconst (v := 0) hx hb d_Mo_user_179 (by decide) ?_
      cases h
      exact W.iret hx hb hr (fun t ht hW => ⟨⟨_, (), rfl, rfl, ka_at ht hP⟩, hS.F ht⟩) hS.2.2 d_Mo_user_180 hlk
    replace h := zo_t c12 h
    refine lv_aload_n hx hb d_Mo_user_86 rfl (lv_at hl 3 rfl) ?_
    refine lv_iload_n hx hb d_Mo_user_87 rfl (lv_at hl 4 rfl) ?_
    refine lv_iconst (v := 1) hx hb d_Mo_user_88 (by decide) ?_
    refine lv_iload hx hb d_Mo_user_89 (lv_at hl 0 rfl) ?_
    refine lv_bipush (v := 40) hx hb d_Mo_user_91 (by decide) ?_
    obtain ⟨v13, e9, h⟩ := zo_b h
    refine ka_i (va_runV (As := [.int x1, .int 1, .int v11.1, .int 40]) (rest := []) S9 (c_Mo_makeContainer l hl9 D A r _ v11.2 x1 1 v11.1 40 _ e9) (cwV 4 hts (tg_V wl_Mo_88 wm_Mo_makeContainer we_Mo_makeContainer wi_Mo wo_Mo_makeContainer) rfl rfl rfl wq_Mo_makeContainer ⟨Nat.le_of_ble_eq_true rfl, Nat.le_of_ble_eq_true rfl⟩) (ka_preV X9 hP hD hS 0 rfl rfl) rfl rfl hl.1 rfl (lv_room (Nat.le_of_ble_eq_true rfl)) d_Mo_user_93 ⟨Nat.le_of_ble_eq_true rfl, Nat.le_of_ble_eq_true rfl⟩) X9 hD hS rfl (fun H locs hP hD hS => ?_)
    refine lv_goto (tgt := 100) hx hb d_Mo_user_96 (by decide) ?_
    refine lv_istore (lv' := [(7, .int v13.1), (6, .int v11.1), (5, .int v9.1), (4, .int v7.1), (0, .ref (A 60)), (1, .int x1), (2, .int x2), (3, .int x3)]) hx hb d_Mo_user_100 hl (by decide) rfl (fun ls hl => ?_)
    refine lv_aload_n hx hb d_Mo_user_102 rfl (lv_at hl 4 rfl) ?_
    refine va_get (D := D) (ci := 5) (v := .int (gM_code v13.2)) (C := R_Mo) (T := T_Mo) (N := 3) hx hb hts wu_Mo hown hK hP 0 rfl rfl 2 (by decide) (hts _ wf_Mo_16) (fun _ h9 => h9) rfl d_Mo_user_103 ?_
    refine lv_if_ne (tgt := 122) hx hb d_Mo_user_106 (by decide) (fun c14 => ?_) (fun c14 => ?_)
    · replace h := zo_f c14 h
      refine lv_iconst (v := 0) hx hb d_Mo_user_122 (by decide) ?_
      refine lv_istore (lv' := [(8, .int 0), (7, .int v13.1), (6, .int v11.1), (5, .int v9.1), (4, .int v7.1), (0, .ref (A 60)), (1, .int x1), (2, .int x2), (3, .int x3)]) hx hb d_Mo_user_123 hl (by decide) rfl (fun ls hl => ?_)
      refine lv_aload_n hx hb d_Mo_user_125 rfl (lv_at hl 5 rfl) ?_
      refine va_get (D := D) (ci := 5) (v := .int (gM_code v13.2)) (C := R_Mo) (T := T_Mo) (N := 3) hx hb hts wu_Mo hown hK hP 0 rfl rfl 2 (by decide) (hts _ wf_Mo_16) (fun _ h9 => h9) rfl d_Mo_user_126 ?_
      refine lv_if_ne (tgt := 146) hx hb d_Mo_user_129 (by decide) (fun _ => ?_) (fun c9 => absurd c9 c14)
      refine lv_iconst (v := 0) hx hb d_Mo_user_146 (by decide) ?_
      refine lv_istore (lv' := [(9, .int 0), (8, .int 0), (7, .int v13.1), (6, .int v11.1), (5, .int v9.1), (4, .int v7.1), (0, .ref (A 60)), (1, .int x1), (2, .int x2), (3, .int x3)]) hx hb d_Mo_user_147 hl (by decide) rfl (fun ls hl => ?_)
      refine lv_aload_n hx hb d_Mo_user_149 rfl (lv_at hl 6 rfl) ?_
      refine va_get (D := D) (ci := 5) (v := .int (gM_code v13.2)) (C := R_Mo) (T := T_Mo) (N := 3) hx hb hts wu_Mo hown hK hP 0 rfl rfl 2 (by decide) (hts _ wf_Mo_16) (fun _ h9 => h9) rfl d_Mo_user_150 ?_
      refine lv_if_ne (tgt := 169) hx hb d_Mo_user_153 (by decide) (fun _ => ?_) (fun c9 => absurd c9 c14)
      refine lv_iconst (v := 0) hx hb d_Mo_user_169 (by decide) ?_
      refine lv_istore (lv' := [(10, .int 0), (9, .int 0), (8, .int 0), (7, .int v13.1), (6, .int v11.1), (5, .int v9.1), (4, .int v7.1), (0, .ref (A 60)), (1, .int x1), (2, .int x2), (3, .int x3)]) hx hb d_Mo_user_170 hl (by decide) rfl (fun ls hl => ?_)
      refine lv_aload_n hx hb d_Mo_user_172 rfl (lv_at hl 7 rfl) ?_
      refine va_get (D := D) (ci := 5) (v := .int (gM_code v13.2)) (C := R_Mo) (T := T_Mo) (N := 3) hx hb hts wu_Mo hown hK hP 0 rfl rfl 2 (by decide) (hts _ wf_Mo_16) (fun _ h9 => h9) rfl d_Mo_user_173 ?_
      refine lv_if_eq (tgt := 181) hx hb d_Mo_user_176 (by decide) (fun c9 => absurd c9 c14) (fun _ => ?_)
      refine lv_iconst (v := 0) hx hb d_Mo_user_179 (by decide) ?_
      cases h
      exact W.iret hx hb hr (fun t ht hW => ⟨⟨_, (), rfl, rfl, ka_at ht hP⟩, hS.F ht⟩) hS.2.2 d_Mo_user_180 hlk
    replace h := zo_t c14 h
    refine lv_aload_n hx hb d_Mo_user_109 rfl (lv_at hl 4 rfl) ?_
    refine lv_iload_n hx hb d_Mo_user_110 rfl (lv_at hl 5 rfl) ?_
    refine lv_iload hx hb d_Mo_user_111 (lv_at hl 0 rfl) ?_
    refine lv_iload hx hb d_Mo_user_113 (lv_at hl 1 rfl) ?_
    refine lv_iconst (v := 4) hx hb d_Mo_user_115 (by decide) ?_
    obtain ⟨v15, e9, h⟩ := zo_b h
    refine ka_i (va_runV (As := [.int x1, .int v13.1, .int v11.1, .int 4]) (rest := []) S9 (c_Mo_makeSegment l hl9 D A r _ v13.2 x1 v13.1 v11.1 4 _ e9) (cwV 4 hts (tg_V wl_Mo_92 wm_Mo_makeSegment we_Mo_makeSegment wi_Mo wo_Mo_makeSegment) rfl rfl rfl wq_Mo_makeSegment ⟨Nat.le_of_ble_eq_true rfl, Nat.le_of_ble_eq_true rfl⟩) (ka_preV X9 hP hD hS 0 rfl rfl) rfl rfl hl.1 rfl (lv_room (Nat.le_of_ble_eq_true rfl)) d_Mo_user_116 ⟨Nat.le_of_ble_eq_true rfl, Nat.le_of_ble_eq_true rfl⟩) X9 hD hS rfl (fun H locs hP hD hS => ?_)
    refine lv_goto (tgt := 123) hx hb d_Mo_user_119 (by decide) ?_
    refine lv_istore (lv' := [(8, .int v15.1), (7, .int v13.1), (6, .int v11.1), (5, .int v9.1), (4, .int v7.1), (0, .ref (A 60)), (1, .int x1), (2, .int x2), (3, .int x3)]) hx hb d_Mo_user_123 hl (by decide) rfl (fun ls hl => ?_)
    refine lv_aload_n hx hb d_Mo_user_125 rfl (lv_at hl 5 rfl) ?_
    refine va_get (D := D) (ci := 5) (v := .int (gM_code v15.2)) (C := R_Mo) (T := T_Mo) (N := 3) hx hb hts wu_Mo hown hK hP 0 rfl rfl 2 (by decide) (hts _ wf_Mo_16) (fun _ h9 => h9) rfl d_Mo_user_126 ?_
    refine lv_if_ne (tgt := 146) hx hb d_Mo_user_129 (by decide) (fun c16 => ?_) (fun c16 => ?_)
    · replace h := zo_f c16 h
      refine lv_iconst (v := 0) hx hb d_Mo_user_146 (by decide) ?_
      refine lv_istore (lv' := [(9, .int 0), (8, .int v15.1), (7, .int v13.1), (6, .int v11.1), (5, .int v9.1), (4, .int v7.1), (0, .ref (A 60)), (1, .int x1), (2, .int x2), (3, .int x3)]) hx hb d_Mo_user_147 hl (by decide) rfl (fun ls hl => ?_)
      refine lv_aload_n hx hb d_Mo_user_149 rfl (lv_at hl 6 rfl) ?_
      refine va_get (D := D) (ci := 5) (v := .int (gM_code v15.2)) (C := R_Mo) (T := T_Mo) (N := 3) hx hb hts wu_Mo hown hK hP 0 rfl rfl 2 (by decide) (hts _ wf_Mo_16) (fun _ h9 => h9) rfl d_Mo_user_150 ?_
      refine lv_if_ne (tgt := 169) hx hb d_Mo_user_153 (by decide) (fun _ => ?_) (fun c9 => absurd c9 c16)
      refine lv_iconst (v := 0) hx hb d_Mo_user_169 (by decide) ?_
      refine lv_istore (lv' := [(10, .int 0), (9, .int 0), (8, .int v15.1), (7, .int v13.1), (6, .int v11.1), (5, .int v9.1), (4, .int v7.1), (0, .ref (A 60)), (1, .int x1), (2, .int x2), (3, .int x3)]) hx hb d_Mo_user_170 hl (by decide) rfl (fun ls hl => ?_)
      refine lv_aload_n hx hb d_Mo_user_172 rfl (lv_at hl 7 rfl) ?_
      refine va_get (D := D) (ci := 5) (v := .int (gM_code v15.2)) (C := R_Mo) (T := T_Mo) (N := 3) hx hb hts wu_Mo hown hK hP 0 rfl rfl 2 (by decide) (hts _ wf_Mo_16) (fun _ h9 => h9) rfl d_Mo_user_173 ?_
      refine lv_if_eq (tgt := 181) hx hb d_Mo_user_176 (by decide) (fun c9 => absurd c9 c16) (fun _ => ?_)
      refine lv_iconst (v := 0) hx hb d_Mo_user_179 (by decide) ?_
      cases h
      exact W.iret hx hb hr (fun t ht hW => ⟨⟨_, (), rfl, rfl, ka_at ht hP⟩, hS.F ht⟩) hS.2.2 d_Mo_user_180 hlk
    replace h := zo_t c16 h
    refine lv_aload_n hx hb d_Mo_user_132 rfl (lv_at hl 5 rfl) ?_
    refine lv_iconst (v := 0) hx hb d_Mo_user_133 (by decide) ?_
    refine lv_iload hx hb d_Mo_user_134 (lv_at hl 4 rfl) ?_
    refine lv_iload hx hb d_Mo_user_136 (lv_at hl 3 rfl) ?_
    refine lv_iconst (v := 4) hx hb d_Mo_user_138 (by decide) ?_
    refine lv_iconst (v := 4) hx hb d_Mo_user_139 (by decide) ?_
    obtain ⟨v17, e9, h⟩ := zo_b h
    refine ka_i (va_runV (As := [.int 0, .int v7.1, .int v9.1, .int 4, .int 4]) (rest := []) S9 (c_Mo_both l hl9 D A r _ v15.2 0 v7.1 v9.1 4 4 _ e9) (cwV 5 hts (tg_V wl_Mo_119 wm_Mo_both we_Mo_both wi_Mo wo_Mo_both) rfl rfl rfl wq_Mo_both ⟨Nat.le_of_ble_eq_true rfl, Nat.le_of_ble_eq_true rfl⟩) (ka_preV X9 hP hD hS 0 rfl rfl) rfl rfl hl.1 rfl (lv_room (Nat.le_of_ble_eq_true rfl)) d_Mo_user_140 ⟨Nat.le_of_ble_eq_true rfl, Nat.le_of_ble_eq_true rfl⟩) X9 hD hS rfl (fun H locs hP hD hS => ?_)
    refine lv_goto (tgt := 147) hx hb d_Mo_user_143 (by decide) ?_
    refine lv_istore (lv' := [(9, .int v17.1), (8, .int v15.1), (7, .int v13.1), (6, .int v11.1), (5, .int v9.1), (4, .int v7.1), (0, .ref (A 60)), (1, .int x1), (2, .int x2), (3, .int x3)]) hx hb d_Mo_user_147 hl (by decide) rfl (fun ls hl => ?_)
    refine lv_aload_n hx hb d_Mo_user_149 rfl (lv_at hl 6 rfl) ?_
    refine va_get (D := D) (ci := 5) (v := .int (gM_code v17.2)) (C := R_Mo) (T := T_Mo) (N := 3) hx hb hts wu_Mo hown hK hP 0 rfl rfl 2 (by decide) (hts _ wf_Mo_16) (fun _ h9 => h9) rfl d_Mo_user_150 ?_
    refine lv_if_ne (tgt := 169) hx hb d_Mo_user_153 (by decide) (fun c18 => ?_) (fun c18 => ?_)
    · replace h := zo_f c18 h
      refine lv_iconst (v := 0) hx hb d_Mo_user_169 (by decide) ?_
      refine lv_istore (lv' := [(10, .int 0), (9, .int v17.1), (8, .int v15.1), (7, .int v13.1), (6, .int v11.1), (5, .int v9.1), (4, .int v7.1), (0, .ref (A 60)), (1, .int x1), (2, .int x2), (3, .int x3)]) hx hb d_Mo_user_170 hl (by decide) rfl (fun ls hl => ?_)
      refine lv_aload_n hx hb d_Mo_user_172 rfl (lv_at hl 7 rfl) ?_
      refine va_get (D := D) (ci := 5) (v := .int (gM_code v17.2)) (C := R_Mo) (T := T_Mo) (N := 3) hx hb hts wu_Mo hown hK hP 0 rfl rfl 2 (by decide) (hts _ wf_Mo_16) (fun _ h9 => h9) rfl d_Mo_user_173 ?_
      refine lv_if_eq (tgt := 181) hx hb d_Mo_user_176 (by decide) (fun c9 => absurd c9 c18) (fun _ => ?_)
      refine lv_iconst (v := 0) hx hb d_Mo_user_179 (by decide) ?_
      cases h
      exact W.iret hx hb hr (fun t ht hW => ⟨⟨_, (), rfl, rfl, ka_at ht hP⟩, hS.F ht⟩) hS.2.2 d_Mo_user_180 hlk
    replace h := zo_t c18 h
    refine lv_aload_n hx hb d_Mo_user_156 rfl (lv_at hl 6 rfl) ?_
    refine lv_iload_n hx hb d_Mo_user_157 rfl (lv_at hl 7 rfl) ?_
    refine lv_iconst (v := 1) hx hb d_Mo_user_158 (by decide) ?_
    refine lv_iload hx hb d_Mo_user_159 (lv_at hl 0 rfl) ?_
    refine lv_iconst (v := 1) hx hb d_Mo_user_161 (by decide) ?_
    refine lv_iload_n hx hb d_Mo_user_162 rfl (lv_at hl 8 rfl) ?_
    obtain ⟨v19, e9, h⟩ := zo_b h
    refine ka_i (va_runV (As := [.int x1, .int 1, .int v17.1, .int 1, .int x2]) (rest := []) S9 (c_Mo_makeGate l hl9 D A r _ v17.2 x1 1 v17.1 1 x2 _ e9) (cwV 5 hts (tg_V wl_Mo_95 wm_Mo_makeGate we_Mo_makeGate wi_Mo wo_Mo_makeGate) rfl rfl rfl wq_Mo_makeGate ⟨Nat.le_of_ble_eq_true rfl, Nat.le_of_ble_eq_true rfl⟩) (ka_preV X9 hP hD hS 0 rfl rfl) rfl rfl hl.1 rfl (lv_room (Nat.le_of_ble_eq_true rfl)) d_Mo_user_163 ⟨Nat.le_of_ble_eq_true rfl, Nat.le_of_ble_eq_true rfl⟩) X9 hD hS rfl (fun H locs hP hD hS => ?_)
    refine lv_goto (tgt := 170) hx hb d_Mo_user_166 (by decide) ?_
    refine lv_istore (lv' := [(10, .int v19.1), (9, .int v17.1), (8, .int v15.1), (7, .int v13.1), (6, .int v11.1), (5, .int v9.1), (4, .int v7.1), (0, .ref (A 60)), (1, .int x1), (2, .int x2), (3, .int x3)]) hx hb d_Mo_user_170 hl (by decide) rfl (fun ls hl => ?_)
    refine lv_aload_n hx hb d_Mo_user_172 rfl (lv_at hl 7 rfl) ?_
    refine va_get (D := D) (ci := 5) (v := .int (gM_code v19.2)) (C := R_Mo) (T := T_Mo) (N := 3) hx hb hts wu_Mo hown hK hP 0 rfl rfl 2 (by decide) (hts _ wf_Mo_16) (fun _ h9 => h9) rfl d_Mo_user_173 ?_
    refine lv_if_eq (tgt := 181) hx hb d_Mo_user_176 (by decide) (fun c20 => ?_) (fun c20 => ?_)
    · replace h := zo_t c20 h
      refine lv_sipush (v := 1517) hx hb d_Mo_user_181 (by decide) ?_
      refine lv_bipush (v := 8) hx hb d_Mo_user_184 (by decide) ?_
      refine lv_iload_n hx hb d_Mo_user_186 rfl (lv_at hl 9 rfl) ?_
      refine lv_imul hx hb d_Mo_user_187 ?_
      refine lv_iadd hx hb d_Mo_user_188 ?_
      refine lv_istore (lv' := [(11, .int (1517 + (8 * x2))), (10, .int v19.1), (9, .int v17.1), (8, .int v15.1), (7, .int v13.1), (6, .int v11.1), (5, .int v9.1), (4, .int v7.1), (0, .ref (A 60)), (1, .int x1), (2, .int x2), (3, .int x3)]) hx hb d_Mo_user_189 hl (by decide) rfl (fun ls hl => ?_)
      refine lv_aload_n hx hb d_Mo_user_191 rfl (lv_at hl 8 rfl) ?_
      refine va_get (D := D) (ci := 5) (v := .ref (A 61)) (C := R_Mo) (T := T_Mo) (N := 3) hx hb hts wu_Mo hown hK hP 0 rfl rfl 0 (by decide) (hts _ wf_Mo_7) (fun _ h9 => h9) rfl d_Mo_user_192 ?_
      refine lv_iload hx hb d_Mo_user_195 (lv_at hl 0 rfl) ?_
      refine lv_iconst (v := 1) hx hb d_Mo_user_197 (by decide) ?_
      obtain ⟨i9, h⟩ := zo_i h
      obtain ⟨u21, hu9, h⟩ := zo_l h
      refine va_iast hx hb hK hP hD hS 1 0 rfl rfl i9 d_Mo_user_198 (fun H locs hP hD hS => ?_)
      replace hP : va_P D vwCl (MW A u21 r) H := by rw [hu9]; exact hP
      replace hD : va_D A9 (MW A u21 r) := by rw [hu9]; exact hD
      refine lv_aload_n hx hb d_Mo_user_199 rfl (lv_at hl 8 rfl) ?_
      refine va_get (D := D) (ci := 5) (v := .ref (A 61)) (C := R_Mo) (T := T_Mo) (N := 3) hx hb hts wu_Mo hown hK hP 0 rfl rfl 0 (by decide) (hts _ wf_Mo_7) (fun _ h9 => h9) rfl d_Mo_user_200 ?_
      refine lv_iload hx hb d_Mo_user_203 (lv_at hl 0 rfl) ?_
      refine lv_iconst (v := 1) hx hb d_Mo_user_205 (by decide) ?_
      refine lv_iadd hx hb d_Mo_user_206 ?_
      refine lv_iload_n hx hb d_Mo_user_207 rfl (lv_at hl 11 rfl) ?_
      obtain ⟨i9, h⟩ := zo_i h
      obtain ⟨u22, hu9, h⟩ := zo_l h
      refine va_iast hx hb hK hP hD hS 1 0 rfl rfl i9 d_Mo_user_208 (fun H locs hP hD hS => ?_)
      replace hP : va_P D vwCl (MW A u22 r) H := by rw [hu9]; exact hP
      replace hD : va_D A9 (MW A u22 r) := by rw [hu9]; exact hD
      refine lv_aload_n hx hb d_Mo_user_209 rfl (lv_at hl 8 rfl) ?_
      refine va_get (D := D) (ci := 5) (v := .ref (A 61)) (C := R_Mo) (T := T_Mo) (N := 3) hx hb hts wu_Mo hown hK hP 0 rfl rfl 0 (by decide) (hts _ wf_Mo_7) (fun _ h9 => h9) rfl d_Mo_user_210 ?_
      refine lv_iload hx hb d_Mo_user_213 (lv_at hl 0 rfl) ?_
      refine lv_iconst (v := 2) hx hb d_Mo_user_215 (by decide) ?_
      refine lv_iadd hx hb d_Mo_user_216 ?_
      refine lv_iload hx hb d_Mo_user_217 (lv_at hl 7 rfl) ?_
      obtain ⟨i9, h⟩ := zo_i h
      obtain ⟨u23, hu9, h⟩ := zo_l h
      refine va_iast hx hb hK hP hD hS 1 0 rfl rfl i9 d_Mo_user_219 (fun H locs hP hD hS => ?_)
      replace hP : va_P D vwCl (MW A u23 r) H := by rw [hu9]; exact hP
      replace hD : va_D A9 (MW A u23 r) := by rw [hu9]; exact hD
      refine lv_aload_n hx hb d_Mo_user_220 rfl (lv_at hl 8 rfl) ?_
      refine va_get (D := D) (ci := 5) (v := .ref (A 61)) (C := R_Mo) (T := T_Mo) (N := 3) hx hb hts wu_Mo hown hK hP 0 rfl rfl 0 (by decide) (hts _ wf_Mo_7) (fun _ h9 => h9) rfl d_Mo_user_221 ?_
      refine lv_iload hx hb d_Mo_user_224 (lv_at hl 0 rfl) ?_
      refine lv_iconst (v := 3) hx hb d_Mo_user_226 (by decide) ?_
      refine lv_iadd hx hb d_Mo_user_227 ?_
      refine lv_iload hx hb d_Mo_user_228 (lv_at hl 6 rfl) ?_
      obtain ⟨i9, h⟩ := zo_i h
      obtain ⟨u24, hu9, h⟩ := zo_l h
      refine va_iast hx hb hK hP hD hS 1 0 rfl rfl i9 d_Mo_user_230 (fun H locs hP hD hS => ?_)
      replace hP : va_P D vwCl (MW A u24 r) H := by rw [hu9]; exact hP
      replace hD : va_D A9 (MW A u24 r) := by rw [hu9]; exact hD
      refine lv_aload_n hx hb d_Mo_user_231 rfl (lv_at hl 8 rfl) ?_
      refine va_get (D := D) (ci := 5) (v := .ref (A 61)) (C := R_Mo) (T := T_Mo) (N := 3) hx hb hts wu_Mo hown hK hP 0 rfl rfl 0 (by decide) (hts _ wf_Mo_7) (fun _ h9 => h9) rfl d_Mo_user_232 ?_
      refine lv_iload hx hb d_Mo_user_235 (lv_at hl 0 rfl) ?_
      refine lv_iconst (v := 4) hx hb d_Mo_user_237 (by decide) ?_
      refine lv_iadd hx hb d_Mo_user_238 ?_
      refine lv_iload hx hb d_Mo_user_239 (lv_at hl 4 rfl) ?_
      obtain ⟨i9, h⟩ := zo_i h
      obtain ⟨u25, hu9, h⟩ := zo_l h
      refine va_iast hx hb hK hP hD hS 1 0 rfl rfl i9 d_Mo_user_241 (fun H locs hP hD hS => ?_)
      replace hP : va_P D vwCl (MW A u25 r) H := by rw [hu9]; exact hP
      replace hD : va_D A9 (MW A u25 r) := by rw [hu9]; exact hD
      refine lv_aload_n hx hb d_Mo_user_242 rfl (lv_at hl 8 rfl) ?_
      refine va_get (D := D) (ci := 5) (v := .ref (A 61)) (C := R_Mo) (T := T_Mo) (N := 3) hx hb hts wu_Mo hown hK hP 0 rfl rfl 0 (by decide) (hts _ wf_Mo_7) (fun _ h9 => h9) rfl d_Mo_user_243 ?_
      refine lv_iload hx hb d_Mo_user_246 (lv_at hl 0 rfl) ?_
      refine lv_iconst (v := 5) hx hb d_Mo_user_248 (by decide) ?_
      refine lv_iadd hx hb d_Mo_user_249 ?_
      refine lv_iload hx hb d_Mo_user_250 (lv_at hl 3 rfl) ?_
      obtain ⟨i9, h⟩ := zo_i h
      obtain ⟨u26, hu9, h⟩ := zo_l h
      refine va_iast hx hb hK hP hD hS 1 0 rfl rfl i9 d_Mo_user_252 (fun H locs hP hD hS => ?_)
      replace hP : va_P D vwCl (MW A u26 r) H := by rw [hu9]; exact hP
      replace hD : va_D A9 (MW A u26 r) := by rw [hu9]; exact hD
      refine lv_aload_n hx hb d_Mo_user_253 rfl (lv_at hl 8 rfl) ?_
      refine va_get (D := D) (ci := 5) (v := .ref (A 61)) (C := R_Mo) (T := T_Mo) (N := 3) hx hb hts wu_Mo hown hK hP 0 rfl rfl 0 (by decide) (hts _ wf_Mo_7) (fun _ h9 => h9) rfl d_Mo_user_254 ?_
      refine lv_iload hx hb d_Mo_user_257 (lv_at hl 0 rfl) ?_
      refine lv_bipush (v := 6) hx hb d_Mo_user_259 (by decide) ?_
      refine lv_iadd hx hb d_Mo_user_261 ?_
      refine lv_iload hx hb d_Mo_user_262 (lv_at hl 1 rfl) ?_
      obtain ⟨i9, h⟩ := zo_i h
      obtain ⟨u27, hu9, h⟩ := zo_l h
      refine va_iast hx hb hK hP hD hS 1 0 rfl rfl i9 d_Mo_user_264 (fun H locs hP hD hS => ?_)
      replace hP : va_P D vwCl (MW A u27 r) H := by rw [hu9]; exact hP
      replace hD : va_D A9 (MW A u27 r) := by rw [hu9]; exact hD
      refine lv_iload hx hb d_Mo_user_265 (lv_at hl 4 rfl) ?_
      cases h
      exact W.iret hx hb hr (fun t ht hW => ⟨⟨_, (), rfl, rfl, ka_at ht hP⟩, hS.F ht⟩) hS.2.2 d_Mo_user_267 hlk
    replace h := zo_f c20 h
    refine lv_iconst (v := 0) hx hb d_Mo_user_179 (by decide) ?_
    cases h
    exact W.iret hx hb hr (fun t ht hW => ⟨⟨_, (), rfl, rfl, ka_at ht hP⟩, hS.F ht⟩) hS.2.2 d_Mo_user_180 hlk
  replace h := zo_t c6 h
  refine lv_aload_n hx hb d_Mo_user_24 rfl (lv_at hl 0 rfl) ?_
  refine lv_iconst (v := 1) hx hb d_Mo_user_25 (by decide) ?_
  obtain ⟨v28, e9, h⟩ := zo_b h
  refine ka_i (va_runV (As := [.int 1]) (rest := []) S9 (c_Mo_fail l hl9 D A r _ u1 1 _ e9) (cwV 1 hts (tg_V wl_Mo_51 wm_Mo_fail we_Mo_fail wi_Mo wo_Mo_fail) rfl rfl rfl wq_Mo_fail ⟨Nat.le_of_ble_eq_true rfl, Nat.le_of_ble_eq_true rfl⟩) (ka_preV X9 hP hD hS 0 rfl rfl) rfl rfl hl.1 rfl (lv_room (Nat.le_of_ble_eq_true rfl)) d_Mo_user_26 ⟨Nat.le_of_ble_eq_true rfl, Nat.le_of_ble_eq_true rfl⟩) X9 hD hS rfl (fun H locs hP hD hS => ?_)
  cases h
  exact W.iret hx hb hr (fun t ht hW => ⟨⟨_, (), rfl, rfl, ka_at ht hP⟩, hS.F ht⟩) hS.2.2 d_Mo_user_29 hlk
def f_Mo_login (σ : RS) (x1 x2 x3 : Int32) : Option (Int32 × RS) := zl (sM_code σ 0) fun u1 => (f_Mo_within x2 0 3).bind fun v2 => if v2 = 0 then ((f_Mo_fail u1 1).bind fun v22 => some (v22.1, v22.2)) else ((f_Mo_of u1 x2 0).bind fun v4 => if v4 = 0 then ((f_Mo_fail u1 2).bind fun v21 => some (v21.1, v21.2)) else ((f_Mo_of u1 x2 1).bind fun v6 => if v6 = x3 then ((f_Mo_threadOnly u1 x1).bind fun v8 => if v8.1 = 0 then (some (0, v8.2)) else ((f_Mo_of v8.2 x2 2).bind fun v10 => (f_Mo_of v8.2 x2 3).bind fun v11 => (f_Mo_at v8.2 x1 2).bind fun v12 => (f_Mo_both v8.2 v12 v10 v11 4 4).bind fun v13 => if (gM_code v13.2) = 0 then ((f_Mo_at v13.2 x1 6).bind fun v15 => (f_Mo_both v13.2 v15 v10 v11 3 3).bind fun v16 => if (gM_code v16.2) = 0 then ((f_Mo_of v16.2 x2 6).bind fun v18 => (f_Mo_go v16.2 x1 1 v18 v13.1 v16.1).bind fun v19 => some (v19.1, v19.2)) else (some (0, v16.2))) else (some (0, v13.2)))) else ((f_Mo_fail u1 3).bind fun v20 => some (v20.1, v20.2))))
set_option maxRecDepth 100000 in
set_option maxHeartbeats 4000000 in
theorem c_Mo_login (l : Launch) (hl9 : l.stackTraces = false) (D : va_G) (A : Nat → Nat) (r : va_W) (sz : Nat) (σ : RS) (x1 x2 x3 : Int32) (z : Int32 × RS) (h : f_Mo_login σ x1 x2 x3 = some z) : Met l y_Mo_login (Cond.code y_Mo_login b_Mo_login 8 (some .int) :: T0) ({ frames := 4, cells := 0, slots := 0, locals := 101 } : Room) (va_Pc [.ref (A 60), .int x1, .int x2, .int x3] (ka_Wd D A (MW A σ r) sz)) (ka_Ri D z.1 (MW A z.2 r) (va_A (MW A σ r) sz)) 0 0 (va_A (MW A σ r) sz) := by
  unfold f_Mo_login at h
  refine ka_of (own := R_Mo) (fun A9 => ka_Ri D z.1 (MW A z.2 r) A9) (by decide) rfl (Nat.le_of_ble_eq_true rfl) ?_
  intro p e s m below meth c A9 ls S9 hr hlk hex X9 hP hD hl
  obtain ⟨hx, hb, hml, hown, hts⟩ := id S9
  have hK := X9.2.1
  have hS : va_S A9 s.heap s.heap [] := va_S.rf
  replace hl : lv_has ls 8 [(0, .ref (A 60)), (1, .int x1), (2, .int x2), (3, .int x3)] := hl
  refine lv_aload_n hx hb d_Mo_login_0 rfl (lv_at hl 0 rfl) ?_
  refine lv_iconst (v := 0) hx hb d_Mo_login_1 (by decide) ?_
  obtain ⟨u1, hu9, h⟩ := zo_l h
  refine va_put (D := D) (ci := 5) (v := .int 0) (ty := .int) (C := R_Mo) (T := T_Mo) (N := 3) hx hb hts wu_Mo ft_Mo fk_Mo nm_Mo hown hK hP hD hS 0 rfl rfl 2 (by decide) (hts _ wf_Mo_16) (fun _ h9 => h9) rfl (by decide +kernel) rfl rfl (Nat.le_of_ble_eq_true rfl) d_Mo_login_2 (fun H locs hP hD hS => ?_)
  replace hP : va_P D vwCl (MW A u1 r) H := by rw [hu9]; exact hP
  replace hD : va_D A9 (MW A u1 r) := by rw [hu9]; exact hD
  refine lv_iload_n hx hb d_Mo_login_5 rfl (lv_at hl 2 rfl) ?_
  refine lv_iconst (v := 0) hx hb d_Mo_login_6 (by decide) ?_
  refine lv_iconst (v := 3) hx hb d_Mo_login_7 (by decide) ?_
  obtain ⟨v2, e9, h⟩ := zo_b h
  refine ka_i (va_runS (As := [.int x2, .int 0, .int 3]) (rest := []) S9 (c_Mo_within l hl9 D A (MW A u1 r) _ x2 0 3 _ e9) (cwS 3 hts (tg_S wl_Mo_28 ws_Mo_within wi_Mo wo_Mo_within) rfl rfl rfl wq_Mo_within ⟨Nat.le_of_ble_eq_true rfl, Nat.le_of_ble_eq_true rfl⟩) (ka_preS X9 hP hD hS) rfl rfl hl.1 rfl (lv_room (Nat.le_of_ble_eq_true rfl)) d_Mo_login_8 ⟨Nat.le_of_ble_eq_true rfl, Nat.le_of_ble_eq_true rfl⟩) X9 hD hS rfl (fun H locs hP hD hS => ?_)
  refine lv_if_ne (tgt := 20) hx hb d_Mo_login_11 (by decide) (fun c3 => ?_) (fun c3 => ?_)
  · replace h := zo_f c3 h
    refine lv_aload_n hx hb d_Mo_login_20 rfl (lv_at hl 0 rfl) ?_
    refine lv_iload_n hx hb d_Mo_login_21 rfl (lv_at hl 2 rfl) ?_
    refine lv_iconst (v := 0) hx hb d_Mo_login_22 (by decide) ?_
    obtain ⟨v4, e9, h⟩ := zo_b h
    refine ka_i (va_runV (As := [.int x2, .int 0]) (rest := []) S9 (c_Mo_of l hl9 D A r _ u1 x2 0 _ e9) (cwV 2 hts (tg_V wl_Mo_116 wm_Mo_of we_Mo_of wi_Mo wo_Mo_of) rfl rfl rfl wq_Mo_of ⟨Nat.le_of_ble_eq_true rfl, Nat.le_of_ble_eq_true rfl⟩) (ka_preV X9 hP hD hS 0 rfl rfl) rfl rfl hl.1 rfl (lv_room (Nat.le_of_ble_eq_true rfl)) d_Mo_login_23 ⟨Nat.le_of_ble_eq_true rfl, Nat.le_of_ble_eq_true rfl⟩) X9 hD hS rfl (fun H locs hP hD hS => ?_)
    refine lv_if_ne (tgt := 35) hx hb d_Mo_login_26 (by decide) (fun c5 => ?_) (fun c5 => ?_)
    · replace h := zo_f c5 h
      refine lv_aload_n hx hb d_Mo_login_35 rfl (lv_at hl 0 rfl) ?_
      refine lv_iload_n hx hb d_Mo_login_36 rfl (lv_at hl 2 rfl) ?_
      refine lv_iconst (v := 1) hx hb d_Mo_login_37 (by decide) ?_
      obtain ⟨v6, e9, h⟩ := zo_b h
      refine ka_i (va_runV (As := [.int x2, .int 1]) (rest := []) S9 (c_Mo_of l hl9 D A r _ u1 x2 1 _ e9) (cwV 2 hts (tg_V wl_Mo_116 wm_Mo_of we_Mo_of wi_Mo wo_Mo_of) rfl rfl rfl wq_Mo_of ⟨Nat.le_of_ble_eq_true rfl, Nat.le_of_ble_eq_true rfl⟩) (ka_preV X9 hP hD hS 0 rfl rfl) rfl rfl hl.1 rfl (lv_room (Nat.le_of_ble_eq_true rfl)) d_Mo_login_38 ⟨Nat.le_of_ble_eq_true rfl, Nat.le_of_ble_eq_true rfl⟩) X9 hD hS rfl (fun H locs hP hD hS => ?_)
      refine lv_iload_n hx hb d_Mo_login_41 rfl (lv_at hl 3 rfl) ?_
      refine lv_icmp_eq (tgt := 51) hx hb d_Mo_login_42 (by decide) (fun c7 => ?_) (fun c7 => ?_)
      · replace h := zo_t c7 h
        refine lv_aload_n hx hb d_Mo_login_51 rfl (lv_at hl 0 rfl) ?_
        refine lv_iload_n hx hb d_Mo_login_52 rfl (lv_at hl 1 rfl) ?_
        obtain ⟨v8, e9, h⟩ := zo_b h
        refine ka_i (va_runV (As := [.int x1]) (rest := []) S9 (c_Mo_threadOnly l hl9 D A r _ u1 x1 _ e9) (cwV 1 hts (tg_V wl_Mo_60 wm_Mo_threadOnly we_Mo_threadOnly wi_Mo wo_Mo_threadOnly) rfl rfl rfl wq_Mo_threadOnly ⟨Nat.le_of_ble_eq_true rfl, Nat.le_of_ble_eq_true rfl⟩) (ka_preV X9 hP hD hS 0 rfl rfl) rfl rfl hl.1 rfl (lv_room (Nat.le_of_ble_eq_true rfl)) d_Mo_login_53 ⟨Nat.le_of_ble_eq_true rfl, Nat.le_of_ble_eq_true rfl⟩) X9 hD hS rfl (fun H locs hP hD hS => ?_)
        refine lv_if_ne (tgt := 61) hx hb d_Mo_login_56 (by decide) (fun c9 => ?_) (fun c9 => ?_)
        · replace h := zo_f c9 h
          refine lv_aload_n hx hb d_Mo_login_61 rfl (lv_at hl 0 rfl) ?_
          refine lv_iload_n hx hb d_Mo_login_62 rfl (lv_at hl 2 rfl) ?_
          refine lv_iconst (v := 2) hx hb d_Mo_login_63 (by decide) ?_
          obtain ⟨v10, e9, h⟩ := zo_b h
          refine ka_i (va_runV (As := [.int x2, .int 2]) (rest := []) S9 (c_Mo_of l hl9 D A r _ v8.2 x2 2 _ e9) (cwV 2 hts (tg_V wl_Mo_116 wm_Mo_of we_Mo_of wi_Mo wo_Mo_of) rfl rfl rfl wq_Mo_of ⟨Nat.le_of_ble_eq_true rfl, Nat.le_of_ble_eq_true rfl⟩) (ka_preV X9 hP hD hS 0 rfl rfl) rfl rfl hl.1 rfl (lv_room (Nat.le_of_ble_eq_true rfl)) d_Mo_login_64 ⟨Nat.le_of_ble_eq_true rfl, Nat.le_of_ble_eq_true rfl⟩) X9 hD hS rfl (fun H locs hP hD hS => ?_)
          refine lv_istore (lv' := [(4, .int v10), (0, .ref (A 60)), (1, .int x1), (2, .int x2), (3, .int x3)]) hx hb d_Mo_login_67 hl (by decide) rfl (fun ls hl => ?_)
          refine lv_aload_n hx hb d_Mo_login_69 rfl (lv_at hl 1 rfl) ?_
          refine lv_iload_n hx hb d_Mo_login_70 rfl (lv_at hl 3 rfl) ?_
          refine lv_iconst (v := 3) hx hb d_Mo_login_71 (by decide) ?_
          obtain ⟨v11, e9, h⟩ := zo_b h
          refine ka_i (va_runV (As := [.int x2, .int 3]) (rest := []) S9 (c_Mo_of l hl9 D A r _ v8.2 x2 3 _ e9) (cwV 2 hts (tg_V wl_Mo_116 wm_Mo_of we_Mo_of wi_Mo wo_Mo_of) rfl rfl rfl wq_Mo_of ⟨Nat.le_of_ble_eq_true rfl, Nat.le_of_ble_eq_true rfl⟩) (ka_preV X9 hP hD hS 0 rfl rfl) rfl rfl hl.1 rfl (lv_room (Nat.le_of_ble_eq_true rfl)) d_Mo_login_72 ⟨Nat.le_of_ble_eq_true rfl, Nat.le_of_ble_eq_true rfl⟩) X9 hD hS rfl (fun H locs hP hD hS => ?_)
          refine lv_istore (lv' := [(5, .int v11), (4, .int v10), (0, .ref (A 60)), (1, .int x1), (2, .int x2), (3, .int x3)]) hx hb d_Mo_login_75 hl (by decide) rfl (fun ls hl => ?_)
          refine lv_aload_n hx hb d_Mo_login_77 rfl (lv_at hl 2 rfl) ?_
          refine lv_aload_n hx hb d_Mo_login_78 rfl (lv_at hl 2 rfl) ?_
          refine lv_iload_n hx hb d_Mo_login_79 rfl (lv_at hl 3 rfl) ?_
          refine lv_iconst (v := 2) hx hb d_Mo_login_80 (by decide) ?_
          obtain ⟨v12, e9, h⟩ := zo_b h
          refine ka_i (va_runV (As := [.int x1, .int 2]) (rest := [.ref (A 60)]) S9 (c_Mo_at l hl9 D A r _ v8.2 x1 2 _ e9) (cwV 2 hts (tg_V wl_Mo_32 wm_Mo_at we_Mo_at wi_Mo wo_Mo_at) rfl rfl rfl wq_Mo_at ⟨Nat.le_of_ble_eq_true rfl, Nat.le_of_ble_eq_true rfl⟩) (ka_preV X9 hP hD hS 0 rfl rfl) rfl rfl hl.1 rfl (lv_room (Nat.le_of_ble_eq_true rfl)) d_Mo_login_81 ⟨Nat.le_of_ble_eq_true rfl, Nat.le_of_ble_eq_true rfl⟩) X9 hD hS rfl (fun H locs hP hD hS => ?_)
          refine lv_iload hx hb d_Mo_login_84 (lv_at hl 1 rfl) ?_
          refine lv_iload hx hb d_Mo_login_86 (lv_at hl 0 rfl) ?_
          refine lv_iconst (v := 4) hx hb d_Mo_login_88 (by decide) ?_
          refine lv_iconst (v := 4) hx hb d_Mo_login_89 (by decide) ?_
          obtain ⟨v13, e9, h⟩ := zo_b h
          refine ka_i (va_runV (As := [.int v12, .int v10, .int v11, .int 4, .int 4]) (rest := []) S9 (c_Mo_both l hl9 D A r _ v8.2 v12 v10 v11 4 4 _ e9) (cwV 5 hts (tg_V wl_Mo_119 wm_Mo_both we_Mo_both wi_Mo wo_Mo_both) rfl rfl rfl wq_Mo_both ⟨Nat.le_of_ble_eq_true rfl, Nat.le_of_ble_eq_true rfl⟩) (ka_preV X9 hP hD hS 0 rfl rfl) rfl rfl hl.1 rfl (lv_room (Nat.le_of_ble_eq_true rfl)) d_Mo_login_90 ⟨Nat.le_of_ble_eq_true rfl, Nat.le_of_ble_eq_true rfl⟩) X9 hD hS rfl (fun H locs hP hD hS => ?_)
          refine lv_istore (lv' := [(6, .int v13.1), (5, .int v11), (4, .int v10), (0, .ref (A 60)), (1, .int x1), (2, .int x2), (3, .int x3)]) hx hb d_Mo_login_93 hl (by decide) rfl (fun ls hl => ?_)
          refine lv_aload_n hx hb d_Mo_login_95 rfl (lv_at hl 3 rfl) ?_
          refine va_get (D := D) (ci := 5) (v := .int (gM_code v13.2)) (C := R_Mo) (T := T_Mo) (N := 3) hx hb hts wu_Mo hown hK hP 0 rfl rfl 2 (by decide) (hts _ wf_Mo_16) (fun _ h9 => h9) rfl d_Mo_login_96 ?_
          refine lv_if_ne (tgt := 122) hx hb d_Mo_login_99 (by decide) (fun c14 => ?_) (fun c14 => ?_)
          · replace h := zo_f c14 h
            refine lv_iconst (v := 0) hx hb d_Mo_login_122 (by decide) ?_
            refine lv_istore (lv' := [(7, .int 0), (6, .int v13.1), (5, .int v11), (4, .int v10), (0, .ref (A 60)), (1, .int x1), (2, .int x2), (3, .int x3)]) hx hb d_Mo_login_123 hl (by decide) rfl (fun ls hl => ?_)
            refine lv_aload_n hx hb d_Mo_login_125 rfl (lv_at hl 4 rfl) ?_
            refine va_get (D := D) (ci := 5) (v := .int (gM_code v13.2)) (C := R_Mo) (T := T_Mo) (N := 3) hx hb hts wu_Mo hown hK hP 0 rfl rfl 2 (by decide) (hts _ wf_Mo_16) (fun _ h9 => h9) rfl d_Mo_login_126 ?_
            refine lv_if_ne (tgt := 152) hx hb d_Mo_login_129 (by decide) (fun _ => ?_) (fun c9 => absurd c9 c14)
            refine lv_iconst (v := 0) hx hb d_Mo_login_152 (by decide) ?_
            cases h
            exact W.iret hx hb hr (fun t ht hW => ⟨⟨_, (), rfl, rfl, ka_at ht hP⟩, hS.F ht⟩) hS.2.2 d_Mo_login_153 hlk
          replace h := zo_t c14 h
          refine lv_aload_n hx hb d_Mo_login_102 rfl (lv_at hl 3 rfl) ?_
          refine lv_aload_n hx hb d_Mo_login_103 rfl (lv_at hl 3 rfl) ?_
          refine lv_iload_n hx hb d_Mo_login_104 rfl (lv_at hl 4 rfl) ?_
          refine lv_bipush (v := 6) hx hb d_Mo_login_105 (by decide) ?_
          obtain ⟨v15, e9, h⟩ := zo_b h
          refine ka_i (va_runV (As := [.int x1, .int 6]) (rest := [.ref (A 60)]) S9 (c_Mo_at l hl9 D A r _ v13.2 x1 6 _ e9) (cwV 2 hts (tg_V wl_Mo_32 wm_Mo_at we_Mo_at wi_Mo wo_Mo_at) rfl rfl rfl wq_Mo_at ⟨Nat.le_of_ble_eq_true rfl, Nat.le_of_ble_eq_true rfl⟩) (ka_preV X9 hP hD hS 0 rfl rfl) rfl rfl hl.1 rfl (lv_room (Nat.le_of_ble_eq_true rfl)) d_Mo_login_107 ⟨Nat.le_of_ble_eq_true rfl, Nat.le_of_ble_eq_true rfl⟩) X9 hD hS rfl (fun H locs hP hD hS => ?_)
          refine lv_iload hx hb d_Mo_login_110 (lv_at hl 2 rfl) ?_
          refine lv_iload hx hb d_Mo_login_112 (lv_at hl 1 rfl) ?_
          refine lv_iconst (v := 3) hx hb d_Mo_login_114 (by decide) ?_
          refine lv_iconst (v := 3) hx hb d_Mo_login_115 (by decide) ?_
          obtain ⟨v16, e9, h⟩ := zo_b h
          refine ka_i (va_runV (As := [.int v15, .int v10, .int v11, .int 3, .int 3]) (rest := []) S9 (c_Mo_both l hl9 D A r _ v13.2 v15 v10 v11 3 3 _ e9) (cwV 5 hts (tg_V wl_Mo_119 wm_Mo_both we_Mo_both wi_Mo wo_Mo_both) rfl rfl rfl wq_Mo_both ⟨Nat.le_of_ble_eq_true rfl, Nat.le_of_ble_eq_true rfl⟩) (ka_preV X9 hP hD hS 0 rfl rfl) rfl rfl hl.1 rfl (lv_room (Nat.le_of_ble_eq_true rfl)) d_Mo_login_116 ⟨Nat.le_of_ble_eq_true rfl, Nat.le_of_ble_eq_true rfl⟩) X9 hD hS rfl (fun H locs hP hD hS => ?_)
          refine lv_goto (tgt := 123) hx hb d_Mo_login_119 (by decide) ?_
          refine lv_istore (lv' := [(7, .int v16.1), (6, .int v13.1), (5, .int v11), (4, .int v10), (0, .ref (A 60)), (1, .int x1), (2, .int x2), (3, .int x3)]) hx hb d_Mo_login_123 hl (by decide) rfl (fun ls hl => ?_)
          refine lv_aload_n hx hb d_Mo_login_125 rfl (lv_at hl 4 rfl) ?_
          refine va_get (D := D) (ci := 5) (v := .int (gM_code v16.2)) (C := R_Mo) (T := T_Mo) (N := 3) hx hb hts wu_Mo hown hK hP 0 rfl rfl 2 (by decide) (hts _ wf_Mo_16) (fun _ h9 => h9) rfl d_Mo_login_126 ?_
          refine lv_if_ne (tgt := 152) hx hb d_Mo_login_129 (by decide) (fun c17 => ?_) (fun c17 => ?_)
          · replace h := zo_f c17 h
            refine lv_iconst (v := 0) hx hb d_Mo_login_152 (by decide) ?_
            cases h
            exact W.iret hx hb hr (fun t ht hW => ⟨⟨_, (), rfl, rfl, ka_at ht hP⟩, hS.F ht⟩) hS.2.2 d_Mo_login_153 hlk
          replace h := zo_t c17 h
          refine lv_aload_n hx hb d_Mo_login_132 rfl (lv_at hl 4 rfl) ?_
          refine lv_iload_n hx hb d_Mo_login_133 rfl (lv_at hl 5 rfl) ?_
          refine lv_iconst (v := 1) hx hb d_Mo_login_134 (by decide) ?_
          refine lv_aload_n hx hb d_Mo_login_135 rfl (lv_at hl 4 rfl) ?_
          refine lv_iload_n hx hb d_Mo_login_136 rfl (lv_at hl 6 rfl) ?_
          refine lv_bipush (v := 6) hx hb d_Mo_login_137 (by decide) ?_
          obtain ⟨v18, e9, h⟩ := zo_b h
          refine ka_i (va_runV (As := [.int x2, .int 6]) (rest := [.int 1, .int x1, .ref (A 60)]) S9 (c_Mo_of l hl9 D A r _ v16.2 x2 6 _ e9) (cwV 2 hts (tg_V wl_Mo_116 wm_Mo_of we_Mo_of wi_Mo wo_Mo_of) rfl rfl rfl wq_Mo_of ⟨Nat.le_of_ble_eq_true rfl, Nat.le_of_ble_eq_true rfl⟩) (ka_preV X9 hP hD hS 0 rfl rfl) rfl rfl hl.1 rfl (lv_room (Nat.le_of_ble_eq_true rfl)) d_Mo_login_139 ⟨Nat.le_of_ble_eq_true rfl, Nat.le_of_ble_eq_true rfl⟩) X9 hD hS rfl (fun H locs hP hD hS => ?_)
          refine lv_iload hx hb d_Mo_login_142 (lv_at hl 1 rfl) ?_
          refine lv_iload hx hb d_Mo_login_144 (lv_at hl 0 rfl) ?_
          obtain ⟨v19, e9, h⟩ := zo_b h
          refine ka_i (va_runV (As := [.int x1, .int 1, .int v18, .int v13.1, .int v16.1]) (rest := []) S9 (c_Mo_go l hl9 D A r _ v16.2 x1 1 v18 v13.1 v16.1 _ e9) (cwV 5 hts (tg_V wl_Mo_113 wm_Mo_go we_Mo_go wi_Mo wo_Mo_go) rfl rfl rfl wq_Mo_go ⟨Nat.le_of_ble_eq_true rfl, Nat.le_of_ble_eq_true rfl⟩) (ka_preV X9 hP hD hS 0 rfl rfl) rfl rfl hl.1 rfl (lv_room (Nat.le_of_ble_eq_true rfl)) d_Mo_login_146 ⟨Nat.le_of_ble_eq_true rfl, Nat.le_of_ble_eq_true rfl⟩) X9 hD hS rfl (fun H locs hP hD hS => ?_)
          refine lv_goto (tgt := 153) hx hb d_Mo_login_149 (by decide) ?_
          cases h
          exact W.iret hx hb hr (fun t ht hW => ⟨⟨_, (), rfl, rfl, ka_at ht hP⟩, hS.F ht⟩) hS.2.2 d_Mo_login_153 hlk
        replace h := zo_t c9 h
        refine lv_iconst (v := 0) hx hb d_Mo_login_59 (by decide) ?_
        cases h
        exact W.iret hx hb hr (fun t ht hW => ⟨⟨_, (), rfl, rfl, ka_at ht hP⟩, hS.F ht⟩) hS.2.2 d_Mo_login_60 hlk
      replace h := zo_f c7 h
      refine lv_aload_n hx hb d_Mo_login_45 rfl (lv_at hl 0 rfl) ?_
      refine lv_iconst (v := 3) hx hb d_Mo_login_46 (by decide) ?_
      obtain ⟨v20, e9, h⟩ := zo_b h
      refine ka_i (va_runV (As := [.int 3]) (rest := []) S9 (c_Mo_fail l hl9 D A r _ u1 3 _ e9) (cwV 1 hts (tg_V wl_Mo_51 wm_Mo_fail we_Mo_fail wi_Mo wo_Mo_fail) rfl rfl rfl wq_Mo_fail ⟨Nat.le_of_ble_eq_true rfl, Nat.le_of_ble_eq_true rfl⟩) (ka_preV X9 hP hD hS 0 rfl rfl) rfl rfl hl.1 rfl (lv_room (Nat.le_of_ble_eq_true rfl)) d_Mo_login_47 ⟨Nat.le_of_ble_eq_true rfl, Nat.le_of_ble_eq_true rfl⟩) X9 hD hS rfl (fun H locs hP hD hS => ?_)
      cases h
      exact W.iret hx hb hr (fun t ht hW => ⟨⟨_, (), rfl, rfl, ka_at ht hP⟩, hS.F ht⟩) hS.2.2 d_Mo_login_50 hlk
    replace h := zo_t c5 h
    refine lv_aload_n hx hb d_Mo_login_29 rfl (lv_at hl 0 rfl) ?_
    refine lv_iconst (v := 2) hx hb d_Mo_login_30 (by decide) ?_
    obtain ⟨v21, e9, h⟩ := zo_b h
    refine ka_i (va_runV (As := [.int 2]) (rest := []) S9 (c_Mo_fail l hl9 D A r _ u1 2 _ e9) (cwV 1 hts (tg_V wl_Mo_51 wm_Mo_fail we_Mo_fail wi_Mo wo_Mo_fail) rfl rfl rfl wq_Mo_fail ⟨Nat.le_of_ble_eq_true rfl, Nat.le_of_ble_eq_true rfl⟩) (ka_preV X9 hP hD hS 0 rfl rfl) rfl rfl hl.1 rfl (lv_room (Nat.le_of_ble_eq_true rfl)) d_Mo_login_31 ⟨Nat.le_of_ble_eq_true rfl, Nat.le_of_ble_eq_true rfl⟩) X9 hD hS rfl (fun H locs hP hD hS => ?_)
    cases h
    exact W.iret hx hb hr (fun t ht hW => ⟨⟨_, (), rfl, rfl, ka_at ht hP⟩, hS.F ht⟩) hS.2.2 d_Mo_login_34 hlk
  replace h := zo_t c3 h
  refine lv_aload_n hx hb d_Mo_login_14 rfl (lv_at hl 0 rfl) ?_
  refine lv_iconst (v := 1) hx hb d_Mo_login_15 (by decide) ?_
  obtain ⟨v22, e9, h⟩ := zo_b h
  refine ka_i (va_runV (As := [.int 1]) (rest := []) S9 (c_Mo_fail l hl9 D A r _ u1 1 _ e9) (cwV 1 hts (tg_V wl_Mo_51 wm_Mo_fail we_Mo_fail wi_Mo wo_Mo_fail) rfl rfl rfl wq_Mo_fail ⟨Nat.le_of_ble_eq_true rfl, Nat.le_of_ble_eq_true rfl⟩) (ka_preV X9 hP hD hS 0 rfl rfl) rfl rfl hl.1 rfl (lv_room (Nat.le_of_ble_eq_true rfl)) d_Mo_login_16 ⟨Nat.le_of_ble_eq_true rfl, Nat.le_of_ble_eq_true rfl⟩) X9 hD hS rfl (fun H locs hP hD hS => ?_)
  cases h
  exact W.iret hx hb hr (fun t ht hW => ⟨⟨_, (), rfl, rfl, ka_at ht hP⟩, hS.F ht⟩) hS.2.2 d_Mo_login_19 hlk
