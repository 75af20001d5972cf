def f_Lb_has (σ : KS) (x1 : Int32) : Option (Int32) := if x1 < 0 then (some 0) else (if (gN_size σ) ≤ x1 then (some 0) else (some 1))
set_option maxRecDepth 100000 in
set_option maxHeartbeats 4000000 in
theorem c_Lb_has (l : Launch) (hl9 : l.stackTraces = false) (D : va_G) (A : Nat → Nat) (r : va_W) (sz : Nat) (σ : KS) (x1 : Int32) (z : Int32) (h : f_Lb_has σ x1 = some z) : Met l y_Lb_has (Cond.code y_Lb_has b_Lb_has 2 (some .boolean) :: T0) ({ frames := 0, cells := 0, slots := 0, locals := 0 } : Room) (va_Pc [.ref (A 2), .int x1] (ka_Wd D A (GW A σ r) sz)) (ka_Ri D z (GW A σ r) (va_A (GW A σ r) sz)) 0 0 (va_A (GW A σ r) sz) := by
  unfold f_Lb_has at h
  refine ka_of (own := R_Lb) (fun A9 => ka_Ri D z (GW A σ r) A9) (by decide) rfl (Nat.le_of_ble_eq_true rfl) ?_
  intro p e s m below meth c A9 ls S9 hr hlk hex X9 hP hD hl
  obtain ⟨hx, hb, hml, hown, hts⟩ := id S9
  have hK := X9.2.1
  have hS : va_S A9 s.heap s.heap [] := va_S.rf
  replace hl : lv_has ls 2 [(0, .ref (A 2)), (1, .int x1)] := hl
  refine lv_iload_n hx hb d_Lb_has_0 rfl (lv_at hl 1 rfl) ?_
  refine lv_if_lt (tgt := 16) hx hb d_Lb_has_1 (by decide) (fun c1 => ?_) (fun c1 => ?_)
  · replace h := zo_t c1 h
    refine lv_iconst (v := 0) hx hb d_Lb_has_16 (by decide) ?_
    cases h
    exact W.zret hx hb hr (by decide) (fun t ht hW => ⟨⟨_, (), rfl, rfl, ka_at ht hP⟩, hS.F ht⟩) hS.2.2 d_Lb_has_17 hlk
  replace h := zo_f c1 h
  refine lv_iload_n hx hb d_Lb_has_4 rfl (lv_at hl 1 rfl) ?_
  refine lv_aload_n hx hb d_Lb_has_5 rfl (lv_at hl 0 rfl) ?_
  refine va_get (D := D) (ci := 0) (v := .int (gN_size σ)) (C := R_Lb) (T := T_Lb) (N := 2) hx hb hts wu_Lb hown hK hP 2 rfl rfl 1 (by decide) (hts _ wf_Lb_17) (fun _ h9 => h9) rfl d_Lb_has_6 ?_
  refine lv_icmp_ge (tgt := 16) hx hb d_Lb_has_9 (by decide) (fun c2 => ?_) (fun c2 => ?_)
  · replace h := zo_t c2 h
    refine lv_iconst (v := 0) hx hb d_Lb_has_16 (by decide) ?_
    cases h
    exact W.zret hx hb hr (by decide) (fun t ht hW => ⟨⟨_, (), rfl, rfl, ka_at ht hP⟩, hS.F ht⟩) hS.2.2 d_Lb_has_17 hlk
  replace h := zo_f c2 h
  refine lv_iconst (v := 1) hx hb d_Lb_has_12 (by decide) ?_
  refine lv_goto (tgt := 17) hx hb d_Lb_has_13 (by decide) ?_
  cases h
  exact W.zret hx hb hr (by decide) (fun t ht hW => ⟨⟨_, (), rfl, rfl, ka_at ht hP⟩, hS.F ht⟩) hS.2.2 d_Lb_has_17 hlk
def f_Lb_changed (σ : KS) (x1 x2 x3 : Int32) : Option (Int32) := if x1 < 0 ∨ 60 ≤ (x1).toNatClampNeg then none else some (((gN_packed σ (x1).toNatClampNeg) &&& ((15 <<< ((4 * x2) &&& 31)) ^^^ (-1))) ||| (x3 <<< ((4 * x2) &&& 31)))
set_option maxRecDepth 100000 in
set_option maxHeartbeats 4000000 in
theorem c_Lb_changed (l : Launch) (hl9 : l.stackTraces = false) (D : va_G) (A : Nat → Nat) (r : va_W) (sz : Nat) (σ : KS) (x1 x2 x3 : Int32) (z : Int32) (h : f_Lb_changed σ x1 x2 x3 = some z) : Met l y_Lb_changed (Cond.code y_Lb_changed b_Lb_changed 5 (some .int) :: T0) ({ frames := 0, cells := 0, slots := 0, locals := 0 } : Room) (va_Pc [.ref (A 2), .int x1, .int x2, .int x3] (ka_Wd D A (GW A σ r) sz)) (ka_Ri D z (GW A σ r) (va_A (GW A σ r) sz)) 0 0 (va_A (GW A σ r) sz) := by
  unfold f_Lb_changed at h
  refine ka_of (own := R_Lb) (fun A9 => ka_Ri D z (GW A σ r) A9) (by decide) rfl (Nat.le_of_ble_eq_true rfl) ?_
  intro p e s m below meth c A9 ls S9 hr hlk hex X9 hP hD hl
  obtain ⟨hx, hb, hml, hown, hts⟩ := id S9
  have hK := X9.2.1
  have hS : va_S A9 s.heap s.heap [] := va_S.rf
  replace hl : lv_has ls 5 [(0, .ref (A 2)), (1, .int x1), (2, .int x2), (3, .int x3)] := hl
  refine lv_iconst (v := 4) hx hb d_Lb_changed_0 (by decide) ?_
  refine lv_iload_n hx hb d_Lb_changed_1 rfl (lv_at hl 2 rfl) ?_
  refine lv_imul hx hb d_Lb_changed_2 ?_
  refine lv_istore (lv' := [(4, .int (4 * x2)), (0, .ref (A 2)), (1, .int x1), (2, .int x2), (3, .int x3)]) hx hb d_Lb_changed_3 hl (by decide) rfl (fun ls hl => ?_)
  refine lv_aload_n hx hb d_Lb_changed_5 rfl (lv_at hl 1 rfl) ?_
  refine va_get (D := D) (ci := 0) (v := .ref (A 3)) (C := R_Lb) (T := T_Lb) (N := 2) hx hb hts wu_Lb hown hK hP 2 rfl rfl 0 (by decide) (hts _ wf_Lb_9) (fun _ h9 => h9) rfl d_Lb_changed_6 ?_
  refine lv_iload_n hx hb d_Lb_changed_9 rfl (lv_at hl 2 rfl) ?_
  obtain ⟨i9, h⟩ := zo_i h
  refine va_iald hx hb hK hP 3 0 rfl rfl i9 d_Lb_changed_10 ?_
  refine lv_bipush (v := 15) hx hb d_Lb_changed_11 (by decide) ?_
  refine lv_iload hx hb d_Lb_changed_13 (lv_at hl 0 rfl) ?_
  refine lv_ishl hx hb d_Lb_changed_15 ?_
  refine lv_iconst (v := (-1)) hx hb d_Lb_changed_16 (by decide) ?_
  refine lv_ixor hx hb d_Lb_changed_17 ?_
  refine lv_iand hx hb d_Lb_changed_18 ?_
  refine lv_iload_n hx hb d_Lb_changed_19 rfl (lv_at hl 4 rfl) ?_
  refine lv_iload hx hb d_Lb_changed_20 (lv_at hl 0 rfl) ?_
  refine lv_ishl hx hb d_Lb_changed_22 ?_
  refine lv_ior hx hb d_Lb_changed_23 ?_
  cases h
  exact W.iret hx hb hr (fun t ht hW => ⟨⟨_, (), rfl, rfl, ka_at ht hP⟩, hS.F ht⟩) hS.2.2 d_Lb_changed_24 hlk
def f_Lb_indexOf_L2 (σ : KS) : Nat → Int32 → Int32 → Option (Int32)
  | 0, _, _ => none
  | n + 1, y1, y2 => if (gN_size σ) ≤ y2 then (some (-1)) else (if y2 < 0 ∨ 60 ≤ (y2).toNatClampNeg then none else if (gN_packed σ (y2).toNatClampNeg) = y1 then (some y2) else (f_Lb_indexOf_L2 σ n y1 (y2 + 1)))
def f_Lb_indexOf (σ : KS) (x1 : Int32) : Option (Int32) := f_Lb_indexOf_L2 σ 100 x1 0
set_option maxRecDepth 100000 in
set_option maxHeartbeats 4000000 in
theorem c_Lb_indexOf (l : Launch) (hl9 : l.stackTraces = false) (D : va_G) (A : Nat → Nat) (r : va_W) (sz : Nat) (σ : KS) (x1 : Int32) (z : Int32) (h : f_Lb_indexOf σ x1 = some z) : Met l y_Lb_indexOf (Cond.code y_Lb_indexOf b_Lb_indexOf 3 (some .int) :: T0) ({ frames := 0, cells := 0, slots := 0, locals := 0 } : Room) (va_Pc [.ref (A 2), .int x1] (ka_Wd D A (GW A σ r) sz)) (ka_Ri D z (GW A σ r) (va_A (GW A σ r) sz)) 0 0 (va_A (GW A σ r) sz) := by
  unfold f_Lb_indexOf at h
  refine ka_of (own := R_Lb) (fun A9 => ka_Ri D z (GW A σ r) A9) (by decide) rfl (Nat.le_of_ble_eq_true rfl) ?_
  intro p e s m below meth c A9 ls S9 hr hlk hex X9 hP hD hl
  obtain ⟨hx, hb, hml, hown, hts⟩ := id S9
  have hK := X9.2.1
  have hS : va_S A9 s.heap s.heap [] := va_S.rf
  replace hl : lv_has ls 3 [(0, .ref (A 2)), (1, .int x1)] := hl
  have L2 : ∀ (n : Nat) (y1 y2 : Int32) (H : Heap) (locs : List Loc) (ls : Array Slot), f_Lb_indexOf_L2 σ n y1 y2 = some z → va_P D vwCl (GW A σ r) H → va_D A9 (GW A σ r) → va_S A9 s.heap H locs → lv_has ls 3 [(0, .ref (A 2)), (1, .int y1), (2, .int y2)] → W p l e ({ frames := 0, cells := 0, slots := 0, locals := 0 } : Room) s m [.ref (A 2), .int x1].toArray below meth c H locs 0 0 (MQ below (ka_Ri D z (GW A σ r) A9) [.ref (A 2), .int x1].toArray s 0 0 A9) (F0 m 2 ls []) := by
    intro n
    induction n with
    | zero => intro y1 y2 H locs ls h; cases h
    | succ n ih2 =>
      intro y1 y2 H locs ls h hP hD hS hl
      rw [f_Lb_indexOf_L2] at h
      refine lv_iload_n hx hb d_Lb_indexOf_2 rfl (lv_at hl 2 rfl) ?_
      refine lv_aload_n hx hb d_Lb_indexOf_3 rfl (lv_at hl 0 rfl) ?_
      refine va_get (D := D) (ci := 0) (v := .int (gN_size σ)) (C := R_Lb) (T := T_Lb) (N := 2) hx hb hts wu_Lb hown hK hP 2 rfl rfl 1 (by decide) (hts _ wf_Lb_17) (fun _ h9 => h9) rfl d_Lb_indexOf_4 ?_
      refine lv_icmp_ge (tgt := 28) hx hb d_Lb_indexOf_7 (by decide) (fun c1 => ?_) (fun c1 => ?_)
      · replace h := zo_t c1 h
        refine lv_iconst (v := (-1)) hx hb d_Lb_indexOf_28 (by decide) ?_
        cases h
        exact W.iret hx hb hr (fun t ht hW => ⟨⟨_, (), rfl, rfl, ka_at ht hP⟩, hS.F ht⟩) hS.2.2 d_Lb_indexOf_29 hlk
      replace h := zo_f c1 h
      refine lv_aload_n hx hb d_Lb_indexOf_10 rfl (lv_at hl 0 rfl) ?_
      refine va_get (D := D) (ci := 0) (v := .ref (A 3)) (C := R_Lb) (T := T_Lb) (N := 2) hx hb hts wu_Lb hown hK hP 2 rfl rfl 0 (by decide) (hts _ wf_Lb_9) (fun _ h9 => h9) rfl d_Lb_indexOf_11 ?_
      refine lv_iload_n hx hb d_Lb_indexOf_14 rfl (lv_at hl 2 rfl) ?_
      obtain ⟨i9, h⟩ := zo_i h
      refine va_iald hx hb hK hP 3 0 rfl rfl i9 d_Lb_indexOf_15 ?_
      refine lv_iload_n hx hb d_Lb_indexOf_16 rfl (lv_at hl 1 rfl) ?_
      refine lv_icmp_ne (tgt := 22) hx hb d_Lb_indexOf_17 (by decide) (fun c2 => ?_) (fun c2 => ?_)
      · replace h := zo_f c2 h
        refine lv_iinc (v := y2 + 1) (lv' := [(2, .int (y2 + 1)), (0, .ref (A 2)), (1, .int y1)]) hx hb d_Lb_indexOf_22 hl (k := 2) rfl rfl (by decide) rfl (fun ls hl => ?_)
        refine lv_goto (tgt := 2) hx hb d_Lb_indexOf_25 (by decide) ?_
        exact ih2 y1 (y2 + 1) _ _ _ h hP hD hS (lv_sub hl [1, 2, 0] rfl)
      replace h := zo_t c2 h
      refine lv_iload_n hx hb d_Lb_indexOf_20 rfl (lv_at hl 2 rfl) ?_
      cases h
      exact W.iret hx hb hr (fun t ht hW => ⟨⟨_, (), rfl, rfl, ka_at ht hP⟩, hS.F ht⟩) hS.2.2 d_Lb_indexOf_21 hlk
  refine lv_iconst (v := 0) hx hb d_Lb_indexOf_0 (by decide) ?_
  refine lv_istore_n (lv' := [(2, .int 0), (0, .ref (A 2)), (1, .int x1)]) hx hb d_Lb_indexOf_1 rfl hl (by decide) rfl (fun ls hl => ?_)
  exact L2 100 x1 0 _ _ _ h hP hD hS (lv_sub hl [1, 2, 0] rfl)
def f_Lb_missing (σ : KS) (x1 : Int32) : Option (Int32) := (f_Lb_indexOf σ x1).bind fun v1 => if v1 = (-1) then (some 1) else (some 0)
set_option maxRecDepth 100000 in
set_option maxHeartbeats 4000000 in
theorem c_Lb_missing (l : Launch) (hl9 : l.stackTraces = false) (D : va_G) (A : Nat → Nat) (r : va_W) (sz : Nat) (σ : KS) (x1 : Int32) (z : Int32) (h : f_Lb_missing σ x1 = some z) : Met l y_Lb_missing (Cond.code y_Lb_missing b_Lb_missing 2 (some .int) :: T0) ({ frames := 1, cells := 0, slots := 0, locals := 22 } : Room) (va_Pc [.ref (A 2), .int x1] (ka_Wd D A (GW A σ r) sz)) (ka_Ri D z (GW A σ r) (va_A (GW A σ r) sz)) 0 0 (va_A (GW A σ r) sz) := by
  unfold f_Lb_missing at h
  refine ka_of (own := R_Lb) (fun A9 => ka_Ri D z (GW A σ r) A9) (by decide) rfl (Nat.le_of_ble_eq_true rfl) ?_
  intro p e s m below meth c A9 ls S9 hr hlk hex X9 hP hD hl
  obtain ⟨hx, hb, hml, hown, hts⟩ := id S9
  have hK := X9.2.1
  have hS : va_S A9 s.heap s.heap [] := va_S.rf
  replace hl : lv_has ls 2 [(0, .ref (A 2)), (1, .int x1)] := hl
  refine lv_aload_n hx hb d_Lb_missing_0 rfl (lv_at hl 0 rfl) ?_
  refine lv_iload_n hx hb d_Lb_missing_1 rfl (lv_at hl 1 rfl) ?_
  obtain ⟨v1, e9, h⟩ := zo_b h
  refine ka_i (va_runV (As := [.int x1]) (rest := []) S9 (c_Lb_indexOf l hl9 D A r _ σ x1 _ e9) (cwV 1 hts (tg_V wl_Lb_44 wm_Lb_indexOf we_Lb_indexOf wi_Lb wo_Lb_indexOf) rfl rfl rfl wq_Lb_indexOf ⟨Nat.le_of_ble_eq_true rfl, Nat.le_of_ble_eq_true rfl⟩) (ka_preV X9 hP hD hS 2 rfl rfl) rfl rfl hl.1 rfl (lv_room (Nat.le_of_ble_eq_true rfl)) d_Lb_missing_2 ⟨Nat.le_of_ble_eq_true rfl, Nat.le_of_ble_eq_true rfl⟩) X9 hD hS rfl (fun H locs hP hD hS => ?_)
  refine lv_iconst (v := (-1)) hx hb d_Lb_missing_5 (by decide) ?_
  refine lv_icmp_ne (tgt := 13) hx hb d_Lb_missing_6 (by decide) (fun c2 => ?_) (fun c2 => ?_)
  · replace h := zo_f c2 h
    refine lv_iconst (v := 0) hx hb d_Lb_missing_13 (by decide) ?_
    cases h
    exact W.iret hx hb hr (fun t ht hW => ⟨⟨_, (), rfl, rfl, ka_at ht hP⟩, hS.F ht⟩) hS.2.2 d_Lb_missing_14 hlk
  replace h := zo_t c2 h
  refine lv_iconst (v := 1) hx hb d_Lb_missing_9 (by decide) ?_
  refine lv_goto (tgt := 14) hx hb d_Lb_missing_10 (by decide) ?_
  cases h
  exact W.iret hx hb hr (fun t ht hW => ⟨⟨_, (), rfl, rfl, ka_at ht hP⟩, hS.F ht⟩) hS.2.2 d_Lb_missing_14 hlk
def f_Lb_free (σ : KS) : Option (Int32) := some (60 - (gN_size σ))
set_option maxRecDepth 100000 in
set_option maxHeartbeats 4000000 in
theorem c_Lb_free (l : Launch) (hl9 : l.stackTraces = false) (D : va_G) (A : Nat → Nat) (r : va_W) (sz : Nat) (σ : KS) (z : Int32) (h : f_Lb_free σ = some z) : Met l y_Lb_free (Cond.code y_Lb_free b_Lb_free 1 (some .int) :: T0) ({ frames := 0, cells := 0, slots := 0, locals := 0 } : Room) (va_Pc [.ref (A 2)] (ka_Wd D A (GW A σ r) sz)) (ka_Ri D z (GW A σ r) (va_A (GW A σ r) sz)) 0 0 (va_A (GW A σ r) sz) := by
  unfold f_Lb_free at h
  refine ka_of (own := R_Lb) (fun A9 => ka_Ri D z (GW A σ r) A9) (by decide) rfl (Nat.le_of_ble_eq_true rfl) ?_
  intro p e s m below meth c A9 ls S9 hr hlk hex X9 hP hD hl
  obtain ⟨hx, hb, hml, hown, hts⟩ := id S9
  have hK := X9.2.1
  have hS : va_S A9 s.heap s.heap [] := va_S.rf
  replace hl : lv_has ls 1 [(0, .ref (A 2))] := hl
  refine lv_bipush (v := 60) hx hb d_Lb_free_0 (by decide) ?_
  refine lv_aload_n hx hb d_Lb_free_2 rfl (lv_at hl 0 rfl) ?_
  refine va_get (D := D) (ci := 0) (v := .int (gN_size σ)) (C := R_Lb) (T := T_Lb) (N := 2) hx hb hts wu_Lb hown hK hP 2 rfl rfl 1 (by decide) (hts _ wf_Lb_17) (fun _ h9 => h9) rfl d_Lb_free_3 ?_
  refine lv_isub hx hb d_Lb_free_6 ?_
  cases h
  exact W.iret hx hb hr (fun t ht hW => ⟨⟨_, (), rfl, rfl, ka_at ht hP⟩, hS.F ht⟩) hS.2.2 d_Lb_free_7 hlk
def f_Lb_numberOf (σ : KS) (x1 : Int32) : Option (Int32 × KS) := (f_Lb_indexOf σ x1).bind fun v1 => if v1 = (-1) then (if 60 ≤ (gN_size σ) then (some (v1, σ)) else (if (gN_size σ) < 0 ∨ 60 ≤ (gN_size σ).toNatClampNeg then none else zl (sN_packed σ (upd (gN_packed σ) (gN_size σ).toNatClampNeg x1)) fun u4 => zl (sN_size u4 ((gN_size u4) + 1)) fun u5 => some (gN_size σ, u5))) else (some (v1, σ))
set_option maxRecDepth 100000 in
set_option maxHeartbeats 4000000 in
theorem c_Lb_numberOf (l : Launch) (hl9 : l.stackTraces = false) (D : va_G) (A : Nat → Nat) (r : va_W) (sz : Nat) (σ : KS) (x1 : Int32) (z : Int32 × KS) (h : f_Lb_numberOf σ x1 = some z) : Met l y_Lb_numberOf (Cond.code y_Lb_numberOf b_Lb_numberOf 3 (some .int) :: T0) ({ frames := 1, cells := 0, slots := 0, locals := 22 } : Room) (va_Pc [.ref (A 2), .int x1] (ka_Wd D A (GW A σ r) sz)) (ka_Ri D z.1 (GW A z.2 r) (va_A (GW A σ r) sz)) 0 0 (va_A (GW A σ r) sz) := by
  unfold f_Lb_numberOf at h
  refine ka_of (own := R_Lb) (fun A9 => ka_Ri D z.1 (GW A z.2 r) A9) (by decide) rfl (Nat.le_of_ble_eq_true rfl) ?_
  intro p e s m below meth c A9 ls S9 hr hlk hex X9 hP hD hl
  obtain ⟨hx, hb, hml, hown, hts⟩ := id S9
  have hK := X9.2.1
  have hS : va_S A9 s.heap s.heap [] := va_S.rf
  replace hl : lv_has ls 3 [(0, .ref (A 2)), (1, .int x1)] := hl
  refine lv_aload_n hx hb d_Lb_numberOf_0 rfl (lv_at hl 0 rfl) ?_
  refine lv_iload_n hx hb d_Lb_numberOf_1 rfl (lv_at hl 1 rfl) ?_
  obtain ⟨v1, e9, h⟩ := zo_b h
  refine ka_i (va_runV (As := [.int x1]) (rest := []) S9 (c_Lb_indexOf l hl9 D A r _ σ x1 _ e9) (cwV 1 hts (tg_V wl_Lb_44 wm_Lb_indexOf we_Lb_indexOf wi_Lb wo_Lb_indexOf) rfl rfl rfl wq_Lb_indexOf ⟨Nat.le_of_ble_eq_true rfl, Nat.le_of_ble_eq_true rfl⟩) (ka_preV X9 hP hD hS 2 rfl rfl) rfl rfl hl.1 rfl (lv_room (Nat.le_of_ble_eq_true rfl)) d_Lb_numberOf_2 ⟨Nat.le_of_ble_eq_true rfl, Nat.le_of_ble_eq_true rfl⟩) X9 hD hS rfl (fun H locs hP hD hS => ?_)
  refine lv_istore_n (lv' := [(2, .int v1), (0, .ref (A 2)), (1, .int x1)]) hx hb d_Lb_numberOf_5 rfl hl (by decide) rfl (fun ls hl => ?_)
  refine lv_iload_n hx hb d_Lb_numberOf_6 rfl (lv_at hl 0 rfl) ?_
  refine lv_iconst (v := (-1)) hx hb d_Lb_numberOf_7 (by decide) ?_
  refine lv_icmp_ne (tgt := 42) hx hb d_Lb_numberOf_8 (by decide) (fun c2 => ?_) (fun c2 => ?_)
  · replace h := zo_f c2 h
    refine lv_iload_n hx hb d_Lb_numberOf_42 rfl (lv_at hl 0 rfl) ?_
    cases h
    exact W.iret hx hb hr (fun t ht hW => ⟨⟨_, (), rfl, rfl, ka_at ht hP⟩, hS.F ht⟩) hS.2.2 d_Lb_numberOf_43 hlk
  replace h := zo_t c2 h
  refine lv_aload_n hx hb d_Lb_numberOf_11 rfl (lv_at hl 1 rfl) ?_
  refine va_get (D := D) (ci := 0) (v := .int (gN_size σ)) (C := R_Lb) (T := T_Lb) (N := 2) hx hb hts wu_Lb hown hK hP 2 rfl rfl 1 (by decide) (hts _ wf_Lb_17) (fun _ h9 => h9) rfl d_Lb_numberOf_12 ?_
  refine lv_bipush (v := 60) hx hb d_Lb_numberOf_15 (by decide) ?_
  refine lv_icmp_ge (tgt := 42) hx hb d_Lb_numberOf_17 (by decide) (fun c3 => ?_) (fun c3 => ?_)
  · replace h := zo_t c3 h
    refine lv_iload_n hx hb d_Lb_numberOf_42 rfl (lv_at hl 0 rfl) ?_
    cases h
    exact W.iret hx hb hr (fun t ht hW => ⟨⟨_, (), rfl, rfl, ka_at ht hP⟩, hS.F ht⟩) hS.2.2 d_Lb_numberOf_43 hlk
  replace h := zo_f c3 h
  refine lv_aload_n hx hb d_Lb_numberOf_20 rfl (lv_at hl 1 rfl) ?_
  refine va_get (D := D) (ci := 0) (v := .int (gN_size σ)) (C := R_Lb) (T := T_Lb) (N := 2) hx hb hts wu_Lb hown hK hP 2 rfl rfl 1 (by decide) (hts _ wf_Lb_17) (fun _ h9 => h9) rfl d_Lb_numberOf_21 ?_
  refine lv_istore_n (lv' := [(2, .int (gN_size σ)), (0, .ref (A 2)), (1, .int x1)]) hx hb d_Lb_numberOf_24 rfl hl (by decide) rfl (fun ls hl => ?_)
  refine lv_aload_n hx hb d_Lb_numberOf_25 rfl (lv_at hl 1 rfl) ?_
  refine va_get (D := D) (ci := 0) (v := .ref (A 3)) (C := R_Lb) (T := T_Lb) (N := 2) hx hb hts wu_Lb hown hK hP 2 rfl rfl 0 (by decide) (hts _ wf_Lb_9) (fun _ h9 => h9) rfl d_Lb_numberOf_26 ?_
  refine lv_iload_n hx hb d_Lb_numberOf_29 rfl (lv_at hl 0 rfl) ?_
  refine lv_iload_n hx hb d_Lb_numberOf_30 rfl (lv_at hl 2 rfl) ?_
  obtain ⟨i9, h⟩ := zo_i h
  obtain ⟨u4, hu9, h⟩ := zo_l h
  refine va_iast hx hb hK hP hD hS 3 0 rfl rfl i9 d_Lb_numberOf_31 (fun H locs hP hD hS => ?_)
  replace hP : va_P D vwCl (GW A u4 r) H := by rw [hu9]; exact hP
  replace hD : va_D A9 (GW A u4 r) := by rw [hu9]; exact hD
  refine lv_aload_n hx hb d_Lb_numberOf_32 rfl (lv_at hl 1 rfl) ?_
  refine lv_dup hx hb d_Lb_numberOf_33 rfl ?_
  refine va_get (D := D) (ci := 0) (v := .int (gN_size u4)) (C := R_Lb) (T := T_Lb) (N := 2) hx hb hts wu_Lb hown hK hP 2 rfl rfl 1 (by decide) (hts _ wf_Lb_17) (fun _ h9 => h9) rfl d_Lb_numberOf_34 ?_
  refine lv_iconst (v := 1) hx hb d_Lb_numberOf_37 (by decide) ?_
  refine lv_iadd hx hb d_Lb_numberOf_38 ?_
  obtain ⟨u5, hu9, h⟩ := zo_l h
  refine va_put (D := D) (ci := 0) (v := .int ((gN_size u4) + 1)) (ty := .int) (C := R_Lb) (T := T_Lb) (N := 2) hx hb hts wu_Lb ft_Lb fk_Lb nm_Lb hown hK hP hD hS 2 rfl rfl 1 (by decide) (hts _ wf_Lb_17) (fun _ h9 => h9) rfl (by decide +kernel) rfl rfl (Nat.le_of_ble_eq_true rfl) d_Lb_numberOf_39 (fun H locs hP hD hS => ?_)
  replace hP : va_P D vwCl (GW A u5 r) H := by rw [hu9]; exact hP
  replace hD : va_D A9 (GW A u5 r) := by rw [hu9]; exact hD
  refine lv_iload_n hx hb d_Lb_numberOf_42 rfl (lv_at hl 0 rfl) ?_
  cases h
  exact W.iret hx hb hr (fun t ht hW => ⟨⟨_, (), rfl, rfl, ka_at ht hP⟩, hS.F ht⟩) hS.2.2 d_Lb_numberOf_43 hlk
def f_Lb_levelAt (σ : KS) (x1 x2 : Int32) : Option (Int32) := if x1 < 0 ∨ 60 ≤ (x1).toNatClampNeg then none else some ((zo_ushr (gN_packed σ (x1).toNatClampNeg) (4 * x2)) &&& 15)
set_option maxRecDepth 100000 in
set_option maxHeartbeats 4000000 in
theorem c_Lb_levelAt (l : Launch) (hl9 : l.stackTraces = false) (D : va_G) (A : Nat → Nat) (r : va_W) (sz : Nat) (σ : KS) (x1 x2 : Int32) (z : Int32) (h : f_Lb_levelAt σ x1 x2 = some z) : Met l y_Lb_levelAt (Cond.code y_Lb_levelAt b_Lb_levelAt 3 (some .int) :: T0) ({ frames := 0, cells := 0, slots := 0, locals := 0 } : Room) (va_Pc [.ref (A 2), .int x1, .int x2] (ka_Wd D A (GW A σ r) sz)) (ka_Ri D z (GW A σ r) (va_A (GW A σ r) sz)) 0 0 (va_A (GW A σ r) sz) := by
  unfold f_Lb_levelAt at h
  refine ka_of (own := R_Lb) (fun A9 => ka_Ri D z (GW A σ r) A9) (by decide) rfl (Nat.le_of_ble_eq_true rfl) ?_
  intro p e s m below meth c A9 ls S9 hr hlk hex X9 hP hD hl
  obtain ⟨hx, hb, hml, hown, hts⟩ := id S9
  have hK := X9.2.1
  have hS : va_S A9 s.heap s.heap [] := va_S.rf
  replace hl : lv_has ls 3 [(0, .ref (A 2)), (1, .int x1), (2, .int x2)] := hl
  refine lv_aload_n hx hb d_Lb_levelAt_0 rfl (lv_at hl 0 rfl) ?_
  refine va_get (D := D) (ci := 0) (v := .ref (A 3)) (C := R_Lb) (T := T_Lb) (N := 2) hx hb hts wu_Lb hown hK hP 2 rfl rfl 0 (by decide) (hts _ wf_Lb_9) (fun _ h9 => h9) rfl d_Lb_levelAt_1 ?_
  refine lv_iload_n hx hb d_Lb_levelAt_4 rfl (lv_at hl 1 rfl) ?_
  obtain ⟨i9, h⟩ := zo_i h
  refine va_iald hx hb hK hP 3 0 rfl rfl i9 d_Lb_levelAt_5 ?_
  refine lv_iconst (v := 4) hx hb d_Lb_levelAt_6 (by decide) ?_
  refine lv_iload_n hx hb d_Lb_levelAt_7 rfl (lv_at hl 2 rfl) ?_
  refine lv_imul hx hb d_Lb_levelAt_8 ?_
  refine lv_iushr (v := zo_ushr (gN_packed σ (x1).toNatClampNeg) (4 * x2)) hx hb d_Lb_levelAt_9 rfl ?_
  refine lv_bipush (v := 15) hx hb d_Lb_levelAt_10 (by decide) ?_
  refine lv_iand hx hb d_Lb_levelAt_12 ?_
  cases h
  exact W.iret hx hb hr (fun t ht hW => ⟨⟨_, (), rfl, rfl, ka_at ht hP⟩, hS.F ht⟩) hS.2.2 d_Lb_levelAt_13 hlk
def f_Lb_low (x0 : Int32) : Option (Int32) := if x0 = 4 then (some (-1)) else (some x0)
set_option maxRecDepth 100000 in
set_option maxHeartbeats 4000000 in
theorem c_Lb_low (l : Launch) (hl9 : l.stackTraces = false) (D : va_G) (A : Nat → Nat) (w : va_W) (sz : Nat) (x0 : Int32) (z : Int32) (h : f_Lb_low x0 = some z) : Met l y_Lb_low (Cond.code y_Lb_low b_Lb_low 1 (some .int) :: T0) ({ frames := 0, cells := 0, slots := 0, locals := 0 } : Room) (va_Pc [.int x0] (ka_Wd D A (w) sz)) (ka_Ri D z (w) (va_A (w) sz)) 0 0 (va_A (w) sz) := by
  unfold f_Lb_low at h
  refine ka_of (own := R_Lb) (fun A9 => ka_Ri D z (w) A9) (by decide) rfl (Nat.le_of_ble_eq_true rfl) ?_
  intro p e s m below meth c A9 ls S9 hr hlk hex X9 hP hD hl
  obtain ⟨hx, hb, hml, hown, hts⟩ := id S9
  have hK := X9.2.1
  have hS : va_S A9 s.heap s.heap [] := va_S.rf
  replace hl : lv_has ls 1 [(0, .int x0)] := hl
  refine lv_iload_n hx hb d_Lb_low_0 rfl (lv_at hl 0 rfl) ?_
  refine lv_iconst (v := 4) hx hb d_Lb_low_1 (by decide) ?_
  refine lv_icmp_ne (tgt := 9) hx hb d_Lb_low_2 (by decide) (fun c1 => ?_) (fun c1 => ?_)
  · replace h := zo_f c1 h
    refine lv_iload_n hx hb d_Lb_low_9 rfl (lv_at hl 0 rfl) ?_
    cases h
    exact W.iret hx hb hr (fun t ht hW => ⟨⟨_, (), rfl, rfl, ka_at ht hP⟩, hS.F ht⟩) hS.2.2 d_Lb_low_10 hlk
  replace h := zo_t c1 h
  refine lv_iconst (v := (-1)) hx hb d_Lb_low_5 (by decide) ?_
  refine lv_goto (tgt := 10) hx hb d_Lb_low_6 (by decide) ?_
  cases h
  exact W.iret hx hb hr (fun t ht hW => ⟨⟨_, (), rfl, rfl, ka_at ht hP⟩, hS.F ht⟩) hS.2.2 d_Lb_low_10 hlk
def f_Lb_fitsUnder_L2 (σ : KS) : Nat → Int32 → Int32 → Int32 → Option (Int32)
  | 0, _, _, _ => none
  | n + 1, y1, y2, y3 => if 8 ≤ y3 then (some 1) else ((f_Lb_levelAt σ y1 y3).bind fun v2 => (f_Lb_low v2).bind fun v3 => (f_Lb_levelAt σ y2 y3).bind fun v4 => (f_Lb_low v4).bind fun v5 => if v3 ≤ v5 then (f_Lb_fitsUnder_L2 σ n y1 y2 (y3 + 1)) else (some 0))
def f_Lb_fitsUnder (σ : KS) (x1 x2 : Int32) : Option (Int32) := f_Lb_fitsUnder_L2 σ 100 x1 x2 0
set_option maxRecDepth 100000 in
set_option maxHeartbeats 4000000 in
theorem c_Lb_fitsUnder (l : Launch) (hl9 : l.stackTraces = false) (D : va_G) (A : Nat → Nat) (r : va_W) (sz : Nat) (σ : KS) (x1 x2 : Int32) (z : Int32) (h : f_Lb_fitsUnder σ x1 x2 = some z) : Met l y_Lb_fitsUnder (Cond.code y_Lb_fitsUnder b_Lb_fitsUnder 4 (some .boolean) :: T0) ({ frames := 1, cells := 0, slots := 0, locals := 22 } : Room) (va_Pc [.ref (A 2), .int x1, .int x2] (ka_Wd D A (GW A σ r) sz)) (ka_Ri D z (GW A σ r) (va_A (GW A σ r) sz)) 0 0 (va_A (GW A σ r) sz) := by
  unfold f_Lb_fitsUnder at h
  refine ka_of (own := R_Lb) (fun A9 => ka_Ri D z (GW A σ r) A9) (by decide) rfl (Nat.le_of_ble_eq_true rfl) ?_
  intro p e s m below meth c A9 ls S9 hr hlk hex X9 hP hD hl
  obtain ⟨hx, hb, hml, hown, hts⟩ := id S9
  have hK := X9.2.1
  have hS : va_S A9 s.heap s.heap [] := va_S.rf
  replace hl : lv_has ls 4 [(0, .ref (A 2)), (1, .int x1), (2, .int x2)] := hl
  have L2 : ∀ (n : Nat) (y1 y2 y3 : Int32) (H : Heap) (locs : List Loc) (ls : Array Slot), f_Lb_fitsUnder_L2 σ n y1 y2 y3 = some z → va_P D vwCl (GW A σ r) H → va_D A9 (GW A σ r) → va_S A9 s.heap H locs → lv_has ls 4 [(0, .ref (A 2)), (1, .int y1), (2, .int y2), (3, .int y3)] → W p l e ({ frames := 1, cells := 0, slots := 0, locals := 22 } : Room) s m [.ref (A 2), .int x1, .int x2].toArray below meth c H locs 0 0 (MQ below (ka_Ri D z (GW A σ r) A9) [.ref (A 2), .int x1, .int x2].toArray s 0 0 A9) (F0 m 2 ls []) := by
    intro n
    induction n with
    | zero => intro y1 y2 y3 H locs ls h; cases h
    | succ n ih2 =>
      intro y1 y2 y3 H locs ls h hP hD hS hl
      rw [f_Lb_fitsUnder_L2] at h
      refine lv_iload_n hx hb d_Lb_fitsUnder_2 rfl (lv_at hl 3 rfl) ?_
      refine lv_bipush (v := 8) hx hb d_Lb_fitsUnder_3 (by decide) ?_
      refine lv_icmp_ge (tgt := 37) hx hb d_Lb_fitsUnder_5 (by decide) (fun c1 => ?_) (fun c1 => ?_)
      · replace h := zo_t c1 h
        refine lv_iconst (v := 1) hx hb d_Lb_fitsUnder_37 (by decide) ?_
        cases h
        exact W.zret hx hb hr (by decide) (fun t ht hW => ⟨⟨_, (), rfl, rfl, ka_at ht hP⟩, hS.F ht⟩) hS.2.2 d_Lb_fitsUnder_38 hlk
      replace h := zo_f c1 h
      refine lv_aload_n hx hb d_Lb_fitsUnder_8 rfl (lv_at hl 0 rfl) ?_
      refine lv_iload_n hx hb d_Lb_fitsUnder_9 rfl (lv_at hl 1 rfl) ?_
      refine lv_iload_n hx hb d_Lb_fitsUnder_10 rfl (lv_at hl 3 rfl) ?_
      obtain ⟨v2, e9, h⟩ := zo_b h
      refine ka_i (va_runV (As := [.int y1, .int y3]) (rest := []) S9 (c_Lb_levelAt l hl9 D A r _ σ y1 y3 _ e9) (cwV 2 hts (tg_V wl_Lb_32 wm_Lb_levelAt we_Lb_levelAt wi_Lb wo_Lb_levelAt) rfl rfl rfl wq_Lb_levelAt ⟨Nat.le_of_ble_eq_true rfl, Nat.le_of_ble_eq_true rfl⟩) (ka_preV X9 hP hD hS 2 rfl rfl) rfl rfl hl.1 rfl (lv_room (Nat.le_of_ble_eq_true rfl)) d_Lb_fitsUnder_11 ⟨Nat.le_of_ble_eq_true rfl, Nat.le_of_ble_eq_true rfl⟩) X9 hD hS rfl (fun H locs hP hD hS => ?_)
      obtain ⟨v3, e9, h⟩ := zo_b h
      refine ka_i (va_runS (As := [.int v2]) (rest := []) S9 (c_Lb_low l hl9 D A (GW A σ r) _ v2 _ e9) (cwS 1 hts (tg_S wl_Lb_36 ws_Lb_low wi_Lb wo_Lb_low) rfl rfl rfl wq_Lb_low ⟨Nat.le_of_ble_eq_true rfl, Nat.le_of_ble_eq_true rfl⟩) (ka_preS X9 hP hD hS) rfl rfl hl.1 rfl (lv_room (Nat.le_of_ble_eq_true rfl)) d_Lb_fitsUnder_14 ⟨Nat.le_of_ble_eq_true rfl, Nat.le_of_ble_eq_true rfl⟩) X9 hD hS rfl (fun H locs hP hD hS => ?_)
      refine lv_aload_n hx hb d_Lb_fitsUnder_17 rfl (lv_at hl 0 rfl) ?_
      refine lv_iload_n hx hb d_Lb_fitsUnder_18 rfl (lv_at hl 2 rfl) ?_
      refine lv_iload_n hx hb d_Lb_fitsUnder_19 rfl (lv_at hl 3 rfl) ?_
      obtain ⟨v4, e9, h⟩ := zo_b h
      refine ka_i (va_runV (As := [.int y2, .int y3]) (rest := [.int v3]) S9 (c_Lb_levelAt l hl9 D A r _ σ y2 y3 _ e9) (cwV 2 hts (tg_V wl_Lb_32 wm_Lb_levelAt we_Lb_levelAt wi_Lb wo_Lb_levelAt) rfl rfl rfl wq_Lb_levelAt ⟨Nat.le_of_ble_eq_true rfl, Nat.le_of_ble_eq_true rfl⟩) (ka_preV X9 hP hD hS 2 rfl rfl) rfl rfl hl.1 rfl (lv_room (Nat.le_of_ble_eq_true rfl)) d_Lb_fitsUnder_20 ⟨Nat.le_of_ble_eq_true rfl, Nat.le_of_ble_eq_true rfl⟩) X9 hD hS rfl (fun H locs hP hD hS => ?_)
      obtain ⟨v5, e9, h⟩ := zo_b h
      refine ka_i (va_runS (As := [.int v4]) (rest := [.int v3]) S9 (c_Lb_low l hl9 D A (GW A σ r) _ v4 _ e9) (cwS 1 hts (tg_S wl_Lb_36 ws_Lb_low wi_Lb wo_Lb_low) rfl rfl rfl wq_Lb_low ⟨Nat.le_of_ble_eq_true rfl, Nat.le_of_ble_eq_true rfl⟩) (ka_preS X9 hP hD hS) rfl rfl hl.1 rfl (lv_room (Nat.le_of_ble_eq_true rfl)) d_Lb_fitsUnder_23 ⟨Nat.le_of_ble_eq_true rfl, Nat.le_of_ble_eq_true rfl⟩) X9 hD hS rfl (fun H locs hP hD hS => ?_)
      refine lv_icmp_le (tgt := 31) hx hb d_Lb_fitsUnder_26 (by decide) (fun c6 => ?_) (fun c6 => ?_)
      · replace h := zo_t c6 h
        refine lv_iinc (v := y3 + 1) (lv' := [(3, .int (y3 + 1)), (0, .ref (A 2)), (1, .int y1), (2, .int y2)]) hx hb d_Lb_fitsUnder_31 hl (k := 3) rfl rfl (by decide) rfl (fun ls hl => ?_)
        refine lv_goto (tgt := 2) hx hb d_Lb_fitsUnder_34 (by decide) ?_
        exact ih2 y1 y2 (y3 + 1) _ _ _ h hP hD hS (lv_sub hl [1, 2, 3, 0] rfl)
      replace h := zo_f c6 h
      refine lv_iconst (v := 0) hx hb d_Lb_fitsUnder_29 (by decide) ?_
      cases h
      exact W.zret hx hb hr (by decide) (fun t ht hW => ⟨⟨_, (), rfl, rfl, ka_at ht hP⟩, hS.F ht⟩) hS.2.2 d_Lb_fitsUnder_30 hlk
  refine lv_iconst (v := 0) hx hb d_Lb_fitsUnder_0 (by decide) ?_
  refine lv_istore_n (lv' := [(3, .int 0), (0, .ref (A 2)), (1, .int x1), (2, .int x2)]) hx hb d_Lb_fitsUnder_1 rfl hl (by decide) rfl (fun ls hl => ?_)
  exact L2 100 x1 x2 0 _ _ _ h hP hD hS (lv_sub hl [1, 2, 3, 0] rfl)
def f_Lb_fitsHigh_L2 (σ : KS) : Nat → Int32 → Int32 → Int32 → Option (Int32)
  | 0, _, _, _ => none
  | n + 1, y1, y2, y3 => if 8 ≤ y3 then (some 1) else ((f_Lb_levelAt σ y1 y3).bind fun v2 => (f_Lb_low v2).bind fun v3 => (f_Lb_levelAt σ y2 y3).bind fun v4 => if v3 ≤ v4 then (f_Lb_fitsHigh_L2 σ n y1 y2 (y3 + 1)) else (some 0))
def f_Lb_fitsHigh (σ : KS) (x1 x2 : Int32) : Option (Int32) := f_Lb_fitsHigh_L2 σ 100 x1 x2 0
set_option maxRecDepth 100000 in
set_option maxHeartbeats 4000000 in
theorem c_Lb_fitsHigh (l : Launch) (hl9 : l.stackTraces = false) (D : va_G) (A : Nat → Nat) (r : va_W) (sz : Nat) (σ : KS) (x1 x2 : Int32) (z : Int32) (h : f_Lb_fitsHigh σ x1 x2 = some z) : Met l y_Lb_fitsHigh (Cond.code y_Lb_fitsHigh b_Lb_fitsHigh 4 (some .boolean) :: T0) ({ frames := 1, cells := 0, slots := 0, locals := 22 } : Room) (va_Pc [.ref (A 2), .int x1, .int x2] (ka_Wd D A (GW A σ r) sz)) (ka_Ri D z (GW A σ r) (va_A (GW A σ r) sz)) 0 0 (va_A (GW A σ r) sz) := by
  unfold f_Lb_fitsHigh at h
  refine ka_of (own := R_Lb) (fun A9 => ka_Ri D z (GW A σ r) A9) (by decide) rfl (Nat.le_of_ble_eq_true rfl) ?_
  intro p e s m below meth c A9 ls S9 hr hlk hex X9 hP hD hl
  obtain ⟨hx, hb, hml, hown, hts⟩ := id S9
  have hK := X9.2.1
  have hS : va_S A9 s.heap s.heap [] := va_S.rf
  replace hl : lv_has ls 4 [(0, .ref (A 2)), (1, .int x1), (2, .int x2)] := hl
  have L2 : ∀ (n : Nat) (y1 y2 y3 : Int32) (H : Heap) (locs : List Loc) (ls : Array Slot), f_Lb_fitsHigh_L2 σ n y1 y2 y3 = some z → va_P D vwCl (GW A σ r) H → va_D A9 (GW A σ r) → va_S A9 s.heap H locs → lv_has ls 4 [(0, .ref (A 2)), (1, .int y1), (2, .int y2), (3, .int y3)] → W p l e ({ frames := 1, cells := 0, slots := 0, locals := 22 } : Room) s m [.ref (A 2), .int x1, .int x2].toArray below meth c H locs 0 0 (MQ below (ka_Ri D z (GW A σ r) A9) [.ref (A 2), .int x1, .int x2].toArray s 0 0 A9) (F0 m 2 ls []) := by
    intro n
    induction n with
    | zero => intro y1 y2 y3 H locs ls h; cases h
    | succ n ih2 =>
      intro y1 y2 y3 H locs ls h hP hD hS hl
      rw [f_Lb_fitsHigh_L2] at h
      refine lv_iload_n hx hb d_Lb_fitsHigh_2 rfl (lv_at hl 3 rfl) ?_
      refine lv_bipush (v := 8) hx hb d_Lb_fitsHigh_3 (by decide) ?_
      refine lv_icmp_ge (tgt := 34) hx hb d_Lb_fitsHigh_5 (by decide) (fun c1 => ?_) (fun c1 => ?_)
      · replace h := zo_t c1 h
        refine lv_iconst (v := 1) hx hb d_Lb_fitsHigh_34 (by decide) ?_
        cases h
        exact W.zret hx hb hr (by decide) (fun t ht hW => ⟨⟨_, (), rfl, rfl, ka_at ht hP⟩, hS.F ht⟩) hS.2.2 d_Lb_fitsHigh_35 hlk
      replace h := zo_f c1 h
      refine lv_aload_n hx hb d_Lb_fitsHigh_8 rfl (lv_at hl 0 rfl) ?_
      refine lv_iload_n hx hb d_Lb_fitsHigh_9 rfl (lv_at hl 1 rfl) ?_
      refine lv_iload_n hx hb d_Lb_fitsHigh_10 rfl (lv_at hl 3 rfl) ?_
      obtain ⟨v2, e9, h⟩ := zo_b h
      refine ka_i (va_runV (As := [.int y1, .int y3]) (rest := []) S9 (c_Lb_levelAt l hl9 D A r _ σ y1 y3 _ e9) (cwV 2 hts (tg_V wl_Lb_32 wm_Lb_levelAt we_Lb_levelAt wi_Lb wo_Lb_levelAt) rfl rfl rfl wq_Lb_levelAt ⟨Nat.le_of_ble_eq_true rfl, Nat.le_of_ble_eq_true rfl⟩) (ka_preV X9 hP hD hS 2 rfl rfl) rfl rfl hl.1 rfl (lv_room (Nat.le_of_ble_eq_true rfl)) d_Lb_fitsHigh_11 ⟨Nat.le_of_ble_eq_true rfl, Nat.le_of_ble_eq_true rfl⟩) X9 hD hS rfl (fun H locs hP hD hS => ?_)
      obtain ⟨v3, e9, h⟩ := zo_b h
      refine ka_i (va_runS (As := [.int v2]) (rest := []) S9 (c_Lb_low l hl9 D A (GW A σ r) _ v2 _ e9) (cwS 1 hts (tg_S wl_Lb_36 ws_Lb_low wi_Lb wo_Lb_low) rfl rfl rfl wq_Lb_low ⟨Nat.le_of_ble_eq_true rfl, Nat.le_of_ble_eq_true rfl⟩) (ka_preS X9 hP hD hS) rfl rfl hl.1 rfl (lv_room (Nat.le_of_ble_eq_true rfl)) d_Lb_fitsHigh_14 ⟨Nat.le_of_ble_eq_true rfl, Nat.le_of_ble_eq_true rfl⟩) X9 hD hS rfl (fun H locs hP hD hS => ?_)
      refine lv_aload_n hx hb d_Lb_fitsHigh_17 rfl (lv_at hl 0 rfl) ?_
      refine lv_iload_n hx hb d_Lb_fitsHigh_18 rfl (lv_at hl 2 rfl) ?_
      refine lv_iload_n hx hb d_Lb_fitsHigh_19 rfl (lv_at hl 3 rfl) ?_
      obtain ⟨v4, e9, h⟩ := zo_b h
      refine ka_i (va_runV (As := [.int y2, .int y3]) (rest := [.int v3]) S9 (c_Lb_levelAt l hl9 D A r _ σ y2 y3 _ e9) (cwV 2 hts (tg_V wl_Lb_32 wm_Lb_levelAt we_Lb_levelAt wi_Lb wo_Lb_levelAt) rfl rfl rfl wq_Lb_levelAt ⟨Nat.le_of_ble_eq_true rfl, Nat.le_of_ble_eq_true rfl⟩) (ka_preV X9 hP hD hS 2 rfl rfl) rfl rfl hl.1 rfl (lv_room (Nat.le_of_ble_eq_true rfl)) d_Lb_fitsHigh_20 ⟨Nat.le_of_ble_eq_true rfl, Nat.le_of_ble_eq_true rfl⟩) X9 hD hS rfl (fun H locs hP hD hS => ?_)
      refine lv_icmp_le (tgt := 28) hx hb d_Lb_fitsHigh_23 (by decide) (fun c5 => ?_) (fun c5 => ?_)
      · replace h := zo_t c5 h
        refine lv_iinc (v := y3 + 1) (lv' := [(3, .int (y3 + 1)), (0, .ref (A 2)), (1, .int y1), (2, .int y2)]) hx hb d_Lb_fitsHigh_28 hl (k := 3) rfl rfl (by decide) rfl (fun ls hl => ?_)
        refine lv_goto (tgt := 2) hx hb d_Lb_fitsHigh_31 (by decide) ?_
        exact ih2 y1 y2 (y3 + 1) _ _ _ h hP hD hS (lv_sub hl [1, 2, 3, 0] rfl)
      replace h := zo_f c5 h
      refine lv_iconst (v := 0) hx hb d_Lb_fitsHigh_26 (by decide) ?_
      cases h
      exact W.zret hx hb hr (by decide) (fun t ht hW => ⟨⟨_, (), rfl, rfl, ka_at ht hP⟩, hS.F ht⟩) hS.2.2 d_Lb_fitsHigh_27 hlk
  refine lv_iconst (v := 0) hx hb d_Lb_fitsHigh_0 (by decide) ?_
  refine lv_istore_n (lv' := [(3, .int 0), (0, .ref (A 2)), (1, .int x1), (2, .int x2)]) hx hb d_Lb_fitsHigh_1 rfl hl (by decide) rfl (fun ls hl => ?_)
  exact L2 100 x1 x2 0 _ _ _ h hP hD hS (lv_sub hl [1, 2, 3, 0] rfl)
def f_Lb_isStarless (σ : KS) (x1 : Int32) : Option (Int32) := (f_Lb_has σ x1).bind fun v1 => if v1 = 0 then (some 0) else (if x1 < 0 ∨ 60 ≤ (x1).toNatClampNeg then none else if ((gN_packed σ (x1).toNatClampNeg) &&& 1145324612) = 0 then (some 1) else (some 0))
set_option maxRecDepth 100000 in
set_option maxHeartbeats 4000000 in
theorem c_Lb_isStarless (l : Launch) (hl9 : l.stackTraces = false) (D : va_G) (A : Nat → Nat) (r : va_W) (sz : Nat) (σ : KS) (x1 : Int32) (z : Int32) (h : f_Lb_isStarless σ x1 = some z) : Met l y_Lb_isStarless (Cond.code y_Lb_isStarless b_Lb_isStarless 2 (some .boolean) :: T0) ({ frames := 1, cells := 0, slots := 0, locals := 21 } : Room) (va_Pc [.ref (A 2), .int x1] (ka_Wd D A (GW A σ r) sz)) (ka_Ri D z (GW A σ r) (va_A (GW A σ r) sz)) 0 0 (va_A (GW A σ r) sz) := by
  unfold f_Lb_isStarless at h
  refine ka_of (own := R_Lb) (fun A9 => ka_Ri D z (GW A σ r) A9) (by decide) rfl (Nat.le_of_ble_eq_true rfl) ?_
  intro p e s m below meth c A9 ls S9 hr hlk hex X9 hP hD hl
  obtain ⟨hx, hb, hml, hown, hts⟩ := id S9
  have hK := X9.2.1
  have hS : va_S A9 s.heap s.heap [] := va_S.rf
  replace hl : lv_has ls 2 [(0, .ref (A 2)), (1, .int x1)] := hl
  refine lv_aload_n hx hb d_Lb_isStarless_0 rfl (lv_at hl 0 rfl) ?_
  refine lv_iload_n hx hb d_Lb_isStarless_1 rfl (lv_at hl 1 rfl) ?_
  obtain ⟨v1, e9, h⟩ := zo_b h
  refine ka_i (va_runV (As := [.int x1]) (rest := []) S9 (c_Lb_has l hl9 D A r _ σ x1 _ e9) (cwV 1 hts (tg_V wl_Lb_27 wm_Lb_has we_Lb_has wi_Lb wo_Lb_has) rfl rfl rfl wq_Lb_has ⟨Nat.le_of_ble_eq_true rfl, Nat.le_of_ble_eq_true rfl⟩) (ka_preV X9 hP hD hS 2 rfl rfl) rfl rfl hl.1 rfl (lv_room (Nat.le_of_ble_eq_true rfl)) d_Lb_isStarless_2 ⟨Nat.le_of_ble_eq_true rfl, Nat.le_of_ble_eq_true rfl⟩) X9 hD hS rfl (fun H locs hP hD hS => ?_)
  refine lv_if_eq (tgt := 24) hx hb d_Lb_isStarless_5 (by decide) (fun c2 => ?_) (fun c2 => ?_)
  · replace h := zo_t c2 h
    refine lv_iconst (v := 0) hx hb d_Lb_isStarless_24 (by decide) ?_
    cases h
    exact W.zret hx hb hr (by decide) (fun t ht hW => ⟨⟨_, (), rfl, rfl, ka_at ht hP⟩, hS.F ht⟩) hS.2.2 d_Lb_isStarless_25 hlk
  replace h := zo_f c2 h
  refine lv_aload_n hx hb d_Lb_isStarless_8 rfl (lv_at hl 0 rfl) ?_
  refine va_get (D := D) (ci := 0) (v := .ref (A 3)) (C := R_Lb) (T := T_Lb) (N := 2) hx hb hts wu_Lb hown hK hP 2 rfl rfl 0 (by decide) (hts _ wf_Lb_9) (fun _ h9 => h9) rfl d_Lb_isStarless_9 ?_
  refine lv_iload_n hx hb d_Lb_isStarless_12 rfl (lv_at hl 1 rfl) ?_
  obtain ⟨i9, h⟩ := zo_i h
  refine va_iald hx hb hK hP 3 0 rfl rfl i9 d_Lb_isStarless_13 ?_
  refine lv_ldc (v := 1145324612) hx hb hown (hts _ wk_Lb_31) d_Lb_isStarless_14 ?_
  refine lv_iand hx hb d_Lb_isStarless_16 ?_
  refine lv_if_ne (tgt := 24) hx hb d_Lb_isStarless_17 (by decide) (fun c3 => ?_) (fun c3 => ?_)
  · replace h := zo_f c3 h
    refine lv_iconst (v := 0) hx hb d_Lb_isStarless_24 (by decide) ?_
    cases h
    exact W.zret hx hb hr (by decide) (fun t ht hW => ⟨⟨_, (), rfl, rfl, ka_at ht hP⟩, hS.F ht⟩) hS.2.2 d_Lb_isStarless_25 hlk
  replace h := zo_t c3 h
  refine lv_iconst (v := 1) hx hb d_Lb_isStarless_20 (by decide) ?_
  refine lv_goto (tgt := 25) hx hb d_Lb_isStarless_21 (by decide) ?_
  cases h
  exact W.zret hx hb hr (by decide) (fun t ht hW => ⟨⟨_, (), rfl, rfl, ka_at ht hP⟩, hS.F ht⟩) hS.2.2 d_Lb_isStarless_25 hlk
def f_Lb_hasStarsOnlyOf (σ : KS) (x1 x2 : Int32) : Option (Int32) := if x1 < 0 ∨ 60 ≤ (x1).toNatClampNeg then none else if x2 < 0 ∨ 60 ≤ (x2).toNatClampNeg then none else if (((gN_packed σ (x1).toNatClampNeg) &&& ((gN_packed σ (x2).toNatClampNeg) ^^^ (-1))) &&& 1145324612) = 0 then (some 1) else (some 0)
set_option maxRecDepth 100000 in
set_option maxHeartbeats 4000000 in
theorem c_Lb_hasStarsOnlyOf (l : Launch) (hl9 : l.stackTraces = false) (D : va_G) (A : Nat → Nat) (r : va_W) (sz : Nat) (σ : KS) (x1 x2 : Int32) (z : Int32) (h : f_Lb_hasStarsOnlyOf σ x1 x2 = some z) : Met l y_Lb_hasStarsOnlyOf (Cond.code y_Lb_hasStarsOnlyOf b_Lb_hasStarsOnlyOf 3 (some .boolean) :: T0) ({ frames := 0, cells := 0, slots := 0, locals := 0 } : Room) (va_Pc [.ref (A 2), .int x1, .int x2] (ka_Wd D A (GW A σ r) sz)) (ka_Ri D z (GW A σ r) (va_A (GW A σ r) sz)) 0 0 (va_A (GW A σ r) sz) := by
  unfold f_Lb_hasStarsOnlyOf at h
  refine ka_of (own := R_Lb) (fun A9 => ka_Ri D z (GW A σ r) A9) (by decide) rfl (Nat.le_of_ble_eq_true rfl) ?_
  intro p e s m below meth c A9 ls S9 hr hlk hex X9 hP hD hl
  obtain ⟨hx, hb, hml, hown, hts⟩ := id S9
  have hK := X9.2.1
  have hS : va_S A9 s.heap s.heap [] := va_S.rf
  replace hl : lv_has ls 3 [(0, .ref (A 2)), (1, .int x1), (2, .int x2)] := hl
  refine lv_aload_n hx hb d_Lb_hasStarsOnlyOf_0 rfl (lv_at hl 0 rfl) ?_
  refine va_get (D := D) (ci := 0) (v := .ref (A 3)) (C := R_Lb) (T := T_Lb) (N := 2) hx hb hts wu_Lb hown hK hP 2 rfl rfl 0 (by decide) (hts _ wf_Lb_9) (fun _ h9 => h9) rfl d_Lb_hasStarsOnlyOf_1 ?_
  refine lv_iload_n hx hb d_Lb_hasStarsOnlyOf_4 rfl (lv_at hl 1 rfl) ?_
  obtain ⟨i9, h⟩ := zo_i h
  refine va_iald hx hb hK hP 3 0 rfl rfl i9 d_Lb_hasStarsOnlyOf_5 ?_
  refine lv_aload_n hx hb d_Lb_hasStarsOnlyOf_6 rfl (lv_at hl 0 rfl) ?_
  refine va_get (D := D) (ci := 0) (v := .ref (A 3)) (C := R_Lb) (T := T_Lb) (N := 2) hx hb hts wu_Lb hown hK hP 2 rfl rfl 0 (by decide) (hts _ wf_Lb_9) (fun _ h9 => h9) rfl d_Lb_hasStarsOnlyOf_7 ?_
  refine lv_iload_n hx hb d_Lb_hasStarsOnlyOf_10 rfl (lv_at hl 2 rfl) ?_
  obtain ⟨i9, h⟩ := zo_i h
  refine va_iald hx hb hK hP 3 0 rfl rfl i9 d_Lb_hasStarsOnlyOf_11 ?_
  refine lv_iconst (v := (-1)) hx hb d_Lb_hasStarsOnlyOf_12 (by decide) ?_
  refine lv_ixor hx hb d_Lb_hasStarsOnlyOf_13 ?_
  refine lv_iand hx hb d_Lb_hasStarsOnlyOf_14 ?_
  refine lv_ldc (v := 1145324612) hx hb hown (hts _ wk_Lb_31) d_Lb_hasStarsOnlyOf_15 ?_
  refine lv_iand hx hb d_Lb_hasStarsOnlyOf_17 ?_
  refine lv_if_ne (tgt := 25) hx hb d_Lb_hasStarsOnlyOf_18 (by decide) (fun c1 => ?_) (fun c1 => ?_)
  · replace h := zo_f c1 h
    refine lv_iconst (v := 0) hx hb d_Lb_hasStarsOnlyOf_25 (by decide) ?_
    cases h
    exact W.zret hx hb hr (by decide) (fun t ht hW => ⟨⟨_, (), rfl, rfl, ka_at ht hP⟩, hS.F ht⟩) hS.2.2 d_Lb_hasStarsOnlyOf_26 hlk
  replace h := zo_t c1 h
  refine lv_iconst (v := 1) hx hb d_Lb_hasStarsOnlyOf_21 (by decide) ?_
  refine lv_goto (tgt := 26) hx hb d_Lb_hasStarsOnlyOf_22 (by decide) ?_
  cases h
  exact W.zret hx hb hr (by decide) (fun t ht hW => ⟨⟨_, (), rfl, rfl, ka_at ht hP⟩, hS.F ht⟩) hS.2.2 d_Lb_hasStarsOnlyOf_26 hlk
def f_Lb_isJoinAt (σ : KS) (x1 x2 x3 x4 : Int32) : Option (Int32) := (f_Lb_levelAt σ x2 x1).bind fun v1 => (f_Lb_levelAt σ x3 x1).bind fun v2 => (f_Lb_levelAt σ x4 x1).bind fun v3 => if v1 = 4 then (if v2 = 4 then (some 1) else (if v3 = 4 then (some 1) else (some 0))) else ((f_Lb_low v2).bind fun v5 => if v1 < v5 then (some 0) else ((f_Lb_low v3).bind fun v7 => if v1 < v7 then (some 0) else (some 1)))
set_option maxRecDepth 100000 in
set_option maxHeartbeats 4000000 in
theorem c_Lb_isJoinAt (l : Launch) (hl9 : l.stackTraces = false) (D : va_G) (A : Nat → Nat) (r : va_W) (sz : Nat) (σ : KS) (x1 x2 x3 x4 : Int32) (z : Int32) (h : f_Lb_isJoinAt σ x1 x2 x3 x4 = some z) : Met l y_Lb_isJoinAt (Cond.code y_Lb_isJoinAt b_Lb_isJoinAt 8 (some .boolean) :: T0) ({ frames := 1, cells := 0, slots := 0, locals := 22 } : Room) (va_Pc [.ref (A 2), .int x1, .int x2, .int x3, .int x4] (ka_Wd D A (GW A σ r) sz)) (ka_Ri D z (GW A σ r) (va_A (GW A σ r) sz)) 0 0 (va_A (GW A σ r) sz) := by
  unfold f_Lb_isJoinAt at h
  refine ka_of (own := R_Lb) (fun A9 => ka_Ri D z (GW A σ r) A9) (by decide) rfl (Nat.le_of_ble_eq_true rfl) ?_
  intro p e s m below meth c A9 ls S9 hr hlk hex X9 hP hD hl
  obtain ⟨hx, hb, hml, hown, hts⟩ := id S9
  have hK := X9.2.1
  have hS : va_S A9 s.heap s.heap [] := va_S.rf
  replace hl : lv_has ls 8 [(0, .ref (A 2)), (1, .int x1), (2, .int x2), (3, .int x3), (4, .int x4)] := hl
  refine lv_aload_n hx hb d_Lb_isJoinAt_0 rfl (lv_at hl 0 rfl) ?_
  refine lv_iload_n hx hb d_Lb_isJoinAt_1 rfl (lv_at hl 2 rfl) ?_
  refine lv_iload_n hx hb d_Lb_isJoinAt_2 rfl (lv_at hl 1 rfl) ?_
  obtain ⟨v1, e9, h⟩ := zo_b h
  refine ka_i (va_runV (As := [.int x2, .int x1]) (rest := []) S9 (c_Lb_levelAt l hl9 D A r _ σ x2 x1 _ e9) (cwV 2 hts (tg_V wl_Lb_32 wm_Lb_levelAt we_Lb_levelAt wi_Lb wo_Lb_levelAt) rfl rfl rfl wq_Lb_levelAt ⟨Nat.le_of_ble_eq_true rfl, Nat.le_of_ble_eq_true rfl⟩) (ka_preV X9 hP hD hS 2 rfl rfl) rfl rfl hl.1 rfl (lv_room (Nat.le_of_ble_eq_true rfl)) d_Lb_isJoinAt_3 ⟨Nat.le_of_ble_eq_true rfl, Nat.le_of_ble_eq_true rfl⟩) X9 hD hS rfl (fun H locs hP hD hS => ?_)
  refine lv_istore (lv' := [(5, .int v1), (0, .ref (A 2)), (1, .int x1), (2, .int x2), (3, .int x3), (4, .int x4)]) hx hb d_Lb_isJoinAt_6 hl (by decide) rfl (fun ls hl => ?_)
  refine lv_aload_n hx hb d_Lb_isJoinAt_8 rfl (lv_at hl 1 rfl) ?_
  refine lv_iload_n hx hb d_Lb_isJoinAt_9 rfl (lv_at hl 4 rfl) ?_
  refine lv_iload_n hx hb d_Lb_isJoinAt_10 rfl (lv_at hl 2 rfl) ?_
  obtain ⟨v2, e9, h⟩ := zo_b h
  refine ka_i (va_runV (As := [.int x3, .int x1]) (rest := []) S9 (c_Lb_levelAt l hl9 D A r _ σ x3 x1 _ e9) (cwV 2 hts (tg_V wl_Lb_32 wm_Lb_levelAt we_Lb_levelAt wi_Lb wo_Lb_levelAt) rfl rfl rfl wq_Lb_levelAt ⟨Nat.le_of_ble_eq_true rfl, Nat.le_of_ble_eq_true rfl⟩) (ka_preV X9 hP hD hS 2 rfl rfl) rfl rfl hl.1 rfl (lv_room (Nat.le_of_ble_eq_true rfl)) d_Lb_isJoinAt_11 ⟨Nat.le_of_ble_eq_true rfl, Nat.le_of_ble_eq_true rfl⟩) X9 hD hS rfl (fun H locs hP hD hS => ?_)
  refine lv_istore (lv' := [(6, .int v2), (5, .int v1), (0, .ref (A 2)), (1, .int x1), (2, .int x2), (3, .int x3), (4, .int x4)]) hx hb d_Lb_isJoinAt_14 hl (by decide) rfl (fun ls hl => ?_)
  refine lv_aload_n hx hb d_Lb_isJoinAt_16 rfl (lv_at hl 2 rfl) ?_
  refine lv_iload hx hb d_Lb_isJoinAt_17 (lv_at hl 6 rfl) ?_
  refine lv_iload_n hx hb d_Lb_isJoinAt_19 rfl (lv_at hl 3 rfl) ?_
  obtain ⟨v3, e9, h⟩ := zo_b h
  refine ka_i (va_runV (As := [.int x4, .int x1]) (rest := []) S9 (c_Lb_levelAt l hl9 D A r _ σ x4 x1 _ e9) (cwV 2 hts (tg_V wl_Lb_32 wm_Lb_levelAt we_Lb_levelAt wi_Lb wo_Lb_levelAt) rfl rfl rfl wq_Lb_levelAt ⟨Nat.le_of_ble_eq_true rfl, Nat.le_of_ble_eq_true rfl⟩) (ka_preV X9 hP hD hS 2 rfl rfl) rfl rfl hl.1 rfl (lv_room (Nat.le_of_ble_eq_true rfl)) d_Lb_isJoinAt_20 ⟨Nat.le_of_ble_eq_true rfl, Nat.le_of_ble_eq_true rfl⟩) X9 hD hS rfl (fun H locs hP hD hS => ?_)
  refine lv_istore (lv' := [(7, .int v3), (6, .int v2), (5, .int v1), (0, .ref (A 2)), (1, .int x1), (2, .int x2), (3, .int x3), (4, .int x4)]) hx hb d_Lb_isJoinAt_23 hl (by decide) rfl (fun ls hl => ?_)
  refine lv_iload hx hb d_Lb_isJoinAt_25 (lv_at hl 2 rfl) ?_
  refine lv_iconst (v := 4) hx hb d_Lb_isJoinAt_27 (by decide) ?_
  refine lv_icmp_ne (tgt := 49) hx hb d_Lb_isJoinAt_28 (by decide) (fun c4 => ?_) (fun c4 => ?_)
  · replace h := zo_f c4 h
    refine lv_iload hx hb d_Lb_isJoinAt_49 (lv_at hl 2 rfl) ?_
    refine lv_iload hx hb d_Lb_isJoinAt_51 (lv_at hl 1 rfl) ?_
    obtain ⟨v5, e9, h⟩ := zo_b h
    refine ka_i (va_runS (As := [.int v2]) (rest := [.int v1]) S9 (c_Lb_low l hl9 D A (GW A σ r) _ v2 _ e9) (cwS 1 hts (tg_S wl_Lb_36 ws_Lb_low wi_Lb wo_Lb_low) rfl rfl rfl wq_Lb_low ⟨Nat.le_of_ble_eq_true rfl, Nat.le_of_ble_eq_true rfl⟩) (ka_preS X9 hP hD hS) rfl rfl hl.1 rfl (lv_room (Nat.le_of_ble_eq_true rfl)) d_Lb_isJoinAt_53 ⟨Nat.le_of_ble_eq_true rfl, Nat.le_of_ble_eq_true rfl⟩) X9 hD hS rfl (fun H locs hP hD hS => ?_)
    refine lv_icmp_lt (tgt := 73) hx hb d_Lb_isJoinAt_56 (by decide) (fun c6 => ?_) (fun c6 => ?_)
    · replace h := zo_t c6 h
      refine lv_iconst (v := 0) hx hb d_Lb_isJoinAt_73 (by decide) ?_
      cases h
      exact W.zret hx hb hr (by decide) (fun t ht hW => ⟨⟨_, (), rfl, rfl, ka_at ht hP⟩, hS.F ht⟩) hS.2.2 d_Lb_isJoinAt_74 hlk
    replace h := zo_f c6 h
    refine lv_iload hx hb d_Lb_isJoinAt_59 (lv_at hl 2 rfl) ?_
    refine lv_iload hx hb d_Lb_isJoinAt_61 (lv_at hl 0 rfl) ?_
    obtain ⟨v7, e9, h⟩ := zo_b h
    refine ka_i (va_runS (As := [.int v3]) (rest := [.int v1]) S9 (c_Lb_low l hl9 D A (GW A σ r) _ v3 _ e9) (cwS 1 hts (tg_S wl_Lb_36 ws_Lb_low wi_Lb wo_Lb_low) rfl rfl rfl wq_Lb_low ⟨Nat.le_of_ble_eq_true rfl, Nat.le_of_ble_eq_true rfl⟩) (ka_preS X9 hP hD hS) rfl rfl hl.1 rfl (lv_room (Nat.le_of_ble_eq_true rfl)) d_Lb_isJoinAt_63 ⟨Nat.le_of_ble_eq_true rfl, Nat.le_of_ble_eq_true rfl⟩) X9 hD hS rfl (fun H locs hP hD hS => ?_)
    refine lv_icmp_lt (tgt := 73) hx hb d_Lb_isJoinAt_66 (by decide) (fun c8 => ?_) (fun c8 => ?_)
    · replace h := zo_t c8 h
      refine lv_iconst (v := 0) hx hb d_Lb_isJoinAt_73 (by decide) ?_
      cases h
      exact W.zret hx hb hr (by decide) (fun t ht hW => ⟨⟨_, (), rfl, rfl, ka_at ht hP⟩, hS.F ht⟩) hS.2.2 d_Lb_isJoinAt_74 hlk
    replace h := zo_f c8 h
    refine lv_iconst (v := 1) hx hb d_Lb_isJoinAt_69 (by decide) ?_
    refine lv_goto (tgt := 74) hx hb d_Lb_isJoinAt_70 (by decide) ?_
    cases h
    exact W.zret hx hb hr (by decide) (fun t ht hW => ⟨⟨_, (), rfl, rfl, ka_at ht hP⟩, hS.F ht⟩) hS.2.2 d_Lb_isJoinAt_74 hlk
  replace h := zo_t c4 h
  refine lv_iload hx hb d_Lb_isJoinAt_31 (lv_at hl 1 rfl) ?_
  refine lv_iconst (v := 4) hx hb d_Lb_isJoinAt_33 (by decide) ?_
  refine lv_icmp_eq (tgt := 43) hx hb d_Lb_isJoinAt_34 (by decide) (fun c9 => ?_) (fun c9 => ?_)
  · replace h := zo_t c9 h
    refine lv_iconst (v := 1) hx hb d_Lb_isJoinAt_43 (by decide) ?_
    refine lv_goto (tgt := 48) hx hb d_Lb_isJoinAt_44 (by decide) ?_
    cases h
    exact W.zret hx hb hr (by decide) (fun t ht hW => ⟨⟨_, (), rfl, rfl, ka_at ht hP⟩, hS.F ht⟩) hS.2.2 d_Lb_isJoinAt_48 hlk
  replace h := zo_f c9 h
  refine lv_iload hx hb d_Lb_isJoinAt_37 (lv_at hl 0 rfl) ?_
  refine lv_iconst (v := 4) hx hb d_Lb_isJoinAt_39 (by decide) ?_
  refine lv_icmp_ne (tgt := 47) hx hb d_Lb_isJoinAt_40 (by decide) (fun c10 => ?_) (fun c10 => ?_)
  · replace h := zo_f c10 h
    refine lv_iconst (v := 0) hx hb d_Lb_isJoinAt_47 (by decide) ?_
    cases h
    exact W.zret hx hb hr (by decide) (fun t ht hW => ⟨⟨_, (), rfl, rfl, ka_at ht hP⟩, hS.F ht⟩) hS.2.2 d_Lb_isJoinAt_48 hlk
  replace h := zo_t c10 h
  refine lv_iconst (v := 1) hx hb d_Lb_isJoinAt_43 (by decide) ?_
  refine lv_goto (tgt := 48) hx hb d_Lb_isJoinAt_44 (by decide) ?_
  cases h
  exact W.zret hx hb hr (by decide) (fun t ht hW => ⟨⟨_, (), rfl, rfl, ka_at ht hP⟩, hS.F ht⟩) hS.2.2 d_Lb_isJoinAt_48 hlk
def f_Lb_isJoinOf_L3 (σ : KS) : Nat → Int32 → Int32 → Int32 → Int32 → Option (Int32)
  | 0, _, _, _, _ => none
  | n + 1, y1, y2, y3, y4 => if 8 ≤ y4 then (some 1) else ((f_Lb_isJoinAt σ y4 y1 y2 y3).bind fun v2 => if v2 = 0 then (some 0) else (f_Lb_isJoinOf_L3 σ n y1 y2 y3 (y4 + 1)))
def f_Lb_isJoinOf (σ : KS) (x1 x2 x3 : Int32) : Option (Int32) := f_Lb_isJoinOf_L3 σ 100 x1 x2 x3 0
set_option maxRecDepth 100000 in
set_option maxHeartbeats 4000000 in
theorem c_Lb_isJoinOf (l : Launch) (hl9 : l.stackTraces = false) (D : va_G) (A : Nat → Nat) (r : va_W) (sz : Nat) (σ : KS) (x1 x2 x3 : Int32) (z : Int32) (h : f_Lb_isJoinOf σ x1 x2 x3 = some z) : Met l y_Lb_isJoinOf (Cond.code y_Lb_isJoinOf b_Lb_isJoinOf 5 (some .boolean) :: T0) ({ frames := 2, cells := 0, slots := 0, locals := 49 } : Room) (va_Pc [.ref (A 2), .int x1, .int x2, .int x3] (ka_Wd D A (GW A σ r) sz)) (ka_Ri D z (GW A σ r) (va_A (GW A σ r) sz)) 0 0 (va_A (GW A σ r) sz) := by
  unfold f_Lb_isJoinOf at h
  refine ka_of (own := R_Lb) (fun A9 => ka_Ri D z (GW A σ r) A9) (by decide) rfl (Nat.le_of_ble_eq_true rfl) ?_
  intro p e s m below meth c A9 ls S9 hr hlk hex X9 hP hD hl
  obtain ⟨hx, hb, hml, hown, hts⟩ := id S9
  have hK := X9.2.1
  have hS : va_S A9 s.heap s.heap [] := va_S.rf
  replace hl : lv_has ls 5 [(0, .ref (A 2)), (1, .int x1), (2, .int x2), (3, .int x3)] := hl
  have L3 : ∀ (n : Nat) (y1 y2 y3 y4 : Int32) (H : Heap) (locs : List Loc) (ls : Array Slot), f_Lb_isJoinOf_L3 σ n y1 y2 y3 y4 = some z → va_P D vwCl (GW A σ r) H → va_D A9 (GW A σ r) → va_S A9 s.heap H locs → lv_has ls 5 [(0, .ref (A 2)), (1, .int y1), (2, .int y2), (3, .int y3), (4, .int y4)] → W p l e ({ frames := 2, cells := 0, slots := 0, locals := 49 } : Room) s m [.ref (A 2), .int x1, .int x2, .int x3].toArray below meth c H locs 0 0 (MQ below (ka_Ri D z (GW A σ r) A9) [.ref (A 2), .int x1, .int x2, .int x3].toArray s 0 0 A9) (F0 m 3 ls []) := by
    intro n
    induction n with
    | zero => intro y1 y2 y3 y4 H locs ls h; cases h
    | succ n ih3 =>
      intro y1 y2 y3 y4 H locs ls h hP hD hS hl
      rw [f_Lb_isJoinOf_L3] at h
      refine lv_iload hx hb d_Lb_isJoinOf_3 (lv_at hl 4 rfl) ?_
      refine lv_bipush (v := 8) hx hb d_Lb_isJoinOf_5 (by decide) ?_
      refine lv_icmp_ge (tgt := 30) hx hb d_Lb_isJoinOf_7 (by decide) (fun c1 => ?_) (fun c1 => ?_)
      · replace h := zo_t c1 h
        refine lv_iconst (v := 1) hx hb d_Lb_isJoinOf_30 (by decide) ?_
        cases h
        exact W.zret hx hb hr (by decide) (fun t ht hW => ⟨⟨_, (), rfl, rfl, ka_at ht hP⟩, hS.F ht⟩) hS.2.2 d_Lb_isJoinOf_31 hlk
      replace h := zo_f c1 h
      refine lv_aload_n hx hb d_Lb_isJoinOf_10 rfl (lv_at hl 0 rfl) ?_
      refine lv_iload hx hb d_Lb_isJoinOf_11 (lv_at hl 4 rfl) ?_
      refine lv_iload_n hx hb d_Lb_isJoinOf_13 rfl (lv_at hl 1 rfl) ?_
      refine lv_iload_n hx hb d_Lb_isJoinOf_14 rfl (lv_at hl 2 rfl) ?_
      refine lv_iload_n hx hb d_Lb_isJoinOf_15 rfl (lv_at hl 3 rfl) ?_
      obtain ⟨v2, e9, h⟩ := zo_b h
      refine ka_i (va_runV (As := [.int y4, .int y1, .int y2, .int y3]) (rest := []) S9 (c_Lb_isJoinAt l hl9 D A r _ σ y4 y1 y2 y3 _ e9) (cwV 4 hts (tg_V wl_Lb_40 wm_Lb_isJoinAt we_Lb_isJoinAt wi_Lb wo_Lb_isJoinAt) rfl rfl rfl wq_Lb_isJoinAt ⟨Nat.le_of_ble_eq_true rfl, Nat.le_of_ble_eq_true rfl⟩) (ka_preV X9 hP hD hS 2 rfl rfl) rfl rfl hl.1 rfl (lv_room (Nat.le_of_ble_eq_true rfl)) d_Lb_isJoinOf_16 ⟨Nat.le_of_ble_eq_true rfl, Nat.le_of_ble_eq_true rfl⟩) X9 hD hS rfl (fun H locs hP hD hS => ?_)
      refine lv_if_ne (tgt := 24) hx hb d_Lb_isJoinOf_19 (by decide) (fun c3 => ?_) (fun c3 => ?_)
      · replace h := zo_f c3 h
        refine lv_iinc (v := y4 + 1) (lv' := [(4, .int (y4 + 1)), (0, .ref (A 2)), (1, .int y1), (2, .int y2), (3, .int y3)]) hx hb d_Lb_isJoinOf_24 hl (k := 4) rfl rfl (by decide) rfl (fun ls hl => ?_)
        refine lv_goto (tgt := 3) hx hb d_Lb_isJoinOf_27 (by decide) ?_
        exact ih3 y1 y2 y3 (y4 + 1) _ _ _ h hP hD hS (lv_sub hl [1, 2, 3, 4, 0] rfl)
      replace h := zo_t c3 h
      refine lv_iconst (v := 0) hx hb d_Lb_isJoinOf_22 (by decide) ?_
      cases h
      exact W.zret hx hb hr (by decide) (fun t ht hW => ⟨⟨_, (), rfl, rfl, ka_at ht hP⟩, hS.F ht⟩) hS.2.2 d_Lb_isJoinOf_23 hlk
  refine lv_iconst (v := 0) hx hb d_Lb_isJoinOf_0 (by decide) ?_
  refine lv_istore (lv' := [(4, .int 0), (0, .ref (A 2)), (1, .int x1), (2, .int x2), (3, .int x3)]) hx hb d_Lb_isJoinOf_1 hl (by decide) rfl (fun ls hl => ?_)
  exact L3 100 x1 x2 x3 0 _ _ _ h hP hD hS (lv_sub hl [1, 2, 3, 4, 0] rfl)
def f_Lb_isNowhereAboveBoth_L3 (σ : KS) : Nat → Int32 → Int32 → Int32 → Int32 → Option (Int32)
  | 0, _, _, _, _ => none
  | n + 1, y1, y2, y3, y4 => if 8 ≤ y4 then (some 1) else ((f_Lb_levelAt σ y1 y4).bind fun v2 => (f_Lb_levelAt σ y2 y4).bind fun v3 => if v2 ≤ v3 then (f_Lb_isNowhereAboveBoth_L3 σ n y1 y2 y3 (y4 + 1)) else ((f_Lb_levelAt σ y3 y4).bind fun v5 => if v2 ≤ v5 then (f_Lb_isNowhereAboveBoth_L3 σ n y1 y2 y3 (y4 + 1)) else (some 0)))
def f_Lb_isNowhereAboveBoth (σ : KS) (x1 x2 x3 : Int32) : Option (Int32) := f_Lb_isNowhereAboveBoth_L3 σ 100 x1 x2 x3 0
set_option maxRecDepth 100000 in
set_option maxHeartbeats 4000000 in
theorem c_Lb_isNowhereAboveBoth (l : Launch) (hl9 : l.stackTraces = false) (D : va_G) (A : Nat → Nat) (r : va_W) (sz : Nat) (σ : KS) (x1 x2 x3 : Int32) (z : Int32) (h : f_Lb_isNowhereAboveBoth σ x1 x2 x3 = some z) : Met l y_Lb_isNowhereAboveBoth (Cond.code y_Lb_isNowhereAboveBoth b_Lb_isNowhereAboveBoth 6 (some .boolean) :: T0) ({ frames := 1, cells := 0, slots := 0, locals := 22 } : Room) (va_Pc [.ref (A 2), .int x1, .int x2, .int x3] (ka_Wd D A (GW A σ r) sz)) (ka_Ri D z (GW A σ r) (va_A (GW A σ r) sz)) 0 0 (va_A (GW A σ r) sz) := by
  unfold f_Lb_isNowhereAboveBoth at h
  refine ka_of (own := R_Lb) (fun A9 => ka_Ri D z (GW A σ r) A9) (by decide) rfl (Nat.le_of_ble_eq_true rfl) ?_
  intro p e s m below meth c A9 ls S9 hr hlk hex X9 hP hD hl
  obtain ⟨hx, hb, hml, hown, hts⟩ := id S9
  have hK := X9.2.1
  have hS : va_S A9 s.heap s.heap [] := va_S.rf
  replace hl : lv_has ls 6 [(0, .ref (A 2)), (1, .int x1), (2, .int x2), (3, .int x3)] := hl
  have L3 : ∀ (n : Nat) (y1 y2 y3 y4 : Int32) (H : Heap) (locs : List Loc) (ls : Array Slot), f_Lb_isNowhereAboveBoth_L3 σ n y1 y2 y3 y4 = some z → va_P D vwCl (GW A σ r) H → va_D A9 (GW A σ r) → va_S A9 s.heap H locs → lv_has ls 6 [(0, .ref (A 2)), (1, .int y1), (2, .int y2), (3, .int y3), (4, .int y4)] → W p l e ({ frames := 1, cells := 0, slots := 0, locals := 22 } : Room) s m [.ref (A 2), .int x1, .int x2, .int x3].toArray below meth c H locs 0 0 (MQ below (ka_Ri D z (GW A σ r) A9) [.ref (A 2), .int x1, .int x2, .int x3].toArray s 0 0 A9) (F0 m 3 ls []) := by
    intro n
    induction n with
    | zero => intro y1 y2 y3 y4 H locs ls h; cases h
    | succ n ih3 =>
      intro y1 y2 y3 y4 H locs ls h hP hD hS hl
      rw [f_Lb_isNowhereAboveBoth_L3] at h
      refine lv_iload hx hb d_Lb_isNowhereAboveBoth_3 (lv_at hl 4 rfl) ?_
      refine lv_bipush (v := 8) hx hb d_Lb_isNowhereAboveBoth_5 (by decide) ?_
      refine lv_icmp_ge (tgt := 51) hx hb d_Lb_isNowhereAboveBoth_7 (by decide) (fun c1 => ?_) (fun c1 => ?_)
      · replace h := zo_t c1 h
        refine lv_iconst (v := 1) hx hb d_Lb_isNowhereAboveBoth_51 (by decide) ?_
        cases h
        exact W.zret hx hb hr (by decide) (fun t ht hW => ⟨⟨_, (), rfl, rfl, ka_at ht hP⟩, hS.F ht⟩) hS.2.2 d_Lb_isNowhereAboveBoth_52 hlk
      replace h := zo_f c1 h
      refine lv_aload_n hx hb d_Lb_isNowhereAboveBoth_10 rfl (lv_at hl 0 rfl) ?_
      refine lv_iload_n hx hb d_Lb_isNowhereAboveBoth_11 rfl (lv_at hl 1 rfl) ?_
      refine lv_iload hx hb d_Lb_isNowhereAboveBoth_12 (lv_at hl 4 rfl) ?_
      obtain ⟨v2, e9, h⟩ := zo_b h
      refine ka_i (va_runV (As := [.int y1, .int y4]) (rest := []) S9 (c_Lb_levelAt l hl9 D A r _ σ y1 y4 _ e9) (cwV 2 hts (tg_V wl_Lb_32 wm_Lb_levelAt we_Lb_levelAt wi_Lb wo_Lb_levelAt) rfl rfl rfl wq_Lb_levelAt ⟨Nat.le_of_ble_eq_true rfl, Nat.le_of_ble_eq_true rfl⟩) (ka_preV X9 hP hD hS 2 rfl rfl) rfl rfl hl.1 rfl (lv_room (Nat.le_of_ble_eq_true rfl)) d_Lb_isNowhereAboveBoth_14 ⟨Nat.le_of_ble_eq_true rfl, Nat.le_of_ble_eq_true rfl⟩) X9 hD hS rfl (fun H locs hP hD hS => ?_)
      refine lv_istore (lv' := [(5, .int v2), (0, .ref (A 2)), (1, .int y1), (2, .int y2), (3, .int y3), (4, .int y4)]) hx hb d_Lb_isNowhereAboveBoth_17 hl (by decide) rfl (fun ls hl => ?_)
      refine lv_iload hx hb d_Lb_isNowhereAboveBoth_19 (lv_at hl 0 rfl) ?_
      refine lv_aload_n hx hb d_Lb_isNowhereAboveBoth_21 rfl (lv_at hl 1 rfl) ?_
      refine lv_iload_n hx hb d_Lb_isNowhereAboveBoth_22 rfl (lv_at hl 3 rfl) ?_
      refine lv_iload hx hb d_Lb_isNowhereAboveBoth_23 (lv_at hl 5 rfl) ?_
      obtain ⟨v3, e9, h⟩ := zo_b h
      refine ka_i (va_runV (As := [.int y2, .int y4]) (rest := [.int v2]) S9 (c_Lb_levelAt l hl9 D A r _ σ y2 y4 _ e9) (cwV 2 hts (tg_V wl_Lb_32 wm_Lb_levelAt we_Lb_levelAt wi_Lb wo_Lb_levelAt) rfl rfl rfl wq_Lb_levelAt ⟨Nat.le_of_ble_eq_true rfl, Nat.le_of_ble_eq_true rfl⟩) (ka_preV X9 hP hD hS 2 rfl rfl) rfl rfl hl.1 rfl (lv_room (Nat.le_of_ble_eq_true rfl)) d_Lb_isNowhereAboveBoth_25 ⟨Nat.le_of_ble_eq_true rfl, Nat.le_of_ble_eq_true rfl⟩) X9 hD hS rfl (fun H locs hP hD hS => ?_)
      refine lv_icmp_le (tgt := 45) hx hb d_Lb_isNowhereAboveBoth_28 (by decide) (fun c4 => ?_) (fun c4 => ?_)
      · replace h := zo_t c4 h
        refine lv_iinc (v := y4 + 1) (lv' := [(4, .int (y4 + 1)), (5, .int v2), (0, .ref (A 2)), (1, .int y1), (2, .int y2), (3, .int y3)]) hx hb d_Lb_isNowhereAboveBoth_45 hl (k := 5) rfl rfl (by decide) rfl (fun ls hl => ?_)
        refine lv_goto (tgt := 3) hx hb d_Lb_isNowhereAboveBoth_48 (by decide) ?_
        exact ih3 y1 y2 y3 (y4 + 1) _ _ _ h hP hD hS (lv_sub hl [2, 3, 4, 5, 0] rfl)
      replace h := zo_f c4 h
      refine lv_iload hx hb d_Lb_isNowhereAboveBoth_31 (lv_at hl 0 rfl) ?_
      refine lv_aload_n hx hb d_Lb_isNowhereAboveBoth_33 rfl (lv_at hl 1 rfl) ?_
      refine lv_iload_n hx hb d_Lb_isNowhereAboveBoth_34 rfl (lv_at hl 4 rfl) ?_
      refine lv_iload hx hb d_Lb_isNowhereAboveBoth_35 (lv_at hl 5 rfl) ?_
      obtain ⟨v5, e9, h⟩ := zo_b h
      refine ka_i (va_runV (As := [.int y3, .int y4]) (rest := [.int v2]) S9 (c_Lb_levelAt l hl9 D A r _ σ y3 y4 _ e9) (cwV 2 hts (tg_V wl_Lb_32 wm_Lb_levelAt we_Lb_levelAt wi_Lb wo_Lb_levelAt) rfl rfl rfl wq_Lb_levelAt ⟨Nat.le_of_ble_eq_true rfl, Nat.le_of_ble_eq_true rfl⟩) (ka_preV X9 hP hD hS 2 rfl rfl) rfl rfl hl.1 rfl (lv_room (Nat.le_of_ble_eq_true rfl)) d_Lb_isNowhereAboveBoth_37 ⟨Nat.le_of_ble_eq_true rfl, Nat.le_of_ble_eq_true rfl⟩) X9 hD hS rfl (fun H locs hP hD hS => ?_)
      refine lv_icmp_le (tgt := 45) hx hb d_Lb_isNowhereAboveBoth_40 (by decide) (fun c6 => ?_) (fun c6 => ?_)
      · replace h := zo_t c6 h
        refine lv_iinc (v := y4 + 1) (lv' := [(4, .int (y4 + 1)), (5, .int v2), (0, .ref (A 2)), (1, .int y1), (2, .int y2), (3, .int y3)]) hx hb d_Lb_isNowhereAboveBoth_45 hl (k := 5) rfl rfl (by decide) rfl (fun ls hl => ?_)
        refine lv_goto (tgt := 3) hx hb d_Lb_isNowhereAboveBoth_48 (by decide) ?_
        exact ih3 y1 y2 y3 (y4 + 1) _ _ _ h hP hD hS (lv_sub hl [2, 3, 4, 5, 0] rfl)
      replace h := zo_f c6 h
      refine lv_iconst (v := 0) hx hb d_Lb_isNowhereAboveBoth_43 (by decide) ?_
      cases h
      exact W.zret hx hb hr (by decide) (fun t ht hW => ⟨⟨_, (), rfl, rfl, ka_at ht hP⟩, hS.F ht⟩) hS.2.2 d_Lb_isNowhereAboveBoth_44 hlk
  refine lv_iconst (v := 0) hx hb d_Lb_isNowhereAboveBoth_0 (by decide) ?_
  refine lv_istore (lv' := [(4, .int 0), (0, .ref (A 2)), (1, .int x1), (2, .int x2), (3, .int x3)]) hx hb d_Lb_isNowhereAboveBoth_1 hl (by decide) rfl (fun ls hl => ?_)
  exact L3 100 x1 x2 x3 0 _ _ _ h hP hD hS (lv_sub hl [1, 2, 3, 4, 0] rfl)
def f_Lb_takeFrom_25_2 (σ : KS) : Option (KS) := zl (sK_packed σ (va_cpy (gN_packed σ) (gK_packed σ) (0 : Int32).toNatClampNeg (0 : Int32).toNatClampNeg (60 : Int32).toNatClampNeg)) fun u1 => zl (sK_size u1 (gN_size u1)) fun u2 => some u2
set_option maxRecDepth 100000 in
set_option maxHeartbeats 4000000 in
theorem c_Lb_takeFrom_25_2 (l : Launch) (hl9 : l.stackTraces = false) (D : va_G) (A : Nat → Nat) (r : va_W) (sz : Nat) (σ : KS) (z : KS) (h : f_Lb_takeFrom_25_2 σ = some z) : Met l y_Lb_takeFrom (Cond.code y_Lb_takeFrom b_Lb_takeFrom 2 none :: T0) ({ frames := 1, cells := 0, slots := 0, locals := 60 } : Room) (va_Pc [.ref (A 25), .ref (A 2)] (ka_Wd D A (GW A σ r) sz)) (ka_Rv D (GW A z r) (va_A (GW A σ r) sz)) 0 0 (va_A (GW A σ r) sz) := by
  unfold f_Lb_takeFrom_25_2 at h
  refine ka_of (own := R_Lb) (fun A9 => ka_Rv D (GW A z r) A9) (by decide) rfl (Nat.le_of_ble_eq_true rfl) ?_
  intro p e s m below meth c A9 ls S9 hr hlk hex X9 hP hD hl
  obtain ⟨hx, hb, hml, hown, hts⟩ := id S9
  have hK := X9.2.1
  have hS : va_S A9 s.heap s.heap [] := va_S.rf
  replace hl : lv_has ls 2 [(0, .ref (A 25)), (1, .ref (A 2))] := hl
  refine lv_aload_n hx hb d_Lb_takeFrom_0 rfl (lv_at hl 1 rfl) ?_
  refine va_get (D := D) (ci := 0) (v := .ref (A 3)) (C := R_Lb) (T := T_Lb) (N := 2) hx hb hts wu_Lb hown hK hP 2 rfl rfl 0 (by decide) (hts _ wf_Lb_9) (fun _ h9 => h9) rfl d_Lb_takeFrom_1 ?_
  refine lv_iconst (v := 0) hx hb d_Lb_takeFrom_4 (by decide) ?_
  refine lv_aload_n hx hb d_Lb_takeFrom_5 rfl (lv_at hl 0 rfl) ?_
  refine va_get (D := D) (ci := 0) (v := .ref (A 26)) (C := R_Lb) (T := T_Lb) (N := 2) hx hb hts wu_Lb hown hK hP 25 rfl rfl 0 (by decide) (hts _ wf_Lb_9) (fun _ h9 => h9) rfl d_Lb_takeFrom_6 ?_
  refine lv_iconst (v := 0) hx hb d_Lb_takeFrom_9 (by decide) ?_
  refine lv_aload_n hx hb d_Lb_takeFrom_10 rfl (lv_at hl 0 rfl) ?_
  refine va_get (D := D) (ci := 0) (v := .ref (A 26)) (C := R_Lb) (T := T_Lb) (N := 2) hx hb hts wu_Lb hown hK hP 25 rfl rfl 0 (by decide) (hts _ wf_Lb_9) (fun _ h9 => h9) rfl d_Lb_takeFrom_11 ?_
  refine va_alen (v := 60) hx hb hK hP 26 0 rfl rfl rfl d_Lb_takeFrom_14 ?_
  obtain ⟨u1, hu9, h⟩ := zo_l h
  refine va_copyi hx hb (hml.trans hl.1.symm) hown (hts _ wl_Lb_21) (hts _ wv_copy) (hts _ ws_copy) (hts _ wi_System) hK hP hD hS 3 26 0 0 rfl rfl rfl rfl rfl (by decide) (by decide) (by decide) (by decide) (by decide) (fun _ _ => rfl) (Nat.le_of_ble_eq_true rfl) (by decide) d_Lb_takeFrom_15 (fun H locs hP hD hS => ?_)
  replace hP : va_P D vwCl (GW A u1 r) H := by rw [hu9]; exact hP
  replace hD : va_D A9 (GW A u1 r) := by rw [hu9]; exact hD
  refine lv_aload_n hx hb d_Lb_takeFrom_18 rfl (lv_at hl 0 rfl) ?_
  refine lv_aload_n hx hb d_Lb_takeFrom_19 rfl (lv_at hl 1 rfl) ?_
  refine va_get (D := D) (ci := 0) (v := .int (gN_size u1)) (C := R_Lb) (T := T_Lb) (N := 2) hx hb hts wu_Lb hown hK hP 2 rfl rfl 1 (by decide) (hts _ wf_Lb_17) (fun _ h9 => h9) rfl d_Lb_takeFrom_20 ?_
  obtain ⟨u2, hu9, h⟩ := zo_l h
  refine va_put (D := D) (ci := 0) (v := .int (gN_size u1)) (ty := .int) (C := R_Lb) (T := T_Lb) (N := 2) hx hb hts wu_Lb ft_Lb fk_Lb nm_Lb hown hK hP hD hS 25 rfl rfl 1 (by decide) (hts _ wf_Lb_17) (fun _ h9 => h9) rfl (by decide +kernel) rfl rfl (Nat.le_of_ble_eq_true rfl) d_Lb_takeFrom_23 (fun H locs hP hD hS => ?_)
  replace hP : va_P D vwCl (GW A u2 r) H := by rw [hu9]; exact hP
  replace hD : va_D A9 (GW A u2 r) := by rw [hu9]; exact hD
  cases h
  exact W.vret hx hb hr (fun t ht hW => ⟨⟨(), rfl, trivial, ka_at ht hP⟩, hS.F ht⟩) hS.2.2 d_Lb_takeFrom_26 hlk
def f_Lb_takeFrom_2_25 (σ : KS) : Option (KS) := zl (sN_packed σ (va_cpy (gK_packed σ) (gN_packed σ) (0 : Int32).toNatClampNeg (0 : Int32).toNatClampNeg (60 : Int32).toNatClampNeg)) fun u1 => zl (sN_size u1 (gK_size u1)) fun u2 => some u2
set_option maxRecDepth 100000 in
set_option maxHeartbeats 4000000 in
theorem c_Lb_takeFrom_2_25 (l : Launch) (hl9 : l.stackTraces = false) (D : va_G) (A : Nat → Nat) (r : va_W) (sz : Nat) (σ : KS) (z : KS) (h : f_Lb_takeFrom_2_25 σ = some z) : Met l y_Lb_takeFrom (Cond.code y_Lb_takeFrom b_Lb_takeFrom 2 none :: T0) ({ frames := 1, cells := 0, slots := 0, locals := 60 } : Room) (va_Pc [.ref (A 2), .ref (A 25)] (ka_Wd D A (GW A σ r) sz)) (ka_Rv D (GW A z r) (va_A (GW A σ r) sz)) 0 0 (va_A (GW A σ r) sz) := by
  unfold f_Lb_takeFrom_2_25 at h
  refine ka_of (own := R_Lb) (fun A9 => ka_Rv D (GW A z r) A9) (by decide) rfl (Nat.le_of_ble_eq_true rfl) ?_
  intro p e s m below meth c A9 ls S9 hr hlk hex X9 hP hD hl
  obtain ⟨hx, hb, hml, hown, hts⟩ := id S9
  have hK := X9.2.1
  have hS : va_S A9 s.heap s.heap [] := va_S.rf
  replace hl : lv_has ls 2 [(0, .ref (A 2)), (1, .ref (A 25))] := hl
  refine lv_aload_n hx hb d_Lb_takeFrom_0 rfl (lv_at hl 1 rfl) ?_
  refine va_get (D := D) (ci := 0) (v := .ref (A 26)) (C := R_Lb) (T := T_Lb) (N := 2) hx hb hts wu_Lb hown hK hP 25 rfl rfl 0 (by decide) (hts _ wf_Lb_9) (fun _ h9 => h9) rfl d_Lb_takeFrom_1 ?_
  refine lv_iconst (v := 0) hx hb d_Lb_takeFrom_4 (by decide) ?_
  refine lv_aload_n hx hb d_Lb_takeFrom_5 rfl (lv_at hl 0 rfl) ?_
  refine va_get (D := D) (ci := 0) (v := .ref (A 3)) (C := R_Lb) (T := T_Lb) (N := 2) hx hb hts wu_Lb hown hK hP 2 rfl rfl 0 (by decide) (hts _ wf_Lb_9) (fun _ h9 => h9) rfl d_Lb_takeFrom_6 ?_
  refine lv_iconst (v := 0) hx hb d_Lb_takeFrom_9 (by decide) ?_
  refine lv_aload_n hx hb d_Lb_takeFrom_10 rfl (lv_at hl 0 rfl) ?_
  refine va_get (D := D) (ci := 0) (v := .ref (A 3)) (C := R_Lb) (T := T_Lb) (N := 2) hx hb hts wu_Lb hown hK hP 2 rfl rfl 0 (by decide) (hts _ wf_Lb_9) (fun _ h9 => h9) rfl d_Lb_takeFrom_11 ?_
  refine va_alen (v := 60) hx hb hK hP 3 0 rfl rfl rfl d_Lb_takeFrom_14 ?_
  obtain ⟨u1, hu9, h⟩ := zo_l h
  refine va_copyi hx hb (hml.trans hl.1.symm) hown (hts _ wl_Lb_21) (hts _ wv_copy) (hts _ ws_copy) (hts _ wi_System) hK hP hD hS 26 3 0 0 rfl rfl rfl rfl rfl (by decide) (by decide) (by decide) (by decide) (by decide) (fun _ _ => rfl) (Nat.le_of_ble_eq_true rfl) (by decide) d_Lb_takeFrom_15 (fun H locs hP hD hS => ?_)
  replace hP : va_P D vwCl (GW A u1 r) H := by rw [hu9]; exact hP
  replace hD : va_D A9 (GW A u1 r) := by rw [hu9]; exact hD
  refine lv_aload_n hx hb d_Lb_takeFrom_18 rfl (lv_at hl 0 rfl) ?_
  refine lv_aload_n hx hb d_Lb_takeFrom_19 rfl (lv_at hl 1 rfl) ?_
  refine va_get (D := D) (ci := 0) (v := .int (gK_size u1)) (C := R_Lb) (T := T_Lb) (N := 2) hx hb hts wu_Lb hown hK hP 25 rfl rfl 1 (by decide) (hts _ wf_Lb_17) (fun _ h9 => h9) rfl d_Lb_takeFrom_20 ?_
  obtain ⟨u2, hu9, h⟩ := zo_l h
  refine va_put (D := D) (ci := 0) (v := .int (gK_size u1)) (ty := .int) (C := R_Lb) (T := T_Lb) (N := 2) hx hb hts wu_Lb ft_Lb fk_Lb nm_Lb hown hK hP hD hS 2 rfl rfl 1 (by decide) (hts _ wf_Lb_17) (fun _ h9 => h9) rfl (by decide +kernel) rfl rfl (Nat.le_of_ble_eq_true rfl) d_Lb_takeFrom_23 (fun H locs hP hD hS => ?_)
  replace hP : va_P D vwCl (GW A u2 r) H := by rw [hu9]; exact hP
  replace hD : va_D A9 (GW A u2 r) := by rw [hu9]; exact hD
  cases h
  exact W.vret hx hb hr (fun t ht hW => ⟨⟨(), rfl, trivial, ka_at ht hP⟩, hS.F ht⟩) hS.2.2 d_Lb_takeFrom_26 hlk
def f_Lb_howMany (σ : KS) : Option (Int32) := some (gN_size σ)
set_option maxRecDepth 100000 in
set_option maxHeartbeats 4000000 in
theorem c_Lb_howMany (l : Launch) (hl9 : l.stackTraces = false) (D : va_G) (A : Nat → Nat) (r : va_W) (sz : Nat) (σ : KS) (z : Int32) (h : f_Lb_howMany σ = some z) : Met l y_Lb_howMany (Cond.code y_Lb_howMany b_Lb_howMany 1 (some .int) :: T0) ({ frames := 0, cells := 0, slots := 0, locals := 0 } : Room) (va_Pc [.ref (A 2)] (ka_Wd D A (GW A σ r) sz)) (ka_Ri D z (GW A σ r) (va_A (GW A σ r) sz)) 0 0 (va_A (GW A σ r) sz) := by
  unfold f_Lb_howMany at h
  refine ka_of (own := R_Lb) (fun A9 => ka_Ri D z (GW A σ r) A9) (by decide) rfl (Nat.le_of_ble_eq_true rfl) ?_
  intro p e s m below meth c A9 ls S9 hr hlk hex X9 hP hD hl
  obtain ⟨hx, hb, hml, hown, hts⟩ := id S9
  have hK := X9.2.1
  have hS : va_S A9 s.heap s.heap [] := va_S.rf
  replace hl : lv_has ls 1 [(0, .ref (A 2))] := hl
  refine lv_aload_n hx hb d_Lb_howMany_0 rfl (lv_at hl 0 rfl) ?_
  refine va_get (D := D) (ci := 0) (v := .int (gN_size σ)) (C := R_Lb) (T := T_Lb) (N := 2) hx hb hts wu_Lb hown hK hP 2 rfl rfl 1 (by decide) (hts _ wf_Lb_17) (fun _ h9 => h9) rfl d_Lb_howMany_1 ?_
  cases h
  exact W.iret hx hb hr (fun t ht hW => ⟨⟨_, (), rfl, rfl, ka_at ht hP⟩, hS.F ht⟩) hS.2.2 d_Lb_howMany_4 hlk
