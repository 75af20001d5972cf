def f_Lb_has (σ : KS) (x1 : Int32) : Option (Int32) := if x1 < 0 then (some 0) else (if (gN_size σ) ≤ x1 then (some 0) else (some 1))
set_option maxRecDepth 100000 in
set_option maxHeartbeats 4000000 in
theorem c_Lb_has (l : Launch) (hl9 : l.stackTraces = false) (D : va_G) (A : Nat → Nat) (r : va_W) (sz : Nat) (σ : KS) (x1 : Int32) (z : Int32) (h : f_Lb_has σ x1 = some z) : Met l y_Lb_has (Cond.code y_Lb_has b_Lb_has 2 (some .boolean) :: T0) ({ frames := 0, cells := 0, slots := 0, locals := 0 } : Room) (va_Pc [.ref (A 2), .int x1] (ka_Wd D A (GW A σ r) sz)) (ka_Ri D z (GW A σ r) (va_A (GW A σ r) sz)) 0 0 (va_A (GW A σ r) sz) := by
  unfold f_Lb_has at h
  refine ka_of (own := R_Lb) (fun A9 => ka_Ri D z (GW A σ r) A9) (by decide) rfl (Nat.le_of_ble_eq_true rfl) ?_
  intro p e s m below meth c A9 ls S9 hr hlk hex X9 hP hD hl
  obtain ⟨hx, hb, hml, hown, hts⟩ := id S9
  have hK := X9.2.1
  have hS : va_S A9 s.heap s.heap [] := va_S.rf
  replace hl : lv_has ls 2 [(0, .ref (A 2)), (1, .int x1)] := hl
  refine lv_iload_n hx hb d_Lb_has_0 rfl (lv_at hl 1 rfl) ?_
  refine lv_if_lt (tgt := 16) hx hb d_Lb_has_1 (by decide) (fun c9 => ?_) (fun c9 => ?_)
  · replace h := zo_t c9 h
    refine lv_iconst (v := 0) hx hb d_Lb_has_16 (by decide) ?_
    cases h
    exact W.zret hx hb hr (by decide) (fun t ht hW => ⟨⟨_, (), rfl, rfl, ka_at ht hP⟩, hS.F ht⟩) hS.2.2 d_Lb_has_17 hlk
  replace h := zo_f c9 h
  refine lv_iload_n hx hb d_Lb_has_4 rfl (lv_at hl 1 rfl) ?_
  refine lv_aload_n hx hb d_Lb_has_5 rfl (lv_at hl 0 rfl) ?_
  refine va_get (D := D) (ci := 0) (v := .int (gN_size σ)) (C := R_Lb) (T := T_Lb) (N := 2) hx hb hts wu_Lb hown hK hP 2 rfl rfl 1 (by decide) (hts _ wf_Lb_17) (fun _ h9 => h9) rfl d_Lb_has_6 ?_
  refine lv_icmp_ge (tgt := 16) hx hb d_Lb_has_9 (by decide) (fun c9 => ?_) (fun c9 => ?_)
  · replace h := zo_t c9 h
    refine lv_iconst (v := 0) hx hb d_Lb_has_16 (by decide) ?_
    cases h
    exact W.zret hx hb hr (by decide) (fun t ht hW => ⟨⟨_, (), rfl, rfl, ka_at ht hP⟩, hS.F ht⟩) hS.2.2 d_Lb_has_17 hlk
  replace h := zo_f c9 h
  refine lv_iconst (v := 1) hx hb d_Lb_has_12 (by decide) ?_
  refine lv_goto (tgt := 17) hx hb d_Lb_has_13 (by decide) ?_
  cases h
  exact W.zret hx hb hr (by decide) (fun t ht hW => ⟨⟨_, (), rfl, rfl, ka_at ht hP⟩, hS.F ht⟩) hS.2.2 d_Lb_has_17 hlk
def f_Lb_changed (σ : KS) (x1 x2 x3 : Int32) : Option (Int32) := if x1 < 0 ∨ 60 ≤ (x1).toNatClampNeg then none else some (((gN_packed σ (x1).toNatClampNeg) &&& ((15 <<< ((4 * x2) &&& 31)) ^^^ (-1))) ||| (x3 <<< ((4 * x2) &&& 31)))
set_option maxRecDepth 100000 in
set_option maxHeartbeats 4000000 in
theorem c_Lb_changed (l : Launch) (hl9 : l.stackTraces = false) (D : va_G) (A : Nat → Nat) (r : va_W) (sz : Nat) (σ : KS) (x1 x2 x3 : Int32) (z : Int32) (h : f_Lb_changed σ x1 x2 x3 = some z) : Met l y_Lb_changed (Cond.code y_Lb_changed b_Lb_changed 5 (some .int) :: T0) ({ frames := 0, cells := 0, slots := 0, locals := 0 } : Room) (va_Pc [.ref (A 2), .int x1, .int x2, .int x3] (ka_Wd D A (GW A σ r) sz)) (ka_Ri D z (GW A σ r) (va_A (GW A σ r) sz)) 0 0 (va_A (GW A σ r) sz) := by
  unfold f_Lb_changed at h
  refine ka_of (own := R_Lb) (fun A9 => ka_Ri D z (GW A σ r) A9) (by decide) rfl (Nat.le_of_ble_eq_true rfl) ?_
  intro p e s m below meth c A9 ls S9 hr hlk hex X9 hP hD hl
  obtain ⟨hx, hb, hml, hown, hts⟩ := id S9
  have hK := X9.2.1
  have hS : va_S A9 s.heap s.heap [] := va_S.rf
  replace hl : lv_has ls 5 [(0, .ref (A 2)), (1, .int x1), (2, .int x2), (3, .int x3)] := hl
  refine lv_iconst (v := 4) hx hb d_Lb_changed_0 (by decide) ?_
  refine lv_iload_n hx hb d_Lb_changed_1 rfl (lv_at hl 2 rfl) ?_
  refine lv_imul hx hb d_Lb_changed_2 ?_
  refine lv_istore (lv' := [(4, .int (4 * x2)), (0, .ref (A 2)), (1, .int x1), (2, .int x2), (3, .int x3)]) hx hb d_Lb_changed_3 hl (by decide) rfl (fun ls hl => ?_)
  refine lv_aload_n hx hb d_Lb_changed_5 rfl (lv_at hl 1 rfl) ?_
  refine va_get (D := D) (ci := 0) (v := .ref (A 3)) (C := R_Lb) (T := T_Lb) (N := 2) hx hb hts wu_Lb hown hK hP 2 rfl rfl 0 (by decide) (hts _ wf_Lb_9) (fun _ h9 => h9) rfl d_Lb_changed_6 ?_
  refine lv_iload_n hx hb d_Lb_changed_9 rfl (lv_at hl 2 rfl) ?_
  obtain ⟨i9, h⟩ := zo_i h
  refine va_iald hx hb hK hP 3 0 rfl rfl i9 d_Lb_changed_10 ?_
  refine lv_bipush (v := 15) hx hb d_Lb_changed_11 (by decide) ?_
  refine lv_iload hx hb d_Lb_changed_13 (lv_at hl 0 rfl) ?_
  refine lv_ishl hx hb d_Lb_changed_15 ?_
  refine lv_iconst (v := (-1)) hx hb d_Lb_changed_16 (by decide) ?_
  refine lv_ixor hx hb d_Lb_changed_17 ?_
  refine lv_iand hx hb d_Lb_changed_18 ?_
  refine lv_iload_n hx hb d_Lb_changed_19 rfl (lv_at hl 4 rfl) ?_
  refine lv_iload hx hb d_Lb_changed_20 (lv_at hl 0 rfl) ?_
  refine lv_ishl hx hb d_Lb_changed_22 ?_
  refine lv_ior hx hb d_Lb_changed_23 ?_
  cases h
  exact W.iret hx hb hr (fun t ht hW => ⟨⟨_, (), rfl, rfl, ka_at ht hP⟩, hS.F ht⟩) hS.2.2 d_Lb_changed_24 hlk
def f_Lb_indexOf_L2 (σ : KS) : Nat → Int32 → Int32 → Option (Int32)
  | 0, _, _ => none
  | n + 1, y1, y2 => if (gN_size σ) ≤ y2 then (some (-1)) else (if y2 < 0 ∨ 60 ≤ (y2).toNatClampNeg then none else if (gN_packed σ (y2).toNatClampNeg) = y1 then (some y2) else (f_Lb_indexOf_L2 σ n y1 (y2 + 1)))
def f_Lb_indexOf (σ : KS) (x1 : Int32) : Option (Int32) := f_Lb_indexOf_L2 σ 100 x1 0
set_option maxRecDepth 100000 in
set_option maxHeartbeats 4000000 in
theorem c_Lb_indexOf (l : Launch) (hl9 : l.stackTraces = false) (D : va_G) (A : Nat → Nat) (r : va_W) (sz : Nat) (σ : KS) (x1 : Int32) (z : Int32) (h : f_Lb_indexOf σ x1 = some z) : Met l y_Lb_indexOf (Cond.code y_Lb_indexOf b_Lb_indexOf 3 (some .int) :: T0) ({ frames := 0, cells := 0, slots := 0, locals := 0 } : Room) (va_Pc [.ref (A 2), .int x1] (ka_Wd D A (GW A σ r) sz)) (ka_Ri D z (GW A σ r) (va_A (GW A σ r) sz)) 0 0 (va_A (GW A σ r) sz) := by
  unfold f_Lb_indexOf at h
  refine ka_of (own := R_Lb) (fun A9 => ka_Ri D z (GW A σ r) A9) (by decide) rfl (Nat.le_of_ble_eq_true rfl) ?_
  intro p e s m below meth c A9 ls S9 hr hlk hex X9 hP hD hl
  obtain ⟨hx, hb, hml, hown, hts⟩ := id S9
  have hK := X9.2.1
  have hS : va_S A9 s.heap s.heap [] := va_S.rf
  replace hl : lv_has ls 3 [(0, .ref (A 2)), (1, .int x1)] := hl
  have L2 : ∀ (n : Nat) (y1 y2 : Int32) (H : Heap) (locs : List Loc) (ls : Array Slot), f_Lb_indexOf_L2 σ n y1 y2 = some z → va_P D vwCl (GW A σ r) H → va_D A9 (GW A σ r) → va_S A9 s.heap H locs → lv_has ls 3 [(0, .ref (A 2)), (1, .int y1), (2, .int y2)] → W p l e ({ frames := 0, cells := 0, slots := 0, locals := 0 } : Room) s m [.ref (A 2), .int x1].toArray below meth c H locs 0 0 (MQ below (ka_Ri D z (GW A σ r) A9) [.ref (A 2), .int x1].toArray s 0 0 A9) (F0 m 2 ls []) := by
    intro n
    induction n with
    | zero => intro y1 y2 H locs ls h; cases h
    | succ n ih2 =>
      intro y1 y2 H locs ls h hP hD hS hl
      rw [f_Lb_indexOf_L2] at h
      refine lv_iload_n hx hb d_Lb_indexOf_2 rfl (lv_at hl 2 rfl) ?_
      refine lv_aload_n hx hb d_Lb_indexOf_3 rfl (lv_at hl 0 rfl) ?_
      refine va_get (D := D) (ci := 0) (v := .int (gN_size σ)) (C := R_Lb) (T := T_Lb) (N := 2) hx hb hts wu_Lb hown hK hP 2 rfl rfl 1 (by decide) (hts _ wf_Lb_17) (fun _ h9 => h9) rfl d_Lb_indexOf_4 ?_
      refine lv_icmp_ge (tgt := 28) hx hb d_Lb_indexOf_7 (by decide) (fun c9 => ?_) (fun c9 => ?_)
      · replace h := zo_t c9 h
        refine lv_iconst (v := (-1)) hx hb d_Lb_indexOf_28 (by decide) ?_
        cases h
        exact W.iret hx hb hr (fun t ht hW => ⟨⟨_, (), rfl, rfl, ka_at ht hP⟩, hS.F ht⟩) hS.2.2 d_Lb_indexOf_29 hlk
      replace h := zo_f c9 h
      refine lv_aload_n hx hb d_Lb_indexOf_10 rfl (lv_at hl 0 rfl) ?_
      refine va_get (D := D) (ci := 0) (v := .ref (A 3)) (C := R_Lb) (T := T_Lb) (N := 2) hx hb hts wu_Lb hown hK hP 2 rfl rfl 0 (by decide) (hts _ wf_Lb_9) (fun _ h9 => h9) rfl d_Lb_indexOf_11 ?_
      refine lv_iload_n hx hb d_Lb_indexOf_14 rfl (lv_at hl 2 rfl) ?_
      obtain ⟨i9, h⟩ := zo_i h
      refine va_iald hx hb hK hP 3 0 rfl rfl i9 d_Lb_indexOf_15 ?_
      refine lv_iload_n hx hb d_Lb_indexOf_16 rfl (lv_at hl 1 rfl) ?_
      refine lv_icmp_ne (tgt := 22) hx hb d_Lb_indexOf_17 (by decide) (fun c9 => ?_) (fun c9 => ?_)
      · replace h := zo_f c9 h
        refine lv_iinc (v := y2 + 1) (lv' := [(2, .int (y2 + 1)), (0, .ref (A 2)), (1, .int y1)]) hx hb d_Lb_indexOf_22 hl (k := 2) rfl rfl (by decide) rfl (fun ls hl => ?_)
        refine lv_goto (tgt := 2) hx hb d_Lb_indexOf_25 (by decide) ?_
        exact ih2 y1 (y2 + 1) _ _ _ h hP hD hS (lv_sub hl [1, 2, 0] rfl)
      replace h := zo_t c9 h
      refine lv_iload_n hx hb d_Lb_indexOf_20 rfl (lv_at hl 2 rfl) ?_
      cases h
      exact W.iret hx hb hr (fun t ht hW => ⟨⟨_, (), rfl, rfl, ka_at ht hP⟩, hS.F ht⟩) hS.2.2 d_Lb_indexOf_21 hlk
  refine lv_iconst (v := 0) hx hb d_Lb_indexOf_0 (by decide) ?_
  refine lv_istore_n (lv' := [(2, .int 0), (0, .ref (A 2)), (1, .int x1)]) hx hb d_Lb_indexOf_1 rfl hl (by decide) rfl (fun ls hl => ?_)
  exact L2 100 x1 0 _ _ _ h hP hD hS (lv_sub hl [1, 2, 0] rfl)
def f_Lb_missing (σ : KS) (x1 : Int32) : Option (Int32) := (f_Lb_indexOf σ x1).bind fun v1 => if v1 = (-1) then (some 1) else (some 0)
set_option maxRecDepth 100000 in
set_option maxHeartbeats 4000000 in
theorem c_Lb_missing (l : Launch) (hl9 : l.stackTraces = false) (D : va_G) (A : Nat → Nat) (r : va_W) (sz : Nat) (σ : KS) (x1 : Int32) (z : Int32) (h : f_Lb_missing σ x1 = some z) : Met l y_Lb_missing (Cond.code y_Lb_missing b_Lb_missing 2 (some .int) :: T0) ({ frames := 1, cells := 0, slots := 0, locals := 22 } : Room) (va_Pc [.ref (A 2), .int x1] (ka_Wd D A (GW A σ r) sz)) (ka_Ri D z (GW A σ r) (va_A (GW A σ r) sz)) 0 0 (va_A (GW A σ r) sz) := by
  unfold f_Lb_missing at h
  refine ka_of (own := R_Lb) (fun A9 => ka_Ri D z (GW A σ r) A9) (by decide) rfl (Nat.le_of_ble_eq_true rfl) ?_
  intro p e s m below meth c A9 ls S9 hr hlk hex X9 hP hD hl
  obtain ⟨hx, hb, hml, hown, hts⟩ := id S9
  have hK := X9.2.1
  have hS : va_S A9 s.heap s.heap [] := va_S.rf
  replace hl : lv_has ls 2 [(0, .ref (A 2)), (1, .int x1)] := hl
  refine lv_aload_n hx hb d_Lb_missing_0 rfl (lv_at hl 0 rfl) ?_
  refine lv_iload_n hx hb d_Lb_missing_1 rfl (lv_at hl 1 rfl) ?_
  obtain ⟨v1, e9, h⟩ := zo_b h
  refine ka_i (va_runV (As := [.int x1]) (rest := []) S9 (c_Lb_indexOf l hl9 D A r _ σ x1 _ e9) (cwV 1 hts (tg_V wl_Lb_44 wm_Lb_indexOf we_Lb_indexOf wi_Lb wo_Lb_indexOf) rfl rfl rfl wq_Lb_indexOf ⟨Nat.le_of_ble_eq_true rfl, Nat.le_of_ble_eq_true rfl⟩) (ka_preV X9 hP hD hS 2 rfl rfl) rfl rfl hl.1 rfl (lv_room (Nat.le_of_ble_eq_true rfl)) d_Lb_missing_2 ⟨Nat.le_of_ble_eq_true rfl, Nat.le_of_ble_eq_true rfl⟩) X9 hD hS rfl (fun H locs hP hD hS => ?_)
  refine lv_iconst (v := (-1)) hx hb d_Lb_missing_5 (by decide) ?_
  refine lv_icmp_ne (tgt := 13) hx hb d_Lb_missing_6 (by decide) (fun c9 => ?_) (fun c9 => ?_)
  · replace h := zo_f c9 h
    refine lv_iconst (v := 0) hx hb d_Lb_missing_13 (by decide) ?_
    cases h
    exact W.iret hx hb hr (fun t ht hW => ⟨⟨_, (), rfl, rfl, ka_at ht hP⟩, hS.F ht⟩) hS.2.2 d_Lb_missing_14 hlk
  replace h := zo_t c9 h
  refine lv_iconst (v := 1) hx hb d_Lb_missing_9 (by decide) ?_
  refine lv_goto (tgt := 14) hx hb d_Lb_missing_10 (by decide) ?_
  cases h
  exact W.iret hx hb hr (fun t ht hW => ⟨⟨_, (), rfl, rfl, ka_at ht hP⟩, hS.F ht⟩) hS.2.2 d_Lb_missing_14 hlk
def f_Lb_free (σ : KS) : Option (Int32) := some (60 - (gN_size σ))
set_option maxRecDepth 100000 in
set_option maxHeartbeats 4000000 in
theorem c_Lb_free (l : Launch) (hl9 : l.stackTraces = false) (D : va_G) (A : Nat → Nat) (r : va_W) (sz : Nat) (σ : KS) (z : Int32) (h : f_Lb_free σ = some z) : Met l y_Lb_free (Cond.code y_Lb_free b_Lb_free 1 (some .int) :: T0) ({ frames := 0, cells := 0, slots := 0, locals := 0 } : Room) (va_Pc [.ref (A 2)] (ka_Wd D A (GW A σ r) sz)) (ka_Ri D z (GW A σ r) (va_A (GW A σ r) sz)) 0 0 (va_A (GW A σ r) sz) := by
  unfold f_Lb_free at h
  refine ka_of (own := R_Lb) (fun A9 => ka_Ri D z (GW A σ r) A9) (by decide) rfl (Nat.le_of_ble_eq_true rfl) ?_
  intro p e s m below meth c A9 ls S9 hr hlk hex X9 hP hD hl
  obtain ⟨hx, hb, hml, hown, hts⟩ := id S9
  have hK := X9.2.1
  have hS : va_S A9 s.heap s.heap [] := va_S.rf
  replace hl : lv_has ls 1 [(0, .ref (A 2))] := hl
  refine lv_bipush (v := 60) hx hb d_Lb_free_0 (by decide) ?_
  refine lv_aload_n hx hb d_Lb_free_2 rfl (lv_at hl 0 rfl) ?_
  refine va_get (D := D) (ci := 0) (v := .int (gN_size σ)) (C := R_Lb) (T := T_Lb) (N := 2) hx hb hts wu_Lb hown hK hP 2 rfl rfl 1 (by decide) (hts _ wf_Lb_17) (fun _ h9 => h9) rfl d_Lb_free_3 ?_
  refine lv_isub hx hb d_Lb_free_6 ?_
  cases h
  exact W.iret hx hb hr (fun t ht hW => ⟨⟨_, (), rfl, rfl, ka_at ht hP⟩, hS.F ht⟩) hS.2.2 d_Lb_free_7 hlk
def f_Lb_numberOf (σ : KS) (x1 : Int32) : Option (Int32 × KS) := (f_Lb_indexOf σ x1).bind fun v1 => if v1 = (-1) then (if 60 ≤ (gN_size σ) then (some (v1, σ)) else (if (gN_size σ) < 0 ∨ 60 ≤ (gN_size σ).toNatClampNeg then none else some (gN_size σ, sN_size (sN_packed σ (upd (gN_packed σ) (gN_size σ).toNatClampNeg x1)) ((gN_size (sN_packed σ (upd (gN_packed σ) (gN_size σ).toNatClampNeg x1))) + 1)))) else (some (v1, σ))
set_option maxRecDepth 100000 in
set_option maxHeartbeats 4000000 in
theorem c_Lb_numberOf (l : Launch) (hl9 : l.stackTraces = false) (D : va_G) (A : Nat → Nat) (r : va_W) (sz : Nat) (σ : KS) (x1 : Int32) (z : Int32 × KS) (h : f_Lb_numberOf σ x1 = some z) : Met l y_Lb_numberOf (Cond.code y_Lb_numberOf b_Lb_numberOf 3 (some .int) :: T0) ({ frames := 1, cells := 0, slots := 0, locals := 22 } : Room) (va_Pc [.ref (A 2), .int x1] (ka_Wd D A (GW A σ r) sz)) (ka_Ri D z.1 (GW A z.2 r) (va_A (GW A σ r) sz)) 0 0 (va_A (GW A σ r) sz) := by
  unfold f_Lb_numberOf at h
  refine ka_of (own := R_Lb) (fun A9 => ka_Ri D z.1 (GW A z.2 r) A9) (by decide) rfl (Nat.le_of_ble_eq_true rfl) ?_
  intro p e s m below meth c A9 ls S9 hr hlk hex X9 hP hD hl
  obtain ⟨hx, hb, hml, hown, hts⟩ := id S9
  have hK := X9.2.1
  have hS : va_S A9 s.heap s.heap [] := va_S.rf
  replace hl : lv_has ls 3 [(0, .ref (A 2)), (1, .int x1)] := hl
  refine lv_aload_n hx hb d_Lb_numberOf_0 rfl (lv_at hl 0 rfl) ?_
  refine lv_iload_n hx hb d_Lb_numberOf_1 rfl (lv_at hl 1 rfl) ?_
  obtain ⟨v1, e9, h⟩ := zo_b h
  refine ka_i (va_runV (As := [.int x1]) (rest := []) S9 (c_Lb_indexOf l hl9 D A r _ σ x1 _ e9) (cwV 1 hts (tg_V wl_Lb_44 wm_Lb_indexOf we_Lb_indexOf wi_Lb wo_Lb_indexOf) rfl rfl rfl wq_Lb_indexOf ⟨Nat.le_of_ble_eq_true rfl, Nat.le_of_ble_eq_true rfl⟩) (ka_preV X9 hP hD hS 2 rfl rfl) rfl rfl hl.1 rfl (lv_room (Nat.le_of_ble_eq_true rfl)) d_Lb_numberOf_2 ⟨Nat.le_of_ble_eq_true rfl, Nat.le_of_ble_eq_true rfl⟩) X9 hD hS rfl (fun H locs hP hD hS => ?_)
  refine lv_istore_n (lv' := [(2, .int v1), (0, .ref (A 2)), (1, .int x1)]) hx hb d_Lb_numberOf_5 rfl hl (by decide) rfl (fun ls hl => ?_)
  refine lv_iload_n hx hb d_Lb_numberOf_6 rfl (lv_at hl 0 rfl) ?_
  refine lv_iconst (v := (-1)) hx hb d_Lb_numberOf_7 (by decide) ?_
  refine lv_icmp_ne (tgt := 42) hx hb d_Lb_numberOf_8 (by decide) (fun c9 => ?_) (fun c9 => ?_)
  · replace h := zo_f c9 h
    refine lv_iload_n hx hb d_Lb_numberOf_42 rfl (lv_at hl 0 rfl) ?_
    cases h
    exact W.iret hx hb hr (fun t ht hW => ⟨⟨_, (), rfl, rfl, ka_at ht hP⟩, hS.F ht⟩) hS.2.2 d_Lb_numberOf_43 hlk
  replace h := zo_t c9 h
  refine lv_aload_n hx hb d_Lb_numberOf_11 rfl (lv_at hl 1 rfl) ?_
  refine va_get (D := D) (ci := 0) (v := .int (gN_size σ)) (C := R_Lb) (T := T_Lb) (N := 2) hx hb hts wu_Lb hown hK hP 2 rfl rfl 1 (by decide) (hts _ wf_Lb_17) (fun _ h9 => h9) rfl d_Lb_numberOf_12 ?_
  refine lv_bipush (v := 60) hx hb d_Lb_numberOf_15 (by decide) ?_
  refine lv_icmp_ge (tgt := 42) hx hb d_Lb_numberOf_17 (by decide) (fun c9 => ?_) (fun c9 => ?_)
  · replace h := zo_t c9 h
    refine lv_iload_n hx hb d_Lb_numberOf_42 rfl (lv_at hl 0 rfl) ?_
    cases h
    exact W.iret hx hb hr (fun t ht hW => ⟨⟨_, (), rfl, rfl, ka_at ht hP⟩, hS.F ht⟩) hS.2.2 d_Lb_numberOf_43 hlk
  replace h := zo_f c9 h
  refine lv_aload_n hx hb d_Lb_numberOf_20 rfl (lv_at hl 1 rfl) ?_
  refine va_get (D := D) (ci := 0) (v := .int (gN_size σ)) (C := R_Lb) (T := T_Lb) (N := 2) hx hb hts wu_Lb hown hK hP 2 rfl rfl 1 (by decide) (hts _ wf_Lb_17) (fun _ h9 => h9) rfl d_Lb_numberOf_21 ?_
  refine lv_istore_n (lv' := [(2, .int (gN_size σ)), (0, .ref (A 2)), (1, .int x1)]) hx hb d_Lb_numberOf_24 rfl hl (by decide) rfl (fun ls hl => ?_)
  refine lv_aload_n hx hb d_Lb_numberOf_25 rfl (lv_at hl 1 rfl) ?_
  refine va_get (D := D) (ci := 0) (v := .ref (A 3)) (C := R_Lb) (T := T_Lb) (N := 2) hx hb hts wu_Lb hown hK hP 2 rfl rfl 0 (by decide) (hts _ wf_Lb_9) (fun _ h9 => h9) rfl d_Lb_numberOf_26 ?_
  refine lv_iload_n hx hb d_Lb_numberOf_29 rfl (lv_at hl 0 rfl) ?_
  refine lv_iload_n hx hb d_Lb_numberOf_30 rfl (lv_at hl 2 rfl) ?_
  obtain ⟨i9, h⟩ := zo_i h
  refine va_iast hx hb hK hP hD hS 3 0 rfl rfl i9 d_Lb_numberOf_31 (fun H locs hP hD hS => ?_)
  replace hP : va_P D vwCl (GW A (sN_packed σ (upd (gN_packed σ) (gN_size σ).toNatClampNeg x1)) r) H := hP
  replace hD : va_D A9 (GW A (sN_packed σ (upd (gN_packed σ) (gN_size σ).toNatClampNeg x1)) r) := hD
  refine lv_aload_n hx hb d_Lb_numberOf_32 rfl (lv_at hl 1 rfl) ?_
  refine lv_dup hx hb d_Lb_numberOf_33 rfl ?_
  refine va_get (D := D) (ci := 0) (v := .int (gN_size (sN_packed σ (upd (gN_packed σ) (gN_size σ).toNatClampNeg x1)))) (C := R_Lb) (T := T_Lb) (N := 2) hx hb hts wu_Lb hown hK hP 2 rfl rfl 1 (by decide) (hts _ wf_Lb_17) (fun _ h9 => h9) rfl d_Lb_numberOf_34 ?_
  refine lv_iconst (v := 1) hx hb d_Lb_numberOf_37 (by decide) ?_
  refine lv_iadd hx hb d_Lb_numberOf_38 ?_
  refine va_put (D := D) (ci := 0) (v := .int ((gN_size (sN_packed σ (upd (gN_packed σ) (gN_size σ).toNatClampNeg x1))) + 1)) (ty := .int) (C := R_Lb) (T := T_Lb) (N := 2) hx hb hts wu_Lb ft_Lb fk_Lb nm_Lb hown hK hP hD hS 2 rfl rfl 1 (by decide) (hts _ wf_Lb_17) (fun _ h9 => h9) rfl (by decide +kernel) rfl rfl (Nat.le_of_ble_eq_true rfl) d_Lb_numberOf_39 (fun H locs hP hD hS => ?_)
  replace hP : va_P D vwCl (GW A (sN_size (sN_packed σ (upd (gN_packed σ) (gN_size σ).toNatClampNeg x1)) ((gN_size (sN_packed σ (upd (gN_packed σ) (gN_size σ).toNatClampNeg x1))) + 1)) r) H := hP
  replace hD : va_D A9 (GW A (sN_size (sN_packed σ (upd (gN_packed σ) (gN_size σ).toNatClampNeg x1)) ((gN_size (sN_packed σ (upd (gN_packed σ) (gN_size σ).toNatClampNeg x1))) + 1)) r) := hD
  refine lv_iload_n hx hb d_Lb_numberOf_42 rfl (lv_at hl 0 rfl) ?_
  cases h
  exact W.iret hx hb hr (fun t ht hW => ⟨⟨_, (), rfl, rfl, ka_at ht hP⟩, hS.F ht⟩) hS.2.2 d_Lb_numberOf_43 hlk
