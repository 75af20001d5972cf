abbrev RS : Type := (Nat → Int32) × (Nat → Int32) × Int32
def gM_row (σ : RS) : Nat → Int32 := σ.1
def gM_kept (σ : RS) : Nat → Int32 := σ.2.1
def gM_code (σ : RS) : Int32 := σ.2.2
def sM_row (σ : RS) (x : Nat → Int32) : RS := (x, σ.2.1, σ.2.2)
def sM_kept (σ : RS) (x : Nat → Int32) : RS := (σ.1, x, σ.2.2)
def sM_code (σ : RS) (x : Int32) : RS := (σ.1, σ.2.1, x)
def ML (A : Nat → Nat) (σ : RS) : va_W := [(A 60, .inr (5, [.ref (A 61), .ref (A 62), .int (gM_code σ)])), (A 61, .inl (A 900, 1552, .inl (gM_row σ))), (A 62, .inl (A 900, 1552, .inl (gM_kept σ)))]
def MW (A : Nat → Nat) (σ : RS) (r : va_W) : va_W := ML A σ ++ r
def f_Mo_within (x0 x1 x2 : Int32) : Option (Int32) := if x0 < x1 then (some 0) else (if x2 < x0 then (some 0) else (some 1))
set_option maxRecDepth 100000 in
set_option maxHeartbeats 4000000 in
theorem c_Mo_within (l : Launch) (hl9 : l.stackTraces = false) (D : va_G) (A : Nat → Nat) (w : va_W) (sz : Nat) (x0 x1 x2 : Int32) (z : Int32) (h : f_Mo_within x0 x1 x2 = some z) : Met l y_Mo_within (Cond.code y_Mo_within b_Mo_within 3 (some .boolean) :: T0) ({ frames := 0, cells := 0, slots := 0, locals := 0 } : Room) (va_Pc [.int x0, .int x1, .int x2] (ka_Wd D A (w) sz)) (ka_Ri D z (w) (va_A (w) sz)) 0 0 (va_A (w) sz) := by
  unfold f_Mo_within at h
  refine ka_of (own := R_Mo) (fun A9 => ka_Ri D z (w) A9) (by decide) rfl (Nat.le_of_ble_eq_true rfl) ?_
  intro p e s m below meth c A9 ls S9 hr hlk hex X9 hP hD hl
  obtain ⟨hx, hb, hml, hown, hts⟩ := id S9
  have hK := X9.2.1
  have hS : va_S A9 s.heap s.heap [] := va_S.rf
  replace hl : lv_has ls 3 [(0, .int x0), (1, .int x1), (2, .int x2)] := hl
  refine lv_iload_n hx hb d_Mo_within_0 rfl (lv_at hl 0 rfl) ?_
  refine lv_iload_n hx hb d_Mo_within_1 rfl (lv_at hl 1 rfl) ?_
  refine lv_icmp_lt (tgt := 14) hx hb d_Mo_within_2 (by decide) (fun c1 => ?_) (fun c1 => ?_)
  · replace h := zo_t c1 h
    refine lv_iconst (v := 0) hx hb d_Mo_within_14 (by decide) ?_
    cases h
    exact W.zret hx hb hr (by decide) (fun t ht hW => ⟨⟨_, (), rfl, rfl, ka_at ht hP⟩, hS.F ht⟩) hS.2.2 d_Mo_within_15 hlk
  replace h := zo_f c1 h
  refine lv_iload_n hx hb d_Mo_within_5 rfl (lv_at hl 0 rfl) ?_
  refine lv_iload_n hx hb d_Mo_within_6 rfl (lv_at hl 2 rfl) ?_
  refine lv_icmp_gt (tgt := 14) hx hb d_Mo_within_7 (by decide) (fun c2 => ?_) (fun c2 => ?_)
  · replace h := zo_t c2 h
    refine lv_iconst (v := 0) hx hb d_Mo_within_14 (by decide) ?_
    cases h
    exact W.zret hx hb hr (by decide) (fun t ht hW => ⟨⟨_, (), rfl, rfl, ka_at ht hP⟩, hS.F ht⟩) hS.2.2 d_Mo_within_15 hlk
  replace h := zo_f c2 h
  refine lv_iconst (v := 1) hx hb d_Mo_within_10 (by decide) ?_
  refine lv_goto (tgt := 15) hx hb d_Mo_within_11 (by decide) ?_
  cases h
  exact W.zret hx hb hr (by decide) (fun t ht hW => ⟨⟨_, (), rfl, rfl, ka_at ht hP⟩, hS.F ht⟩) hS.2.2 d_Mo_within_15 hlk
def f_Mo_fail (σ : RS) (x1 : Int32) : Option (Int32 × RS) := zl (sM_code σ x1) fun u1 => some (0, u1)
set_option maxRecDepth 100000 in
set_option maxHeartbeats 4000000 in
theorem c_Mo_fail (l : Launch) (hl9 : l.stackTraces = false) (D : va_G) (A : Nat → Nat) (r : va_W) (sz : Nat) (σ : RS) (x1 : Int32) (z : Int32 × RS) (h : f_Mo_fail σ x1 = some z) : Met l y_Mo_fail (Cond.code y_Mo_fail b_Mo_fail 2 (some .int) :: T0) ({ frames := 0, cells := 0, slots := 0, locals := 0 } : Room) (va_Pc [.ref (A 60), .int x1] (ka_Wd D A (MW A σ r) sz)) (ka_Ri D z.1 (MW A z.2 r) (va_A (MW A σ r) sz)) 0 0 (va_A (MW A σ r) sz) := by
  unfold f_Mo_fail at h
  refine ka_of (own := R_Mo) (fun A9 => ka_Ri D z.1 (MW A z.2 r) A9) (by decide) rfl (Nat.le_of_ble_eq_true rfl) ?_
  intro p e s m below meth c A9 ls S9 hr hlk hex X9 hP hD hl
  obtain ⟨hx, hb, hml, hown, hts⟩ := id S9
  have hK := X9.2.1
  have hS : va_S A9 s.heap s.heap [] := va_S.rf
  replace hl : lv_has ls 2 [(0, .ref (A 60)), (1, .int x1)] := hl
  refine lv_aload_n hx hb d_Mo_fail_0 rfl (lv_at hl 0 rfl) ?_
  refine lv_iload_n hx hb d_Mo_fail_1 rfl (lv_at hl 1 rfl) ?_
  obtain ⟨u1, hu9, h⟩ := zo_l h
  refine va_put (D := D) (ci := 5) (v := .int x1) (ty := .int) (C := R_Mo) (T := T_Mo) (N := 3) hx hb hts wu_Mo ft_Mo fk_Mo nm_Mo hown hK hP hD hS 0 rfl rfl 2 (by decide) (hts _ wf_Mo_16) (fun _ h9 => h9) rfl (by decide +kernel) rfl rfl (Nat.le_of_ble_eq_true rfl) d_Mo_fail_2 (fun H locs hP hD hS => ?_)
  replace hP : va_P D vwCl (MW A u1 r) H := by rw [hu9]; exact hP
  replace hD : va_D A9 (MW A u1 r) := by rw [hu9]; exact hD
  refine lv_iconst (v := 0) hx hb d_Mo_fail_5 (by decide) ?_
  cases h
  exact W.iret hx hb hr (fun t ht hW => ⟨⟨_, (), rfl, rfl, ka_at ht hP⟩, hS.F ht⟩) hS.2.2 d_Mo_fail_6 hlk
def f_Mo_thrown (σ : RS) : Option (Int32) := some (gM_code σ)
set_option maxRecDepth 100000 in
set_option maxHeartbeats 4000000 in
theorem c_Mo_thrown (l : Launch) (hl9 : l.stackTraces = false) (D : va_G) (A : Nat → Nat) (r : va_W) (sz : Nat) (σ : RS) (z : Int32) (h : f_Mo_thrown σ = some z) : Met l y_Mo_thrown (Cond.code y_Mo_thrown b_Mo_thrown 1 (some .int) :: T0) ({ frames := 0, cells := 0, slots := 0, locals := 0 } : Room) (va_Pc [.ref (A 60)] (ka_Wd D A (MW A σ r) sz)) (ka_Ri D z (MW A σ r) (va_A (MW A σ r) sz)) 0 0 (va_A (MW A σ r) sz) := by
  unfold f_Mo_thrown at h
  refine ka_of (own := R_Mo) (fun A9 => ka_Ri D z (MW A σ r) A9) (by decide) rfl (Nat.le_of_ble_eq_true rfl) ?_
  intro p e s m below meth c A9 ls S9 hr hlk hex X9 hP hD hl
  obtain ⟨hx, hb, hml, hown, hts⟩ := id S9
  have hK := X9.2.1
  have hS : va_S A9 s.heap s.heap [] := va_S.rf
  replace hl : lv_has ls 1 [(0, .ref (A 60))] := hl
  refine lv_aload_n hx hb d_Mo_thrown_0 rfl (lv_at hl 0 rfl) ?_
  refine va_get (D := D) (ci := 5) (v := .int (gM_code σ)) (C := R_Mo) (T := T_Mo) (N := 3) hx hb hts wu_Mo hown hK hP 0 rfl rfl 2 (by decide) (hts _ wf_Mo_16) (fun _ h9 => h9) rfl d_Mo_thrown_1 ?_
  cases h
  exact W.iret hx hb hr (fun t ht hW => ⟨⟨_, (), rfl, rfl, ka_at ht hP⟩, hS.F ht⟩) hS.2.2 d_Mo_thrown_4 hlk
def f_Mo_at (σ : RS) (x1 x2 : Int32) : Option (Int32) := if ((17 * x1) + x2) < 0 ∨ 1552 ≤ ((17 * x1) + x2).toNatClampNeg then none else some (gM_row σ ((17 * x1) + x2).toNatClampNeg)
set_option maxRecDepth 100000 in
set_option maxHeartbeats 4000000 in
theorem c_Mo_at (l : Launch) (hl9 : l.stackTraces = false) (D : va_G) (A : Nat → Nat) (r : va_W) (sz : Nat) (σ : RS) (x1 x2 : Int32) (z : Int32) (h : f_Mo_at σ x1 x2 = some z) : Met l y_Mo_at (Cond.code y_Mo_at b_Mo_at 3 (some .int) :: T0) ({ frames := 0, cells := 0, slots := 0, locals := 0 } : Room) (va_Pc [.ref (A 60), .int x1, .int x2] (ka_Wd D A (MW A σ r) sz)) (ka_Ri D z (MW A σ r) (va_A (MW A σ r) sz)) 0 0 (va_A (MW A σ r) sz) := by
  unfold f_Mo_at at h
  refine ka_of (own := R_Mo) (fun A9 => ka_Ri D z (MW A σ r) A9) (by decide) rfl (Nat.le_of_ble_eq_true rfl) ?_
  intro p e s m below meth c A9 ls S9 hr hlk hex X9 hP hD hl
  obtain ⟨hx, hb, hml, hown, hts⟩ := id S9
  have hK := X9.2.1
  have hS : va_S A9 s.heap s.heap [] := va_S.rf
  replace hl : lv_has ls 3 [(0, .ref (A 60)), (1, .int x1), (2, .int x2)] := hl
  refine lv_aload_n hx hb d_Mo_at_0 rfl (lv_at hl 0 rfl) ?_
  refine va_get (D := D) (ci := 5) (v := .ref (A 61)) (C := R_Mo) (T := T_Mo) (N := 3) hx hb hts wu_Mo hown hK hP 0 rfl rfl 0 (by decide) (hts _ wf_Mo_7) (fun _ h9 => h9) rfl d_Mo_at_1 ?_
  refine lv_bipush (v := 17) hx hb d_Mo_at_4 (by decide) ?_
  refine lv_iload_n hx hb d_Mo_at_6 rfl (lv_at hl 1 rfl) ?_
  refine lv_imul hx hb d_Mo_at_7 ?_
  refine lv_iload_n hx hb d_Mo_at_8 rfl (lv_at hl 2 rfl) ?_
  refine lv_iadd hx hb d_Mo_at_9 ?_
  obtain ⟨i9, h⟩ := zo_i h
  refine va_iald hx hb hK hP 1 0 rfl rfl i9 d_Mo_at_10 ?_
  cases h
  exact W.iret hx hb hr (fun t ht hW => ⟨⟨_, (), rfl, rfl, ka_at ht hP⟩, hS.F ht⟩) hS.2.2 d_Mo_at_11 hlk
def f_Mo_lev (σ : RS) (x1 x2 : Int32) : Option (Int32) := if ((1037 + (8 * x1)) + x2) < 0 ∨ 1552 ≤ ((1037 + (8 * x1)) + x2).toNatClampNeg then none else some (gM_row σ ((1037 + (8 * x1)) + x2).toNatClampNeg)
set_option maxRecDepth 100000 in
set_option maxHeartbeats 4000000 in
theorem c_Mo_lev (l : Launch) (hl9 : l.stackTraces = false) (D : va_G) (A : Nat → Nat) (r : va_W) (sz : Nat) (σ : RS) (x1 x2 : Int32) (z : Int32) (h : f_Mo_lev σ x1 x2 = some z) : Met l y_Mo_lev (Cond.code y_Mo_lev b_Mo_lev 3 (some .int) :: T0) ({ frames := 0, cells := 0, slots := 0, locals := 0 } : Room) (va_Pc [.ref (A 60), .int x1, .int x2] (ka_Wd D A (MW A σ r) sz)) (ka_Ri D z (MW A σ r) (va_A (MW A σ r) sz)) 0 0 (va_A (MW A σ r) sz) := by
  unfold f_Mo_lev at h
  refine ka_of (own := R_Mo) (fun A9 => ka_Ri D z (MW A σ r) A9) (by decide) rfl (Nat.le_of_ble_eq_true rfl) ?_
  intro p e s m below meth c A9 ls S9 hr hlk hex X9 hP hD hl
  obtain ⟨hx, hb, hml, hown, hts⟩ := id S9
  have hK := X9.2.1
  have hS : va_S A9 s.heap s.heap [] := va_S.rf
  replace hl : lv_has ls 3 [(0, .ref (A 60)), (1, .int x1), (2, .int x2)] := hl
  refine lv_aload_n hx hb d_Mo_lev_0 rfl (lv_at hl 0 rfl) ?_
  refine va_get (D := D) (ci := 5) (v := .ref (A 61)) (C := R_Mo) (T := T_Mo) (N := 3) hx hb hts wu_Mo hown hK hP 0 rfl rfl 0 (by decide) (hts _ wf_Mo_7) (fun _ h9 => h9) rfl d_Mo_lev_1 ?_
  refine lv_sipush (v := 1037) hx hb d_Mo_lev_4 (by decide) ?_
  refine lv_bipush (v := 8) hx hb d_Mo_lev_7 (by decide) ?_
  refine lv_iload_n hx hb d_Mo_lev_9 rfl (lv_at hl 1 rfl) ?_
  refine lv_imul hx hb d_Mo_lev_10 ?_
  refine lv_iadd hx hb d_Mo_lev_11 ?_
  refine lv_iload_n hx hb d_Mo_lev_12 rfl (lv_at hl 2 rfl) ?_
  refine lv_iadd hx hb d_Mo_lev_13 ?_
  obtain ⟨i9, h⟩ := zo_i h
  refine va_iald hx hb hK hP 1 0 rfl rfl i9 d_Mo_lev_14 ?_
  cases h
  exact W.iret hx hb hr (fun t ht hW => ⟨⟨_, (), rfl, rfl, ka_at ht hP⟩, hS.F ht⟩) hS.2.2 d_Mo_lev_15 hlk
def f_Mo_low (x0 : Int32) : Option (Int32) := if x0 = 4 then (some (-1)) else (some x0)
set_option maxRecDepth 100000 in
set_option maxHeartbeats 4000000 in
theorem c_Mo_low (l : Launch) (hl9 : l.stackTraces = false) (D : va_G) (A : Nat → Nat) (w : va_W) (sz : Nat) (x0 : Int32) (z : Int32) (h : f_Mo_low x0 = some z) : Met l y_Mo_low (Cond.code y_Mo_low b_Mo_low 1 (some .int) :: T0) ({ frames := 0, cells := 0, slots := 0, locals := 0 } : Room) (va_Pc [.int x0] (ka_Wd D A (w) sz)) (ka_Ri D z (w) (va_A (w) sz)) 0 0 (va_A (w) sz) := by
  unfold f_Mo_low at h
  refine ka_of (own := R_Mo) (fun A9 => ka_Ri D z (w) A9) (by decide) rfl (Nat.le_of_ble_eq_true rfl) ?_
  intro p e s m below meth c A9 ls S9 hr hlk hex X9 hP hD hl
  obtain ⟨hx, hb, hml, hown, hts⟩ := id S9
  have hK := X9.2.1
  have hS : va_S A9 s.heap s.heap [] := va_S.rf
  replace hl : lv_has ls 1 [(0, .int x0)] := hl
  refine lv_iload_n hx hb d_Mo_low_0 rfl (lv_at hl 0 rfl) ?_
  refine lv_iconst (v := 4) hx hb d_Mo_low_1 (by decide) ?_
  refine lv_icmp_ne (tgt := 9) hx hb d_Mo_low_2 (by decide) (fun c1 => ?_) (fun c1 => ?_)
  · replace h := zo_f c1 h
    refine lv_iload_n hx hb d_Mo_low_9 rfl (lv_at hl 0 rfl) ?_
    cases h
    exact W.iret hx hb hr (fun t ht hW => ⟨⟨_, (), rfl, rfl, ka_at ht hP⟩, hS.F ht⟩) hS.2.2 d_Mo_low_10 hlk
  replace h := zo_t c1 h
  refine lv_iconst (v := (-1)) hx hb d_Mo_low_5 (by decide) ?_
  refine lv_goto (tgt := 10) hx hb d_Mo_low_6 (by decide) ?_
  cases h
  exact W.iret hx hb hr (fun t ht hW => ⟨⟨_, (), rfl, rfl, ka_at ht hP⟩, hS.F ht⟩) hS.2.2 d_Mo_low_10 hlk
def f_Mo_under_L3 (σ : RS) : Nat → Int32 → Int32 → Int32 → Int32 → Option (Int32)
  | 0, _, _, _, _ => none
  | n + 1, y1, y2, y3, y4 => if 8 ≤ y4 then (some 1) else (if y3 = 0 then ((f_Mo_lev σ y2 y4).bind fun v3 => (f_Mo_low v3).bind fun v4 => (f_Mo_lev σ y1 y4).bind fun v5 => (f_Mo_low v5).bind fun v6 => if v6 ≤ v4 then (f_Mo_under_L3 σ n y1 y2 y3 (y4 + 1)) else (some 0)) else ((f_Mo_lev σ y2 y4).bind fun v8 => if v8 = 4 then ((f_Mo_lev σ y1 y4).bind fun v15 => (f_Mo_low v15).bind fun v16 => if v16 ≤ 5 then (f_Mo_under_L3 σ n y1 y2 y3 (y4 + 1)) else (some 0)) else ((f_Mo_lev σ y2 y4).bind fun v10 => (f_Mo_low v10).bind fun v11 => (f_Mo_lev σ y1 y4).bind fun v12 => (f_Mo_low v12).bind fun v13 => if v13 ≤ v11 then (f_Mo_under_L3 σ n y1 y2 y3 (y4 + 1)) else (some 0))))
def f_Mo_under (σ : RS) (x1 x2 x3 : Int32) : Option (Int32) := f_Mo_under_L3 σ 100 x1 x2 x3 0
set_option maxRecDepth 100000 in
set_option maxHeartbeats 4000000 in
theorem c_Mo_under (l : Launch) (hl9 : l.stackTraces = false) (D : va_G) (A : Nat → Nat) (r : va_W) (sz : Nat) (σ : RS) (x1 x2 x3 : Int32) (z : Int32) (h : f_Mo_under σ x1 x2 x3 = some z) : Met l y_Mo_under (Cond.code y_Mo_under b_Mo_under 6 (some .boolean) :: T0) ({ frames := 1, cells := 0, slots := 0, locals := 22 } : Room) (va_Pc [.ref (A 60), .int x1, .int x2, .int x3] (ka_Wd D A (MW A σ r) sz)) (ka_Ri D z (MW A σ r) (va_A (MW A σ r) sz)) 0 0 (va_A (MW A σ r) sz) := by
  unfold f_Mo_under at h
  refine ka_of (own := R_Mo) (fun A9 => ka_Ri D z (MW A σ r) A9) (by decide) rfl (Nat.le_of_ble_eq_true rfl) ?_
  intro p e s m below meth c A9 ls S9 hr hlk hex X9 hP hD hl
  obtain ⟨hx, hb, hml, hown, hts⟩ := id S9
  have hK := X9.2.1
  have hS : va_S A9 s.heap s.heap [] := va_S.rf
  replace hl : lv_has ls 6 [(0, .ref (A 60)), (1, .int x1), (2, .int x2), (3, .int x3)] := hl
  have L3 : ∀ (n : Nat) (y1 y2 y3 y4 : Int32) (H : Heap) (locs : List Loc) (ls : Array Slot), f_Mo_under_L3 σ n y1 y2 y3 y4 = some z → va_P D vwCl (MW A σ r) H → va_D A9 (MW A σ r) → va_S A9 s.heap H locs → lv_has ls 6 [(0, .ref (A 60)), (1, .int y1), (2, .int y2), (3, .int y3), (4, .int y4)] → W p l e ({ frames := 1, cells := 0, slots := 0, locals := 22 } : Room) s m [.ref (A 60), .int x1, .int x2, .int x3].toArray below meth c H locs 0 0 (MQ below (ka_Ri D z (MW A σ r) A9) [.ref (A 60), .int x1, .int x2, .int x3].toArray s 0 0 A9) (F0 m 3 ls []) := by
    intro n
    induction n with
    | zero => intro y1 y2 y3 y4 H locs ls h; cases h
    | succ n ih3 =>
      intro y1 y2 y3 y4 H locs ls h hP hD hS hl
      rw [f_Mo_under_L3] at h
      refine lv_iload hx hb d_Mo_under_3 (lv_at hl 4 rfl) ?_
      refine lv_bipush (v := 8) hx hb d_Mo_under_5 (by decide) ?_
      refine lv_icmp_ge (tgt := 64) hx hb d_Mo_under_7 (by decide) (fun c1 => ?_) (fun c1 => ?_)
      · replace h := zo_t c1 h
        refine lv_iconst (v := 1) hx hb d_Mo_under_64 (by decide) ?_
        cases h
        exact W.zret hx hb hr (by decide) (fun t ht hW => ⟨⟨_, (), rfl, rfl, ka_at ht hP⟩, hS.F ht⟩) hS.2.2 d_Mo_under_65 hlk
      replace h := zo_f c1 h
      refine lv_iload_n hx hb d_Mo_under_10 rfl (lv_at hl 3 rfl) ?_
      refine lv_if_eq (tgt := 29) hx hb d_Mo_under_11 (by decide) (fun c2 => ?_) (fun c2 => ?_)
      · replace h := zo_t c2 h
        refine lv_aload_n hx hb d_Mo_under_29 rfl (lv_at hl 0 rfl) ?_
        refine lv_iload_n hx hb d_Mo_under_30 rfl (lv_at hl 2 rfl) ?_
        refine lv_iload hx hb d_Mo_under_31 (lv_at hl 4 rfl) ?_
        obtain ⟨v3, e9, h⟩ := zo_b h
        refine ka_i (va_runV (As := [.int y2, .int y4]) (rest := []) S9 (c_Mo_lev l hl9 D A r _ σ y2 y4 _ e9) (cwV 2 hts (tg_V wl_Mo_20 wm_Mo_lev we_Mo_lev wi_Mo wo_Mo_lev) rfl rfl rfl wq_Mo_lev ⟨Nat.le_of_ble_eq_true rfl, Nat.le_of_ble_eq_true rfl⟩) (ka_preV X9 hP hD hS 0 rfl rfl) rfl rfl hl.1 rfl (lv_room (Nat.le_of_ble_eq_true rfl)) d_Mo_under_33 ⟨Nat.le_of_ble_eq_true rfl, Nat.le_of_ble_eq_true rfl⟩) X9 hD hS rfl (fun H locs hP hD hS => ?_)
        obtain ⟨v4, e9, h⟩ := zo_b h
        refine ka_i (va_runS (As := [.int v3]) (rest := []) S9 (c_Mo_low l hl9 D A (MW A σ r) _ v3 _ e9) (cwS 1 hts (tg_S wl_Mo_24 ws_Mo_low wi_Mo wo_Mo_low) rfl rfl rfl wq_Mo_low ⟨Nat.le_of_ble_eq_true rfl, Nat.le_of_ble_eq_true rfl⟩) (ka_preS X9 hP hD hS) rfl rfl hl.1 rfl (lv_room (Nat.le_of_ble_eq_true rfl)) d_Mo_under_36 ⟨Nat.le_of_ble_eq_true rfl, Nat.le_of_ble_eq_true rfl⟩) X9 hD hS rfl (fun H locs hP hD hS => ?_)
        refine lv_istore (lv' := [(5, .int v4), (0, .ref (A 60)), (1, .int y1), (2, .int y2), (3, .int y3), (4, .int y4)]) hx hb d_Mo_under_39 hl (by decide) rfl (fun ls hl => ?_)
        refine lv_aload_n hx hb d_Mo_under_41 rfl (lv_at hl 1 rfl) ?_
        refine lv_iload_n hx hb d_Mo_under_42 rfl (lv_at hl 2 rfl) ?_
        refine lv_iload hx hb d_Mo_under_43 (lv_at hl 5 rfl) ?_
        obtain ⟨v5, e9, h⟩ := zo_b h
        refine ka_i (va_runV (As := [.int y1, .int y4]) (rest := []) S9 (c_Mo_lev l hl9 D A r _ σ y1 y4 _ e9) (cwV 2 hts (tg_V wl_Mo_20 wm_Mo_lev we_Mo_lev wi_Mo wo_Mo_lev) rfl rfl rfl wq_Mo_lev ⟨Nat.le_of_ble_eq_true rfl, Nat.le_of_ble_eq_true rfl⟩) (ka_preV X9 hP hD hS 0 rfl rfl) rfl rfl hl.1 rfl (lv_room (Nat.le_of_ble_eq_true rfl)) d_Mo_under_45 ⟨Nat.le_of_ble_eq_true rfl, Nat.le_of_ble_eq_true rfl⟩) X9 hD hS rfl (fun H locs hP hD hS => ?_)
        obtain ⟨v6, e9, h⟩ := zo_b h
        refine ka_i (va_runS (As := [.int v5]) (rest := []) S9 (c_Mo_low l hl9 D A (MW A σ r) _ v5 _ e9) (cwS 1 hts (tg_S wl_Mo_24 ws_Mo_low wi_Mo wo_Mo_low) rfl rfl rfl wq_Mo_low ⟨Nat.le_of_ble_eq_true rfl, Nat.le_of_ble_eq_true rfl⟩) (ka_preS X9 hP hD hS) rfl rfl hl.1 rfl (lv_room (Nat.le_of_ble_eq_true rfl)) d_Mo_under_48 ⟨Nat.le_of_ble_eq_true rfl, Nat.le_of_ble_eq_true rfl⟩) X9 hD hS rfl (fun H locs hP hD hS => ?_)
        refine lv_iload hx hb d_Mo_under_51 (lv_at hl 0 rfl) ?_
        refine lv_icmp_le (tgt := 58) hx hb d_Mo_under_53 (by decide) (fun c7 => ?_) (fun c7 => ?_)
        · replace h := zo_t c7 h
          refine lv_iinc (v := y4 + 1) (lv' := [(4, .int (y4 + 1)), (5, .int v4), (0, .ref (A 60)), (1, .int y1), (2, .int y2), (3, .int y3)]) hx hb d_Mo_under_58 hl (k := 5) rfl rfl (by decide) rfl (fun ls hl => ?_)
          refine lv_goto (tgt := 3) hx hb d_Mo_under_61 (by decide) ?_
          exact ih3 y1 y2 y3 (y4 + 1) _ _ _ h hP hD hS (lv_sub hl [2, 3, 4, 5, 0] rfl)
        replace h := zo_f c7 h
        refine lv_iconst (v := 0) hx hb d_Mo_under_56 (by decide) ?_
        cases h
        exact W.zret hx hb hr (by decide) (fun t ht hW => ⟨⟨_, (), rfl, rfl, ka_at ht hP⟩, hS.F ht⟩) hS.2.2 d_Mo_under_57 hlk
      replace h := zo_f c2 h
      refine lv_aload_n hx hb d_Mo_under_14 rfl (lv_at hl 0 rfl) ?_
      refine lv_iload_n hx hb d_Mo_under_15 rfl (lv_at hl 2 rfl) ?_
      refine lv_iload hx hb d_Mo_under_16 (lv_at hl 4 rfl) ?_
      obtain ⟨v8, e9, h⟩ := zo_b h
      refine ka_i (va_runV (As := [.int y2, .int y4]) (rest := []) S9 (c_Mo_lev l hl9 D A r _ σ y2 y4 _ e9) (cwV 2 hts (tg_V wl_Mo_20 wm_Mo_lev we_Mo_lev wi_Mo wo_Mo_lev) rfl rfl rfl wq_Mo_lev ⟨Nat.le_of_ble_eq_true rfl, Nat.le_of_ble_eq_true rfl⟩) (ka_preV X9 hP hD hS 0 rfl rfl) rfl rfl hl.1 rfl (lv_room (Nat.le_of_ble_eq_true rfl)) d_Mo_under_18 ⟨Nat.le_of_ble_eq_true rfl, Nat.le_of_ble_eq_true rfl⟩) X9 hD hS rfl (fun H locs hP hD hS => ?_)
      refine lv_iconst (v := 4) hx hb d_Mo_under_21 (by decide) ?_
      refine lv_icmp_ne (tgt := 29) hx hb d_Mo_under_22 (by decide) (fun c9 => ?_) (fun c9 => ?_)
      · replace h := zo_f c9 h
        refine lv_aload_n hx hb d_Mo_under_29 rfl (lv_at hl 0 rfl) ?_
        refine lv_iload_n hx hb d_Mo_under_30 rfl (lv_at hl 2 rfl) ?_
        refine lv_iload hx hb d_Mo_under_31 (lv_at hl 4 rfl) ?_
        obtain ⟨v10, e9, h⟩ := zo_b h
        refine ka_i (va_runV (As := [.int y2, .int y4]) (rest := []) S9 (c_Mo_lev l hl9 D A r _ σ y2 y4 _ e9) (cwV 2 hts (tg_V wl_Mo_20 wm_Mo_lev we_Mo_lev wi_Mo wo_Mo_lev) rfl rfl rfl wq_Mo_lev ⟨Nat.le_of_ble_eq_true rfl, Nat.le_of_ble_eq_true rfl⟩) (ka_preV X9 hP hD hS 0 rfl rfl) rfl rfl hl.1 rfl (lv_room (Nat.le_of_ble_eq_true rfl)) d_Mo_under_33 ⟨Nat.le_of_ble_eq_true rfl, Nat.le_of_ble_eq_true rfl⟩) X9 hD hS rfl (fun H locs hP hD hS => ?_)
        obtain ⟨v11, e9, h⟩ := zo_b h
        refine ka_i (va_runS (As := [.int v10]) (rest := []) S9 (c_Mo_low l hl9 D A (MW A σ r) _ v10 _ e9) (cwS 1 hts (tg_S wl_Mo_24 ws_Mo_low wi_Mo wo_Mo_low) rfl rfl rfl wq_Mo_low ⟨Nat.le_of_ble_eq_true rfl, Nat.le_of_ble_eq_true rfl⟩) (ka_preS X9 hP hD hS) rfl rfl hl.1 rfl (lv_room (Nat.le_of_ble_eq_true rfl)) d_Mo_under_36 ⟨Nat.le_of_ble_eq_true rfl, Nat.le_of_ble_eq_true rfl⟩) X9 hD hS rfl (fun H locs hP hD hS => ?_)
        refine lv_istore (lv' := [(5, .int v11), (0, .ref (A 60)), (1, .int y1), (2, .int y2), (3, .int y3), (4, .int y4)]) hx hb d_Mo_under_39 hl (by decide) rfl (fun ls hl => ?_)
        refine lv_aload_n hx hb d_Mo_under_41 rfl (lv_at hl 1 rfl) ?_
        refine lv_iload_n hx hb d_Mo_under_42 rfl (lv_at hl 2 rfl) ?_
        refine lv_iload hx hb d_Mo_under_43 (lv_at hl 5 rfl) ?_
        obtain ⟨v12, e9, h⟩ := zo_b h
        refine ka_i (va_runV (As := [.int y1, .int y4]) (rest := []) S9 (c_Mo_lev l hl9 D A r _ σ y1 y4 _ e9) (cwV 2 hts (tg_V wl_Mo_20 wm_Mo_lev we_Mo_lev wi_Mo wo_Mo_lev) rfl rfl rfl wq_Mo_lev ⟨Nat.le_of_ble_eq_true rfl, Nat.le_of_ble_eq_true rfl⟩) (ka_preV X9 hP hD hS 0 rfl rfl) rfl rfl hl.1 rfl (lv_room (Nat.le_of_ble_eq_true rfl)) d_Mo_under_45 ⟨Nat.le_of_ble_eq_true rfl, Nat.le_of_ble_eq_true rfl⟩) X9 hD hS rfl (fun H locs hP hD hS => ?_)
        obtain ⟨v13, e9, h⟩ := zo_b h
        refine ka_i (va_runS (As := [.int v12]) (rest := []) S9 (c_Mo_low l hl9 D A (MW A σ r) _ v12 _ e9) (cwS 1 hts (tg_S wl_Mo_24 ws_Mo_low wi_Mo wo_Mo_low) rfl rfl rfl wq_Mo_low ⟨Nat.le_of_ble_eq_true rfl, Nat.le_of_ble_eq_true rfl⟩) (ka_preS X9 hP hD hS) rfl rfl hl.1 rfl (lv_room (Nat.le_of_ble_eq_true rfl)) d_Mo_under_48 ⟨Nat.le_of_ble_eq_true rfl, Nat.le_of_ble_eq_true rfl⟩) X9 hD hS rfl (fun H locs hP hD hS => ?_)
        refine lv_iload hx hb d_Mo_under_51 (lv_at hl 0 rfl) ?_
        refine lv_icmp_le (tgt := 58) hx hb d_Mo_under_53 (by decide) (fun c14 => ?_) (fun c14 => ?_)
        · replace h := zo_t c14 h
          refine lv_iinc (v := y4 + 1) (lv' := [(4, .int (y4 + 1)), (5, .int v11), (0, .ref (A 60)), (1, .int y1), (2, .int y2), (3, .int y3)]) hx hb d_Mo_under_58 hl (k := 5) rfl rfl (by decide) rfl (fun ls hl => ?_)
          refine lv_goto (tgt := 3) hx hb d_Mo_under_61 (by decide) ?_
          exact ih3 y1 y2 y3 (y4 + 1) _ _ _ h hP hD hS (lv_sub hl [2, 3, 4, 5, 0] rfl)
        replace h := zo_f c14 h
        refine lv_iconst (v := 0) hx hb d_Mo_under_56 (by decide) ?_
        cases h
        exact W.zret hx hb hr (by decide) (fun t ht hW => ⟨⟨_, (), rfl, rfl, ka_at ht hP⟩, hS.F ht⟩) hS.2.2 d_Mo_under_57 hlk
      replace h := zo_t c9 h
      refine lv_iconst (v := 5) hx hb d_Mo_under_25 (by decide) ?_
      refine lv_goto (tgt := 39) hx hb d_Mo_under_26 (by decide) ?_
      refine lv_istore (lv' := [(5, .int 5), (0, .ref (A 60)), (1, .int y1), (2, .int y2), (3, .int y3), (4, .int y4)]) hx hb d_Mo_under_39 hl (by decide) rfl (fun ls hl => ?_)
      refine lv_aload_n hx hb d_Mo_under_41 rfl (lv_at hl 1 rfl) ?_
      refine lv_iload_n hx hb d_Mo_under_42 rfl (lv_at hl 2 rfl) ?_
      refine lv_iload hx hb d_Mo_under_43 (lv_at hl 5 rfl) ?_
      obtain ⟨v15, e9, h⟩ := zo_b h
      refine ka_i (va_runV (As := [.int y1, .int y4]) (rest := []) S9 (c_Mo_lev l hl9 D A r _ σ y1 y4 _ e9) (cwV 2 hts (tg_V wl_Mo_20 wm_Mo_lev we_Mo_lev wi_Mo wo_Mo_lev) rfl rfl rfl wq_Mo_lev ⟨Nat.le_of_ble_eq_true rfl, Nat.le_of_ble_eq_true rfl⟩) (ka_preV X9 hP hD hS 0 rfl rfl) rfl rfl hl.1 rfl (lv_room (Nat.le_of_ble_eq_true rfl)) d_Mo_under_45 ⟨Nat.le_of_ble_eq_true rfl, Nat.le_of_ble_eq_true rfl⟩) X9 hD hS rfl (fun H locs hP hD hS => ?_)
      obtain ⟨v16, e9, h⟩ := zo_b h
      refine ka_i (va_runS (As := [.int v15]) (rest := []) S9 (c_Mo_low l hl9 D A (MW A σ r) _ v15 _ e9) (cwS 1 hts (tg_S wl_Mo_24 ws_Mo_low wi_Mo wo_Mo_low) rfl rfl rfl wq_Mo_low ⟨Nat.le_of_ble_eq_true rfl, Nat.le_of_ble_eq_true rfl⟩) (ka_preS X9 hP hD hS) rfl rfl hl.1 rfl (lv_room (Nat.le_of_ble_eq_true rfl)) d_Mo_under_48 ⟨Nat.le_of_ble_eq_true rfl, Nat.le_of_ble_eq_true rfl⟩) X9 hD hS rfl (fun H locs hP hD hS => ?_)
      refine lv_iload hx hb d_Mo_under_51 (lv_at hl 0 rfl) ?_
      refine lv_icmp_le (tgt := 58) hx hb d_Mo_under_53 (by decide) (fun c17 => ?_) (fun c17 => ?_)
      · replace h := zo_t c17 h
        refine lv_iinc (v := y4 + 1) (lv' := [(4, .int (y4 + 1)), (5, .int 5), (0, .ref (A 60)), (1, .int y1), (2, .int y2), (3, .int y3)]) hx hb d_Mo_under_58 hl (k := 5) rfl rfl (by decide) rfl (fun ls hl => ?_)
        refine lv_goto (tgt := 3) hx hb d_Mo_under_61 (by decide) ?_
        exact ih3 y1 y2 y3 (y4 + 1) _ _ _ h hP hD hS (lv_sub hl [2, 3, 4, 5, 0] rfl)
      replace h := zo_f c17 h
      refine lv_iconst (v := 0) hx hb d_Mo_under_56 (by decide) ?_
      cases h
      exact W.zret hx hb hr (by decide) (fun t ht hW => ⟨⟨_, (), rfl, rfl, ka_at ht hP⟩, hS.F ht⟩) hS.2.2 d_Mo_under_57 hlk
  refine lv_iconst (v := 0) hx hb d_Mo_under_0 (by decide) ?_
  refine lv_istore (lv' := [(4, .int 0), (0, .ref (A 60)), (1, .int x1), (2, .int x2), (3, .int x3)]) hx hb d_Mo_under_1 hl (by decide) rfl (fun ls hl => ?_)
  exact L3 100 x1 x2 x3 0 _ _ _ h hP hD hS (lv_sub hl [1, 2, 3, 4, 0] rfl)
def f_Mo_isLabel (σ : RS) (x1 : Int32) : Option (Int32) := if (1550 : Int32) < 0 ∨ 1552 ≤ (1550 : Int32).toNatClampNeg then none else (f_Mo_within x1 0 ((gM_row σ (1550 : Int32).toNatClampNeg) - 1)).bind fun v1 => if vp_nar .boolean v1 = v1 then some v1 else none
set_option maxRecDepth 100000 in
set_option maxHeartbeats 4000000 in
theorem c_Mo_isLabel (l : Launch) (hl9 : l.stackTraces = false) (D : va_G) (A : Nat → Nat) (r : va_W) (sz : Nat) (σ : RS) (x1 : Int32) (z : Int32) (h : f_Mo_isLabel σ x1 = some z) : Met l y_Mo_isLabel (Cond.code y_Mo_isLabel b_Mo_isLabel 2 (some .boolean) :: T0) ({ frames := 1, cells := 0, slots := 0, locals := 22 } : Room) (va_Pc [.ref (A 60), .int x1] (ka_Wd D A (MW A σ r) sz)) (ka_Ri D z (MW A σ r) (va_A (MW A σ r) sz)) 0 0 (va_A (MW A σ r) sz) := by
  unfold f_Mo_isLabel at h
  refine ka_of (own := R_Mo) (fun A9 => ka_Ri D z (MW A σ r) A9) (by decide) rfl (Nat.le_of_ble_eq_true rfl) ?_
  intro p e s m below meth c A9 ls S9 hr hlk hex X9 hP hD hl
  obtain ⟨hx, hb, hml, hown, hts⟩ := id S9
  have hK := X9.2.1
  have hS : va_S A9 s.heap s.heap [] := va_S.rf
  replace hl : lv_has ls 2 [(0, .ref (A 60)), (1, .int x1)] := hl
  refine lv_iload_n hx hb d_Mo_isLabel_0 rfl (lv_at hl 1 rfl) ?_
  refine lv_iconst (v := 0) hx hb d_Mo_isLabel_1 (by decide) ?_
  refine lv_aload_n hx hb d_Mo_isLabel_2 rfl (lv_at hl 0 rfl) ?_
  refine va_get (D := D) (ci := 5) (v := .ref (A 61)) (C := R_Mo) (T := T_Mo) (N := 3) hx hb hts wu_Mo hown hK hP 0 rfl rfl 0 (by decide) (hts _ wf_Mo_7) (fun _ h9 => h9) rfl d_Mo_isLabel_3 ?_
  refine lv_sipush (v := 1550) hx hb d_Mo_isLabel_6 (by decide) ?_
  obtain ⟨i9, h⟩ := zo_i h
  refine va_iald hx hb hK hP 1 0 rfl rfl i9 d_Mo_isLabel_9 ?_
  refine lv_iconst (v := 1) hx hb d_Mo_isLabel_10 (by decide) ?_
  refine lv_isub hx hb d_Mo_isLabel_11 ?_
  obtain ⟨v1, e9, h⟩ := zo_b h
  refine ka_i (va_runS (As := [.int x1, .int 0, .int ((gM_row σ (1550 : Int32).toNatClampNeg) - 1)]) (rest := []) S9 (c_Mo_within l hl9 D A (MW A σ r) _ x1 0 ((gM_row σ (1550 : Int32).toNatClampNeg) - 1) _ e9) (cwS 3 hts (tg_S wl_Mo_28 ws_Mo_within wi_Mo wo_Mo_within) rfl rfl rfl wq_Mo_within ⟨Nat.le_of_ble_eq_true rfl, Nat.le_of_ble_eq_true rfl⟩) (ka_preS X9 hP hD hS) rfl rfl hl.1 rfl (lv_room (Nat.le_of_ble_eq_true rfl)) d_Mo_isLabel_12 ⟨Nat.le_of_ble_eq_true rfl, Nat.le_of_ble_eq_true rfl⟩) X9 hD hS rfl (fun H locs hP hD hS => ?_)
  obtain ⟨b9, h⟩ := zo_g h
  cases h
  exact W.zret hx hb hr (zo_nar b9) (fun t ht hW => ⟨⟨_, (), rfl, rfl, ka_at ht hP⟩, hS.F ht⟩) hS.2.2 d_Mo_isLabel_15 hlk
def f_Mo_starless_L2 (σ : RS) : Nat → Int32 → Int32 → Option (Int32)
  | 0, _, _ => none
  | n + 1, y1, y2 => if 8 ≤ y2 then (some 1) else ((f_Mo_lev σ y1 y2).bind fun v2 => if v2 = 4 then (some 0) else (f_Mo_starless_L2 σ n y1 (y2 + 1)))
def f_Mo_starless (σ : RS) (x1 : Int32) : Option (Int32) := f_Mo_starless_L2 σ 100 x1 0
set_option maxRecDepth 100000 in
set_option maxHeartbeats 4000000 in
theorem c_Mo_starless (l : Launch) (hl9 : l.stackTraces = false) (D : va_G) (A : Nat → Nat) (r : va_W) (sz : Nat) (σ : RS) (x1 : Int32) (z : Int32) (h : f_Mo_starless σ x1 = some z) : Met l y_Mo_starless (Cond.code y_Mo_starless b_Mo_starless 3 (some .boolean) :: T0) ({ frames := 1, cells := 0, slots := 0, locals := 22 } : Room) (va_Pc [.ref (A 60), .int x1] (ka_Wd D A (MW A σ r) sz)) (ka_Ri D z (MW A σ r) (va_A (MW A σ r) sz)) 0 0 (va_A (MW A σ r) sz) := by
  unfold f_Mo_starless at h
  refine ka_of (own := R_Mo) (fun A9 => ka_Ri D z (MW A σ r) A9) (by decide) rfl (Nat.le_of_ble_eq_true rfl) ?_
  intro p e s m below meth c A9 ls S9 hr hlk hex X9 hP hD hl
  obtain ⟨hx, hb, hml, hown, hts⟩ := id S9
  have hK := X9.2.1
  have hS : va_S A9 s.heap s.heap [] := va_S.rf
  replace hl : lv_has ls 3 [(0, .ref (A 60)), (1, .int x1)] := hl
  have L2 : ∀ (n : Nat) (y1 y2 : Int32) (H : Heap) (locs : List Loc) (ls : Array Slot), f_Mo_starless_L2 σ n y1 y2 = some z → va_P D vwCl (MW A σ r) H → va_D A9 (MW A σ r) → va_S A9 s.heap H locs → lv_has ls 3 [(0, .ref (A 60)), (1, .int y1), (2, .int y2)] → W p l e ({ frames := 1, cells := 0, slots := 0, locals := 22 } : Room) s m [.ref (A 60), .int x1].toArray below meth c H locs 0 0 (MQ below (ka_Ri D z (MW A σ r) A9) [.ref (A 60), .int x1].toArray s 0 0 A9) (F0 m 2 ls []) := by
    intro n
    induction n with
    | zero => intro y1 y2 H locs ls h; cases h
    | succ n ih2 =>
      intro y1 y2 H locs ls h hP hD hS hl
      rw [f_Mo_starless_L2] at h
      refine lv_iload_n hx hb d_Mo_starless_2 rfl (lv_at hl 2 rfl) ?_
      refine lv_bipush (v := 8) hx hb d_Mo_starless_3 (by decide) ?_
      refine lv_icmp_ge (tgt := 26) hx hb d_Mo_starless_5 (by decide) (fun c1 => ?_) (fun c1 => ?_)
      · replace h := zo_t c1 h
        refine lv_iconst (v := 1) hx hb d_Mo_starless_26 (by decide) ?_
        cases h
        exact W.zret hx hb hr (by decide) (fun t ht hW => ⟨⟨_, (), rfl, rfl, ka_at ht hP⟩, hS.F ht⟩) hS.2.2 d_Mo_starless_27 hlk
      replace h := zo_f c1 h
      refine lv_aload_n hx hb d_Mo_starless_8 rfl (lv_at hl 0 rfl) ?_
      refine lv_iload_n hx hb d_Mo_starless_9 rfl (lv_at hl 1 rfl) ?_
      refine lv_iload_n hx hb d_Mo_starless_10 rfl (lv_at hl 2 rfl) ?_
      obtain ⟨v2, e9, h⟩ := zo_b h
      refine ka_i (va_runV (As := [.int y1, .int y2]) (rest := []) S9 (c_Mo_lev l hl9 D A r _ σ y1 y2 _ e9) (cwV 2 hts (tg_V wl_Mo_20 wm_Mo_lev we_Mo_lev wi_Mo wo_Mo_lev) rfl rfl rfl wq_Mo_lev ⟨Nat.le_of_ble_eq_true rfl, Nat.le_of_ble_eq_true rfl⟩) (ka_preV X9 hP hD hS 0 rfl rfl) rfl rfl hl.1 rfl (lv_room (Nat.le_of_ble_eq_true rfl)) d_Mo_starless_11 ⟨Nat.le_of_ble_eq_true rfl, Nat.le_of_ble_eq_true rfl⟩) X9 hD hS rfl (fun H locs hP hD hS => ?_)
      refine lv_iconst (v := 4) hx hb d_Mo_starless_14 (by decide) ?_
      refine lv_icmp_ne (tgt := 20) hx hb d_Mo_starless_15 (by decide) (fun c3 => ?_) (fun c3 => ?_)
      · replace h := zo_f c3 h
        refine lv_iinc (v := y2 + 1) (lv' := [(2, .int (y2 + 1)), (0, .ref (A 60)), (1, .int y1)]) hx hb d_Mo_starless_20 hl (k := 2) rfl rfl (by decide) rfl (fun ls hl => ?_)
        refine lv_goto (tgt := 2) hx hb d_Mo_starless_23 (by decide) ?_
        exact ih2 y1 (y2 + 1) _ _ _ h hP hD hS (lv_sub hl [1, 2, 0] rfl)
      replace h := zo_t c3 h
      refine lv_iconst (v := 0) hx hb d_Mo_starless_18 (by decide) ?_
      cases h
      exact W.zret hx hb hr (by decide) (fun t ht hW => ⟨⟨_, (), rfl, rfl, ka_at ht hP⟩, hS.F ht⟩) hS.2.2 d_Mo_starless_19 hlk
  refine lv_iconst (v := 0) hx hb d_Mo_starless_0 (by decide) ?_
  refine lv_istore_n (lv' := [(2, .int 0), (0, .ref (A 60)), (1, .int x1)]) hx hb d_Mo_starless_1 rfl hl (by decide) rfl (fun ls hl => ?_)
  exact L2 100 x1 0 _ _ _ h hP hD hS (lv_sub hl [1, 2, 0] rfl)
def f_Mo_there (σ : RS) (x1 : Int32) : Option (Int32) := if (1549 : Int32) < 0 ∨ 1552 ≤ (1549 : Int32).toNatClampNeg then none else (f_Mo_within x1 1 (gM_row σ (1549 : Int32).toNatClampNeg)).bind fun v1 => if v1 = 0 then (some 0) else ((f_Mo_at σ x1 0).bind fun v3 => if v3 = 1 then (some 1) else (some 0))
set_option maxRecDepth 100000 in
set_option maxHeartbeats 4000000 in
theorem c_Mo_there (l : Launch) (hl9 : l.stackTraces = false) (D : va_G) (A : Nat → Nat) (r : va_W) (sz : Nat) (σ : RS) (x1 : Int32) (z : Int32) (h : f_Mo_there σ x1 = some z) : Met l y_Mo_there (Cond.code y_Mo_there b_Mo_there 2 (some .boolean) :: T0) ({ frames := 1, cells := 0, slots := 0, locals := 22 } : Room) (va_Pc [.ref (A 60), .int x1] (ka_Wd D A (MW A σ r) sz)) (ka_Ri D z (MW A σ r) (va_A (MW A σ r) sz)) 0 0 (va_A (MW A σ r) sz) := by
  unfold f_Mo_there at h
  refine ka_of (own := R_Mo) (fun A9 => ka_Ri D z (MW A σ r) A9) (by decide) rfl (Nat.le_of_ble_eq_true rfl) ?_
  intro p e s m below meth c A9 ls S9 hr hlk hex X9 hP hD hl
  obtain ⟨hx, hb, hml, hown, hts⟩ := id S9
  have hK := X9.2.1
  have hS : va_S A9 s.heap s.heap [] := va_S.rf
  replace hl : lv_has ls 2 [(0, .ref (A 60)), (1, .int x1)] := hl
  refine lv_iload_n hx hb d_Mo_there_0 rfl (lv_at hl 1 rfl) ?_
  refine lv_iconst (v := 1) hx hb d_Mo_there_1 (by decide) ?_
  refine lv_aload_n hx hb d_Mo_there_2 rfl (lv_at hl 0 rfl) ?_
  refine va_get (D := D) (ci := 5) (v := .ref (A 61)) (C := R_Mo) (T := T_Mo) (N := 3) hx hb hts wu_Mo hown hK hP 0 rfl rfl 0 (by decide) (hts _ wf_Mo_7) (fun _ h9 => h9) rfl d_Mo_there_3 ?_
  refine lv_sipush (v := 1549) hx hb d_Mo_there_6 (by decide) ?_
  obtain ⟨i9, h⟩ := zo_i h
  refine va_iald hx hb hK hP 1 0 rfl rfl i9 d_Mo_there_9 ?_
  obtain ⟨v1, e9, h⟩ := zo_b h
  refine ka_i (va_runS (As := [.int x1, .int 1, .int (gM_row σ (1549 : Int32).toNatClampNeg)]) (rest := []) S9 (c_Mo_within l hl9 D A (MW A σ r) _ x1 1 (gM_row σ (1549 : Int32).toNatClampNeg) _ e9) (cwS 3 hts (tg_S wl_Mo_28 ws_Mo_within wi_Mo wo_Mo_within) rfl rfl rfl wq_Mo_within ⟨Nat.le_of_ble_eq_true rfl, Nat.le_of_ble_eq_true rfl⟩) (ka_preS X9 hP hD hS) rfl rfl hl.1 rfl (lv_room (Nat.le_of_ble_eq_true rfl)) d_Mo_there_10 ⟨Nat.le_of_ble_eq_true rfl, Nat.le_of_ble_eq_true rfl⟩) X9 hD hS rfl (fun H locs hP hD hS => ?_)
  refine lv_if_eq (tgt := 30) hx hb d_Mo_there_13 (by decide) (fun c2 => ?_) (fun c2 => ?_)
  · replace h := zo_t c2 h
    refine lv_iconst (v := 0) hx hb d_Mo_there_30 (by decide) ?_
    cases h
    exact W.zret hx hb hr (by decide) (fun t ht hW => ⟨⟨_, (), rfl, rfl, ka_at ht hP⟩, hS.F ht⟩) hS.2.2 d_Mo_there_31 hlk
  replace h := zo_f c2 h
  refine lv_aload_n hx hb d_Mo_there_16 rfl (lv_at hl 0 rfl) ?_
  refine lv_iload_n hx hb d_Mo_there_17 rfl (lv_at hl 1 rfl) ?_
  refine lv_iconst (v := 0) hx hb d_Mo_there_18 (by decide) ?_
  obtain ⟨v3, e9, h⟩ := zo_b h
  refine ka_i (va_runV (As := [.int x1, .int 0]) (rest := []) S9 (c_Mo_at l hl9 D A r _ σ x1 0 _ e9) (cwV 2 hts (tg_V wl_Mo_32 wm_Mo_at we_Mo_at wi_Mo wo_Mo_at) rfl rfl rfl wq_Mo_at ⟨Nat.le_of_ble_eq_true rfl, Nat.le_of_ble_eq_true rfl⟩) (ka_preV X9 hP hD hS 0 rfl rfl) rfl rfl hl.1 rfl (lv_room (Nat.le_of_ble_eq_true rfl)) d_Mo_there_19 ⟨Nat.le_of_ble_eq_true rfl, Nat.le_of_ble_eq_true rfl⟩) X9 hD hS rfl (fun H locs hP hD hS => ?_)
  refine lv_iconst (v := 1) hx hb d_Mo_there_22 (by decide) ?_
  refine lv_icmp_ne (tgt := 30) hx hb d_Mo_there_23 (by decide) (fun c4 => ?_) (fun c4 => ?_)
  · replace h := zo_f c4 h
    refine lv_iconst (v := 0) hx hb d_Mo_there_30 (by decide) ?_
    cases h
    exact W.zret hx hb hr (by decide) (fun t ht hW => ⟨⟨_, (), rfl, rfl, ka_at ht hP⟩, hS.F ht⟩) hS.2.2 d_Mo_there_31 hlk
  replace h := zo_t c4 h
  refine lv_iconst (v := 1) hx hb d_Mo_there_26 (by decide) ?_
  refine lv_goto (tgt := 31) hx hb d_Mo_there_27 (by decide) ?_
  cases h
  exact W.zret hx hb hr (by decide) (fun t ht hW => ⟨⟨_, (), rfl, rfl, ka_at ht hP⟩, hS.F ht⟩) hS.2.2 d_Mo_there_31 hlk
def f_Mo_sees (σ : RS) (x1 x2 : Int32) : Option (Int32) := (f_Mo_at σ x2 2).bind fun v1 => (f_Mo_at σ x1 2).bind fun v2 => (f_Mo_under σ v1 v2 1).bind fun v3 => if vp_nar .boolean v3 = v3 then some v3 else none
set_option maxRecDepth 100000 in
set_option maxHeartbeats 4000000 in
theorem c_Mo_sees (l : Launch) (hl9 : l.stackTraces = false) (D : va_G) (A : Nat → Nat) (r : va_W) (sz : Nat) (σ : RS) (x1 x2 : Int32) (z : Int32) (h : f_Mo_sees σ x1 x2 = some z) : Met l y_Mo_sees (Cond.code y_Mo_sees b_Mo_sees 3 (some .boolean) :: T0) ({ frames := 2, cells := 0, slots := 0, locals := 47 } : Room) (va_Pc [.ref (A 60), .int x1, .int x2] (ka_Wd D A (MW A σ r) sz)) (ka_Ri D z (MW A σ r) (va_A (MW A σ r) sz)) 0 0 (va_A (MW A σ r) sz) := by
  unfold f_Mo_sees at h
  refine ka_of (own := R_Mo) (fun A9 => ka_Ri D z (MW A σ r) A9) (by decide) rfl (Nat.le_of_ble_eq_true rfl) ?_
  intro p e s m below meth c A9 ls S9 hr hlk hex X9 hP hD hl
  obtain ⟨hx, hb, hml, hown, hts⟩ := id S9
  have hK := X9.2.1
  have hS : va_S A9 s.heap s.heap [] := va_S.rf
  replace hl : lv_has ls 3 [(0, .ref (A 60)), (1, .int x1), (2, .int x2)] := hl
  refine lv_aload_n hx hb d_Mo_sees_0 rfl (lv_at hl 0 rfl) ?_
  refine lv_aload_n hx hb d_Mo_sees_1 rfl (lv_at hl 0 rfl) ?_
  refine lv_iload_n hx hb d_Mo_sees_2 rfl (lv_at hl 2 rfl) ?_
  refine lv_iconst (v := 2) hx hb d_Mo_sees_3 (by decide) ?_
  obtain ⟨v1, e9, h⟩ := zo_b h
  refine ka_i (va_runV (As := [.int x2, .int 2]) (rest := [.ref (A 60)]) S9 (c_Mo_at l hl9 D A r _ σ x2 2 _ e9) (cwV 2 hts (tg_V wl_Mo_32 wm_Mo_at we_Mo_at wi_Mo wo_Mo_at) rfl rfl rfl wq_Mo_at ⟨Nat.le_of_ble_eq_true rfl, Nat.le_of_ble_eq_true rfl⟩) (ka_preV X9 hP hD hS 0 rfl rfl) rfl rfl hl.1 rfl (lv_room (Nat.le_of_ble_eq_true rfl)) d_Mo_sees_4 ⟨Nat.le_of_ble_eq_true rfl, Nat.le_of_ble_eq_true rfl⟩) X9 hD hS rfl (fun H locs hP hD hS => ?_)
  refine lv_aload_n hx hb d_Mo_sees_7 rfl (lv_at hl 0 rfl) ?_
  refine lv_iload_n hx hb d_Mo_sees_8 rfl (lv_at hl 1 rfl) ?_
  refine lv_iconst (v := 2) hx hb d_Mo_sees_9 (by decide) ?_
  obtain ⟨v2, e9, h⟩ := zo_b h
  refine ka_i (va_runV (As := [.int x1, .int 2]) (rest := [.int v1, .ref (A 60)]) S9 (c_Mo_at l hl9 D A r _ σ x1 2 _ e9) (cwV 2 hts (tg_V wl_Mo_32 wm_Mo_at we_Mo_at wi_Mo wo_Mo_at) rfl rfl rfl wq_Mo_at ⟨Nat.le_of_ble_eq_true rfl, Nat.le_of_ble_eq_true rfl⟩) (ka_preV X9 hP hD hS 0 rfl rfl) rfl rfl hl.1 rfl (lv_room (Nat.le_of_ble_eq_true rfl)) d_Mo_sees_10 ⟨Nat.le_of_ble_eq_true rfl, Nat.le_of_ble_eq_true rfl⟩) X9 hD hS rfl (fun H locs hP hD hS => ?_)
  refine lv_iconst (v := 1) hx hb d_Mo_sees_13 (by decide) ?_
  obtain ⟨v3, e9, h⟩ := zo_b h
  refine ka_i (va_runV (As := [.int v1, .int v2, .int 1]) (rest := []) S9 (c_Mo_under l hl9 D A r _ σ v1 v2 1 _ e9) (cwV 3 hts (tg_V wl_Mo_35 wm_Mo_under we_Mo_under wi_Mo wo_Mo_under) rfl rfl rfl wq_Mo_under ⟨Nat.le_of_ble_eq_true rfl, Nat.le_of_ble_eq_true rfl⟩) (ka_preV X9 hP hD hS 0 rfl rfl) rfl rfl hl.1 rfl (lv_room (Nat.le_of_ble_eq_true rfl)) d_Mo_sees_14 ⟨Nat.le_of_ble_eq_true rfl, Nat.le_of_ble_eq_true rfl⟩) X9 hD hS rfl (fun H locs hP hD hS => ?_)
  obtain ⟨b9, h⟩ := zo_g h
  cases h
  exact W.zret hx hb hr (zo_nar b9) (fun t ht hW => ⟨⟨_, (), rfl, rfl, ka_at ht hP⟩, hS.F ht⟩) hS.2.2 d_Mo_sees_17 hlk
def f_Mo_changes (σ : RS) (x1 x2 : Int32) : Option (Int32) := (f_Mo_sees σ x1 x2).bind fun v1 => if v1 = 0 then (some 0) else ((f_Mo_at σ x1 2).bind fun v3 => (f_Mo_at σ x2 2).bind fun v4 => (f_Mo_under σ v3 v4 0).bind fun v5 => if v5 = 0 then (some 0) else (some 1))
set_option maxRecDepth 100000 in
set_option maxHeartbeats 4000000 in
theorem c_Mo_changes (l : Launch) (hl9 : l.stackTraces = false) (D : va_G) (A : Nat → Nat) (r : va_W) (sz : Nat) (σ : RS) (x1 x2 : Int32) (z : Int32) (h : f_Mo_changes σ x1 x2 = some z) : Met l y_Mo_changes (Cond.code y_Mo_changes b_Mo_changes 3 (some .boolean) :: T0) ({ frames := 3, cells := 0, slots := 0, locals := 69 } : Room) (va_Pc [.ref (A 60), .int x1, .int x2] (ka_Wd D A (MW A σ r) sz)) (ka_Ri D z (MW A σ r) (va_A (MW A σ r) sz)) 0 0 (va_A (MW A σ r) sz) := by
  unfold f_Mo_changes at h
  refine ka_of (own := R_Mo) (fun A9 => ka_Ri D z (MW A σ r) A9) (by decide) rfl (Nat.le_of_ble_eq_true rfl) ?_
  intro p e s m below meth c A9 ls S9 hr hlk hex X9 hP hD hl
  obtain ⟨hx, hb, hml, hown, hts⟩ := id S9
  have hK := X9.2.1
  have hS : va_S A9 s.heap s.heap [] := va_S.rf
  replace hl : lv_has ls 3 [(0, .ref (A 60)), (1, .int x1), (2, .int x2)] := hl
  refine lv_aload_n hx hb d_Mo_changes_0 rfl (lv_at hl 0 rfl) ?_
  refine lv_iload_n hx hb d_Mo_changes_1 rfl (lv_at hl 1 rfl) ?_
  refine lv_iload_n hx hb d_Mo_changes_2 rfl (lv_at hl 2 rfl) ?_
  obtain ⟨v1, e9, h⟩ := zo_b h
  refine ka_i (va_runV (As := [.int x1, .int x2]) (rest := []) S9 (c_Mo_sees l hl9 D A r _ σ x1 x2 _ e9) (cwV 2 hts (tg_V wl_Mo_39 wm_Mo_sees we_Mo_sees wi_Mo wo_Mo_sees) rfl rfl rfl wq_Mo_sees ⟨Nat.le_of_ble_eq_true rfl, Nat.le_of_ble_eq_true rfl⟩) (ka_preV X9 hP hD hS 0 rfl rfl) rfl rfl hl.1 rfl (lv_room (Nat.le_of_ble_eq_true rfl)) d_Mo_changes_3 ⟨Nat.le_of_ble_eq_true rfl, Nat.le_of_ble_eq_true rfl⟩) X9 hD hS rfl (fun H locs hP hD hS => ?_)
  refine lv_if_eq (tgt := 33) hx hb d_Mo_changes_6 (by decide) (fun c2 => ?_) (fun c2 => ?_)
  · replace h := zo_t c2 h
    refine lv_iconst (v := 0) hx hb d_Mo_changes_33 (by decide) ?_
    cases h
    exact W.zret hx hb hr (by decide) (fun t ht hW => ⟨⟨_, (), rfl, rfl, ka_at ht hP⟩, hS.F ht⟩) hS.2.2 d_Mo_changes_34 hlk
  replace h := zo_f c2 h
  refine lv_aload_n hx hb d_Mo_changes_9 rfl (lv_at hl 0 rfl) ?_
  refine lv_aload_n hx hb d_Mo_changes_10 rfl (lv_at hl 0 rfl) ?_
  refine lv_iload_n hx hb d_Mo_changes_11 rfl (lv_at hl 1 rfl) ?_
  refine lv_iconst (v := 2) hx hb d_Mo_changes_12 (by decide) ?_
  obtain ⟨v3, e9, h⟩ := zo_b h
  refine ka_i (va_runV (As := [.int x1, .int 2]) (rest := [.ref (A 60)]) S9 (c_Mo_at l hl9 D A r _ σ x1 2 _ e9) (cwV 2 hts (tg_V wl_Mo_32 wm_Mo_at we_Mo_at wi_Mo wo_Mo_at) rfl rfl rfl wq_Mo_at ⟨Nat.le_of_ble_eq_true rfl, Nat.le_of_ble_eq_true rfl⟩) (ka_preV X9 hP hD hS 0 rfl rfl) rfl rfl hl.1 rfl (lv_room (Nat.le_of_ble_eq_true rfl)) d_Mo_changes_13 ⟨Nat.le_of_ble_eq_true rfl, Nat.le_of_ble_eq_true rfl⟩) X9 hD hS rfl (fun H locs hP hD hS => ?_)
  refine lv_aload_n hx hb d_Mo_changes_16 rfl (lv_at hl 0 rfl) ?_
  refine lv_iload_n hx hb d_Mo_changes_17 rfl (lv_at hl 2 rfl) ?_
  refine lv_iconst (v := 2) hx hb d_Mo_changes_18 (by decide) ?_
  obtain ⟨v4, e9, h⟩ := zo_b h
  refine ka_i (va_runV (As := [.int x2, .int 2]) (rest := [.int v3, .ref (A 60)]) S9 (c_Mo_at l hl9 D A r _ σ x2 2 _ e9) (cwV 2 hts (tg_V wl_Mo_32 wm_Mo_at we_Mo_at wi_Mo wo_Mo_at) rfl rfl rfl wq_Mo_at ⟨Nat.le_of_ble_eq_true rfl, Nat.le_of_ble_eq_true rfl⟩) (ka_preV X9 hP hD hS 0 rfl rfl) rfl rfl hl.1 rfl (lv_room (Nat.le_of_ble_eq_true rfl)) d_Mo_changes_19 ⟨Nat.le_of_ble_eq_true rfl, Nat.le_of_ble_eq_true rfl⟩) X9 hD hS rfl (fun H locs hP hD hS => ?_)
  refine lv_iconst (v := 0) hx hb d_Mo_changes_22 (by decide) ?_
  obtain ⟨v5, e9, h⟩ := zo_b h
  refine ka_i (va_runV (As := [.int v3, .int v4, .int 0]) (rest := []) S9 (c_Mo_under l hl9 D A r _ σ v3 v4 0 _ e9) (cwV 3 hts (tg_V wl_Mo_35 wm_Mo_under we_Mo_under wi_Mo wo_Mo_under) rfl rfl rfl wq_Mo_under ⟨Nat.le_of_ble_eq_true rfl, Nat.le_of_ble_eq_true rfl⟩) (ka_preV X9 hP hD hS 0 rfl rfl) rfl rfl hl.1 rfl (lv_room (Nat.le_of_ble_eq_true rfl)) d_Mo_changes_23 ⟨Nat.le_of_ble_eq_true rfl, Nat.le_of_ble_eq_true rfl⟩) X9 hD hS rfl (fun H locs hP hD hS => ?_)
  refine lv_if_eq (tgt := 33) hx hb d_Mo_changes_26 (by decide) (fun c6 => ?_) (fun c6 => ?_)
  · replace h := zo_t c6 h
    refine lv_iconst (v := 0) hx hb d_Mo_changes_33 (by decide) ?_
    cases h
    exact W.zret hx hb hr (by decide) (fun t ht hW => ⟨⟨_, (), rfl, rfl, ka_at ht hP⟩, hS.F ht⟩) hS.2.2 d_Mo_changes_34 hlk
  replace h := zo_f c6 h
  refine lv_iconst (v := 1) hx hb d_Mo_changes_29 (by decide) ?_
  refine lv_goto (tgt := 34) hx hb d_Mo_changes_30 (by decide) ?_
  cases h
  exact W.zret hx hb hr (by decide) (fun t ht hW => ⟨⟨_, (), rfl, rfl, ka_at ht hP⟩, hS.F ht⟩) hS.2.2 d_Mo_changes_34 hlk
def f_Mo_use_L35 (σ : RS) : Nat → Int32 → Int32 → Int32 → Option (Int32)
  | 0, _, _, _ => none
  | n + 1, y1, y2, y3 => if (1549 : Int32) < 0 ∨ 1552 ≤ (1549 : Int32).toNatClampNeg then none else if (gM_row σ (1549 : Int32).toNatClampNeg) < y3 then (some y2) else ((f_Mo_there σ y3).bind fun v6 => if v6 = 0 then (f_Mo_use_L35 σ n y1 y2 (y3 + 1)) else ((f_Mo_at σ y3 4).bind fun v8 => if v8 = y1 then ((f_Mo_at σ y3 3).bind fun v10 => f_Mo_use_L35 σ n y1 (y2 + v10) (y3 + 1)) else (f_Mo_use_L35 σ n y1 y2 (y3 + 1))))
def f_Mo_use (σ : RS) (x1 : Int32) : Option (Int32) := (f_Mo_at σ x1 1).bind fun v1 => if v1 = 1 then ((f_Mo_at σ x1 8).bind fun v11 => some (1 + v11)) else ((f_Mo_at σ x1 1).bind fun v3 => if v3 = 0 then (f_Mo_use_L35 σ 100 x1 1 1) else (some 2))
set_option maxRecDepth 100000 in
set_option maxHeartbeats 4000000 in
theorem c_Mo_use (l : Launch) (hl9 : l.stackTraces = false) (D : va_G) (A : Nat → Nat) (r : va_W) (sz : Nat) (σ : RS) (x1 : Int32) (z : Int32) (h : f_Mo_use σ x1 = some z) : Met l y_Mo_use (Cond.code y_Mo_use b_Mo_use 4 (some .int) :: T0) ({ frames := 2, cells := 0, slots := 0, locals := 43 } : Room) (va_Pc [.ref (A 60), .int x1] (ka_Wd D A (MW A σ r) sz)) (ka_Ri D z (MW A σ r) (va_A (MW A σ r) sz)) 0 0 (va_A (MW A σ r) sz) := by
  unfold f_Mo_use at h
  refine ka_of (own := R_Mo) (fun A9 => ka_Ri D z (MW A σ r) A9) (by decide) rfl (Nat.le_of_ble_eq_true rfl) ?_
  intro p e s m below meth c A9 ls S9 hr hlk hex X9 hP hD hl
  obtain ⟨hx, hb, hml, hown, hts⟩ := id S9
  have hK := X9.2.1
  have hS : va_S A9 s.heap s.heap [] := va_S.rf
  replace hl : lv_has ls 4 [(0, .ref (A 60)), (1, .int x1)] := hl
  have L35 : ∀ (n : Nat) (y1 y2 y3 : Int32) (H : Heap) (locs : List Loc) (ls : Array Slot), f_Mo_use_L35 σ n y1 y2 y3 = some z → va_P D vwCl (MW A σ r) H → va_D A9 (MW A σ r) → va_S A9 s.heap H locs → lv_has ls 4 [(0, .ref (A 60)), (1, .int y1), (2, .int y2), (3, .int y3)] → W p l e ({ frames := 2, cells := 0, slots := 0, locals := 43 } : Room) s m [.ref (A 60), .int x1].toArray below meth c H locs 0 0 (MQ below (ka_Ri D z (MW A σ r) A9) [.ref (A 60), .int x1].toArray s 0 0 A9) (F0 m 35 ls []) := by
    intro n
    induction n with
    | zero => intro y1 y2 y3 H locs ls h; cases h
    | succ n ih35 =>
      intro y1 y2 y3 H locs ls h hP hD hS hl
      rw [f_Mo_use_L35] at h
      refine lv_iload_n hx hb d_Mo_use_35 rfl (lv_at hl 3 rfl) ?_
      refine lv_aload_n hx hb d_Mo_use_36 rfl (lv_at hl 0 rfl) ?_
      refine va_get (D := D) (ci := 5) (v := .ref (A 61)) (C := R_Mo) (T := T_Mo) (N := 3) hx hb hts wu_Mo hown hK hP 0 rfl rfl 0 (by decide) (hts _ wf_Mo_7) (fun _ h9 => h9) rfl d_Mo_use_37 ?_
      refine lv_sipush (v := 1549) hx hb d_Mo_use_40 (by decide) ?_
      obtain ⟨i9, h⟩ := zo_i h
      refine va_iald hx hb hK hP 1 0 rfl rfl i9 d_Mo_use_43 ?_
      refine lv_icmp_gt (tgt := 80) hx hb d_Mo_use_44 (by decide) (fun c5 => ?_) (fun c5 => ?_)
      · replace h := zo_t c5 h
        refine lv_iload_n hx hb d_Mo_use_80 rfl (lv_at hl 2 rfl) ?_
        cases h
        exact W.iret hx hb hr (fun t ht hW => ⟨⟨_, (), rfl, rfl, ka_at ht hP⟩, hS.F ht⟩) hS.2.2 d_Mo_use_81 hlk
      replace h := zo_f c5 h
      refine lv_aload_n hx hb d_Mo_use_47 rfl (lv_at hl 0 rfl) ?_
      refine lv_iload_n hx hb d_Mo_use_48 rfl (lv_at hl 3 rfl) ?_
      obtain ⟨v6, e9, h⟩ := zo_b h
      refine ka_i (va_runV (As := [.int y3]) (rest := []) S9 (c_Mo_there l hl9 D A r _ σ y3 _ e9) (cwV 1 hts (tg_V wl_Mo_43 wm_Mo_there we_Mo_there wi_Mo wo_Mo_there) rfl rfl rfl wq_Mo_there ⟨Nat.le_of_ble_eq_true rfl, Nat.le_of_ble_eq_true rfl⟩) (ka_preV X9 hP hD hS 0 rfl rfl) rfl rfl hl.1 rfl (lv_room (Nat.le_of_ble_eq_true rfl)) d_Mo_use_49 ⟨Nat.le_of_ble_eq_true rfl, Nat.le_of_ble_eq_true rfl⟩) X9 hD hS rfl (fun H locs hP hD hS => ?_)
      refine lv_if_eq (tgt := 74) hx hb d_Mo_use_52 (by decide) (fun c7 => ?_) (fun c7 => ?_)
      · replace h := zo_t c7 h
        refine lv_iinc (v := y3 + 1) (lv' := [(3, .int (y3 + 1)), (0, .ref (A 60)), (1, .int y1), (2, .int y2)]) hx hb d_Mo_use_74 hl (k := 3) rfl rfl (by decide) rfl (fun ls hl => ?_)
        refine lv_goto (tgt := 35) hx hb d_Mo_use_77 (by decide) ?_
        exact ih35 y1 y2 (y3 + 1) _ _ _ h hP hD hS (lv_sub hl [1, 2, 3, 0] rfl)
      replace h := zo_f c7 h
      refine lv_aload_n hx hb d_Mo_use_55 rfl (lv_at hl 0 rfl) ?_
      refine lv_iload_n hx hb d_Mo_use_56 rfl (lv_at hl 3 rfl) ?_
      refine lv_iconst (v := 4) hx hb d_Mo_use_57 (by decide) ?_
      obtain ⟨v8, e9, h⟩ := zo_b h
      refine ka_i (va_runV (As := [.int y3, .int 4]) (rest := []) S9 (c_Mo_at l hl9 D A r _ σ y3 4 _ e9) (cwV 2 hts (tg_V wl_Mo_32 wm_Mo_at we_Mo_at wi_Mo wo_Mo_at) rfl rfl rfl wq_Mo_at ⟨Nat.le_of_ble_eq_true rfl, Nat.le_of_ble_eq_true rfl⟩) (ka_preV X9 hP hD hS 0 rfl rfl) rfl rfl hl.1 rfl (lv_room (Nat.le_of_ble_eq_true rfl)) d_Mo_use_58 ⟨Nat.le_of_ble_eq_true rfl, Nat.le_of_ble_eq_true rfl⟩) X9 hD hS rfl (fun H locs hP hD hS => ?_)
      refine lv_iload_n hx hb d_Mo_use_61 rfl (lv_at hl 1 rfl) ?_
      refine lv_icmp_ne (tgt := 74) hx hb d_Mo_use_62 (by decide) (fun c9 => ?_) (fun c9 => ?_)
      · replace h := zo_f c9 h
        refine lv_iinc (v := y3 + 1) (lv' := [(3, .int (y3 + 1)), (0, .ref (A 60)), (1, .int y1), (2, .int y2)]) hx hb d_Mo_use_74 hl (k := 3) rfl rfl (by decide) rfl (fun ls hl => ?_)
        refine lv_goto (tgt := 35) hx hb d_Mo_use_77 (by decide) ?_
        exact ih35 y1 y2 (y3 + 1) _ _ _ h hP hD hS (lv_sub hl [1, 2, 3, 0] rfl)
      replace h := zo_t c9 h
      refine lv_iload_n hx hb d_Mo_use_65 rfl (lv_at hl 2 rfl) ?_
      refine lv_aload_n hx hb d_Mo_use_66 rfl (lv_at hl 0 rfl) ?_
      refine lv_iload_n hx hb d_Mo_use_67 rfl (lv_at hl 3 rfl) ?_
      refine lv_iconst (v := 3) hx hb d_Mo_use_68 (by decide) ?_
      obtain ⟨v10, e9, h⟩ := zo_b h
      refine ka_i (va_runV (As := [.int y3, .int 3]) (rest := [.int y2]) S9 (c_Mo_at l hl9 D A r _ σ y3 3 _ e9) (cwV 2 hts (tg_V wl_Mo_32 wm_Mo_at we_Mo_at wi_Mo wo_Mo_at) rfl rfl rfl wq_Mo_at ⟨Nat.le_of_ble_eq_true rfl, Nat.le_of_ble_eq_true rfl⟩) (ka_preV X9 hP hD hS 0 rfl rfl) rfl rfl hl.1 rfl (lv_room (Nat.le_of_ble_eq_true rfl)) d_Mo_use_69 ⟨Nat.le_of_ble_eq_true rfl, Nat.le_of_ble_eq_true rfl⟩) X9 hD hS rfl (fun H locs hP hD hS => ?_)
      refine lv_iadd hx hb d_Mo_use_72 ?_
      refine lv_istore_n (lv' := [(2, .int (y2 + v10)), (0, .ref (A 60)), (1, .int y1), (3, .int y3)]) hx hb d_Mo_use_73 rfl hl (by decide) rfl (fun ls hl => ?_)
      refine lv_iinc (v := y3 + 1) (lv' := [(3, .int (y3 + 1)), (2, .int (y2 + v10)), (0, .ref (A 60)), (1, .int y1)]) hx hb d_Mo_use_74 hl (k := 3) rfl rfl (by decide) rfl (fun ls hl => ?_)
      refine lv_goto (tgt := 35) hx hb d_Mo_use_77 (by decide) ?_
      exact ih35 y1 (y2 + v10) (y3 + 1) _ _ _ h hP hD hS (lv_sub hl [2, 3, 1, 0] rfl)
  refine lv_aload_n hx hb d_Mo_use_0 rfl (lv_at hl 0 rfl) ?_
  refine lv_iload_n hx hb d_Mo_use_1 rfl (lv_at hl 1 rfl) ?_
  refine lv_iconst (v := 1) hx hb d_Mo_use_2 (by decide) ?_
  obtain ⟨v1, e9, h⟩ := zo_b h
  refine ka_i (va_runV (As := [.int x1, .int 1]) (rest := []) S9 (c_Mo_at l hl9 D A r _ σ x1 1 _ e9) (cwV 2 hts (tg_V wl_Mo_32 wm_Mo_at we_Mo_at wi_Mo wo_Mo_at) rfl rfl rfl wq_Mo_at ⟨Nat.le_of_ble_eq_true rfl, Nat.le_of_ble_eq_true rfl⟩) (ka_preV X9 hP hD hS 0 rfl rfl) rfl rfl hl.1 rfl (lv_room (Nat.le_of_ble_eq_true rfl)) d_Mo_use_3 ⟨Nat.le_of_ble_eq_true rfl, Nat.le_of_ble_eq_true rfl⟩) X9 hD hS rfl (fun H locs hP hD hS => ?_)
  refine lv_iconst (v := 1) hx hb d_Mo_use_6 (by decide) ?_
  refine lv_icmp_ne (tgt := 20) hx hb d_Mo_use_7 (by decide) (fun c2 => ?_) (fun c2 => ?_)
  · replace h := zo_f c2 h
    refine lv_aload_n hx hb d_Mo_use_20 rfl (lv_at hl 0 rfl) ?_
    refine lv_iload_n hx hb d_Mo_use_21 rfl (lv_at hl 1 rfl) ?_
    refine lv_iconst (v := 1) hx hb d_Mo_use_22 (by decide) ?_
    obtain ⟨v3, e9, h⟩ := zo_b h
    refine ka_i (va_runV (As := [.int x1, .int 1]) (rest := []) S9 (c_Mo_at l hl9 D A r _ σ x1 1 _ e9) (cwV 2 hts (tg_V wl_Mo_32 wm_Mo_at we_Mo_at wi_Mo wo_Mo_at) rfl rfl rfl wq_Mo_at ⟨Nat.le_of_ble_eq_true rfl, Nat.le_of_ble_eq_true rfl⟩) (ka_preV X9 hP hD hS 0 rfl rfl) rfl rfl hl.1 rfl (lv_room (Nat.le_of_ble_eq_true rfl)) d_Mo_use_23 ⟨Nat.le_of_ble_eq_true rfl, Nat.le_of_ble_eq_true rfl⟩) X9 hD hS rfl (fun H locs hP hD hS => ?_)
    refine lv_if_eq (tgt := 31) hx hb d_Mo_use_26 (by decide) (fun c4 => ?_) (fun c4 => ?_)
    · replace h := zo_t c4 h
      refine lv_iconst (v := 1) hx hb d_Mo_use_31 (by decide) ?_
      refine lv_istore_n (lv' := [(2, .int 1), (0, .ref (A 60)), (1, .int x1)]) hx hb d_Mo_use_32 rfl hl (by decide) rfl (fun ls hl => ?_)
      refine lv_iconst (v := 1) hx hb d_Mo_use_33 (by decide) ?_
      refine lv_istore_n (lv' := [(3, .int 1), (2, .int 1), (0, .ref (A 60)), (1, .int x1)]) hx hb d_Mo_use_34 rfl hl (by decide) rfl (fun ls hl => ?_)
      exact L35 100 x1 1 1 _ _ _ h hP hD hS (lv_sub hl [2, 3, 1, 0] rfl)
    replace h := zo_f c4 h
    refine lv_iconst (v := 2) hx hb d_Mo_use_29 (by decide) ?_
    cases h
    exact W.iret hx hb hr (fun t ht hW => ⟨⟨_, (), rfl, rfl, ka_at ht hP⟩, hS.F ht⟩) hS.2.2 d_Mo_use_30 hlk
  replace h := zo_t c2 h
  refine lv_iconst (v := 1) hx hb d_Mo_use_10 (by decide) ?_
  refine lv_aload_n hx hb d_Mo_use_11 rfl (lv_at hl 0 rfl) ?_
  refine lv_iload_n hx hb d_Mo_use_12 rfl (lv_at hl 1 rfl) ?_
  refine lv_bipush (v := 8) hx hb d_Mo_use_13 (by decide) ?_
  obtain ⟨v11, e9, h⟩ := zo_b h
  refine ka_i (va_runV (As := [.int x1, .int 8]) (rest := [.int 1]) S9 (c_Mo_at l hl9 D A r _ σ x1 8 _ e9) (cwV 2 hts (tg_V wl_Mo_32 wm_Mo_at we_Mo_at wi_Mo wo_Mo_at) rfl rfl rfl wq_Mo_at ⟨Nat.le_of_ble_eq_true rfl, Nat.le_of_ble_eq_true rfl⟩) (ka_preV X9 hP hD hS 0 rfl rfl) rfl rfl hl.1 rfl (lv_room (Nat.le_of_ble_eq_true rfl)) d_Mo_use_15 ⟨Nat.le_of_ble_eq_true rfl, Nat.le_of_ble_eq_true rfl⟩) X9 hD hS rfl (fun H locs hP hD hS => ?_)
  refine lv_iadd hx hb d_Mo_use_18 ?_
  cases h
  exact W.iret hx hb hr (fun t ht hW => ⟨⟨_, (), rfl, rfl, ka_at ht hP⟩, hS.F ht⟩) hS.2.2 d_Mo_use_19 hlk
def f_Mo_like_L22 (σ : RS) : Nat → Int32 → Int32 → Int32 → Int32 → Int32 → Int32 → Option (Int32 × Int32 × Int32 × Int32 × Int32 × Int32)
  | 0, _, _, _, _, _, _ => none
  | n + 1, y1, y2, y3, y4, y5, y6 => if 8 ≤ y6 then (some (y1, y2, y3, y4, y5, y6)) else ((f_Mo_lev σ y4 y6).bind fun v3 => if y6 = y2 then (if v3 = y3 then (f_Mo_like_L22 σ n y1 y2 y3 y4 y5 (y6 + 1)) else (f_Mo_like_L22 σ n y1 y2 y3 y4 0 (y6 + 1))) else ((f_Mo_lev σ y1 y6).bind fun v5 => if v3 = v5 then (f_Mo_like_L22 σ n y1 y2 y3 y4 y5 (y6 + 1)) else (f_Mo_like_L22 σ n y1 y2 y3 y4 0 (y6 + 1))))
def f_Mo_like_L3 (σ : RS) : Nat → Int32 → Int32 → Int32 → Int32 → Option (Int32)
  | 0, _, _, _, _ => none
  | n + 1, y1, y2, y3, y4 => if (1550 : Int32) < 0 ∨ 1552 ≤ (1550 : Int32).toNatClampNeg then none else if (gM_row σ (1550 : Int32).toNatClampNeg) ≤ y4 then (some (-1)) else ((f_Mo_like_L22 σ 100 y1 y2 y3 y4 1 0).bind fun v8 => if v8.2.2.2.2.1 = 0 then (f_Mo_like_L3 σ n v8.1 v8.2.1 v8.2.2.1 (v8.2.2.2.1 + 1)) else (some v8.2.2.2.1))
def f_Mo_like (σ : RS) (x1 x2 x3 : Int32) : Option (Int32) := f_Mo_like_L3 σ 100 x1 x2 x3 0
set_option maxRecDepth 100000 in
set_option maxHeartbeats 4000000 in
theorem c_Mo_like (l : Launch) (hl9 : l.stackTraces = false) (D : va_G) (A : Nat → Nat) (r : va_W) (sz : Nat) (σ : RS) (x1 x2 x3 : Int32) (z : Int32) (h : f_Mo_like σ x1 x2 x3 = some z) : Met l y_Mo_like (Cond.code y_Mo_like b_Mo_like 7 (some .int) :: T0) ({ frames := 1, cells := 0, slots := 0, locals := 22 } : Room) (va_Pc [.ref (A 60), .int x1, .int x2, .int x3] (ka_Wd D A (MW A σ r) sz)) (ka_Ri D z (MW A σ r) (va_A (MW A σ r) sz)) 0 0 (va_A (MW A σ r) sz) := by
  unfold f_Mo_like at h
  refine ka_of (own := R_Mo) (fun A9 => ka_Ri D z (MW A σ r) A9) (by decide) rfl (Nat.le_of_ble_eq_true rfl) ?_
  intro p e s m below meth c A9 ls S9 hr hlk hex X9 hP hD hl
  obtain ⟨hx, hb, hml, hown, hts⟩ := id S9
  have hK := X9.2.1
  have hS : va_S A9 s.heap s.heap [] := va_S.rf
  replace hl : lv_has ls 7 [(0, .ref (A 60)), (1, .int x1), (2, .int x2), (3, .int x3)] := hl
  have L22 : ∀ (n : Nat) (y1 y2 y3 y4 y5 y6 : Int32) (z9 : Int32 × Int32 × Int32 × Int32 × Int32 × Int32) (H : Heap) (locs : List Loc) (ls : Array Slot), f_Mo_like_L22 σ n y1 y2 y3 y4 y5 y6 = some z9 → va_P D vwCl (MW A σ r) H → va_D A9 (MW A σ r) → va_S A9 s.heap H locs → lv_has ls 7 [(0, .ref (A 60)), (1, .int y1), (2, .int y2), (3, .int y3), (4, .int y4), (5, .int y5), (6, .int y6)] → (∀ (H : Heap) (locs : List Loc) (ls : Array Slot), va_P D vwCl (MW A σ r) H → va_D A9 (MW A σ r) → va_S A9 s.heap H locs → lv_has ls 7 [(0, .ref (A 60)), (1, .int z9.1), (2, .int z9.2.1), (3, .int z9.2.2.1), (4, .int z9.2.2.2.1), (5, .int z9.2.2.2.2.1), (6, .int z9.2.2.2.2.2)] → W p l e ({ frames := 1, cells := 0, slots := 0, locals := 22 } : Room) s m [.ref (A 60), .int x1, .int x2, .int x3].toArray below meth c H locs 0 0 (MQ below (ka_Ri D z (MW A σ r) A9) [.ref (A 60), .int x1, .int x2, .int x3].toArray s 0 0 A9) (F0 m 66 ls [])) → W p l e ({ frames := 1, cells := 0, slots := 0, locals := 22 } : Room) s m [.ref (A 60), .int x1, .int x2, .int x3].toArray below meth c H locs 0 0 (MQ below (ka_Ri D z (MW A σ r) A9) [.ref (A 60), .int x1, .int x2, .int x3].toArray s 0 0 A9) (F0 m 22 ls []) := by
    intro n
    induction n with
    | zero => intro y1 y2 y3 y4 y5 y6 z9 H locs ls h; cases h
    | succ n ih22 =>
      intro y1 y2 y3 y4 y5 y6 z9 H locs ls h hP hD hS hl kk9
      rw [f_Mo_like_L22] at h
      refine lv_iload hx hb d_Mo_like_22 (lv_at hl 6 rfl) ?_
      refine lv_bipush (v := 8) hx hb d_Mo_like_24 (by decide) ?_
      refine lv_icmp_ge (tgt := 66) hx hb d_Mo_like_26 (by decide) (fun c2 => ?_) (fun c2 => ?_)
      · replace h := zo_t c2 h
        cases h
        exact kk9 _ _ _ hP hD hS (lv_sub hl [0, 1, 2, 3, 4, 5, 6] rfl)
      replace h := zo_f c2 h
      refine lv_aload_n hx hb d_Mo_like_29 rfl (lv_at hl 0 rfl) ?_
      refine lv_iload hx hb d_Mo_like_30 (lv_at hl 4 rfl) ?_
      refine lv_iload hx hb d_Mo_like_32 (lv_at hl 6 rfl) ?_
      obtain ⟨v3, e9, h⟩ := zo_b h
      refine ka_i (va_runV (As := [.int y4, .int y6]) (rest := []) S9 (c_Mo_lev l hl9 D A r _ σ y4 y6 _ e9) (cwV 2 hts (tg_V wl_Mo_20 wm_Mo_lev we_Mo_lev wi_Mo wo_Mo_lev) rfl rfl rfl wq_Mo_lev ⟨Nat.le_of_ble_eq_true rfl, Nat.le_of_ble_eq_true rfl⟩) (ka_preV X9 hP hD hS 0 rfl rfl) rfl rfl hl.1 rfl (lv_room (Nat.le_of_ble_eq_true rfl)) d_Mo_like_34 ⟨Nat.le_of_ble_eq_true rfl, Nat.le_of_ble_eq_true rfl⟩) X9 hD hS rfl (fun H locs hP hD hS => ?_)
      refine lv_iload hx hb d_Mo_like_37 (lv_at hl 6 rfl) ?_
      refine lv_iload_n hx hb d_Mo_like_39 rfl (lv_at hl 2 rfl) ?_
      refine lv_icmp_ne (tgt := 47) hx hb d_Mo_like_40 (by decide) (fun c4 => ?_) (fun c4 => ?_)
      · replace h := zo_f c4 h
        refine lv_aload_n hx hb d_Mo_like_47 rfl (lv_at hl 0 rfl) ?_
        refine lv_iload_n hx hb d_Mo_like_48 rfl (lv_at hl 1 rfl) ?_
        refine lv_iload hx hb d_Mo_like_49 (lv_at hl 6 rfl) ?_
        obtain ⟨v5, e9, h⟩ := zo_b h
        refine ka_i (va_runV (As := [.int y1, .int y6]) (rest := [.int v3]) S9 (c_Mo_lev l hl9 D A r _ σ y1 y6 _ e9) (cwV 2 hts (tg_V wl_Mo_20 wm_Mo_lev we_Mo_lev wi_Mo wo_Mo_lev) rfl rfl rfl wq_Mo_lev ⟨Nat.le_of_ble_eq_true rfl, Nat.le_of_ble_eq_true rfl⟩) (ka_preV X9 hP hD hS 0 rfl rfl) rfl rfl hl.1 rfl (lv_room (Nat.le_of_ble_eq_true rfl)) d_Mo_like_51 ⟨Nat.le_of_ble_eq_true rfl, Nat.le_of_ble_eq_true rfl⟩) X9 hD hS rfl (fun H locs hP hD hS => ?_)
        refine lv_icmp_eq (tgt := 60) hx hb d_Mo_like_54 (by decide) (fun c6 => ?_) (fun c6 => ?_)
        · replace h := zo_t c6 h
          refine lv_iinc (v := y6 + 1) (lv' := [(6, .int (y6 + 1)), (0, .ref (A 60)), (1, .int y1), (2, .int y2), (3, .int y3), (4, .int y4), (5, .int y5)]) hx hb d_Mo_like_60 hl (k := 6) rfl rfl (by decide) rfl (fun ls hl => ?_)
          refine lv_goto (tgt := 22) hx hb d_Mo_like_63 (by decide) ?_
          exact ih22 y1 y2 y3 y4 y5 (y6 + 1) _ _ _ _ h hP hD hS (lv_sub hl [1, 2, 3, 4, 5, 6, 0] rfl) kk9
        replace h := zo_f c6 h
        refine lv_iconst (v := 0) hx hb d_Mo_like_57 (by decide) ?_
        refine lv_istore (lv' := [(5, .int 0), (0, .ref (A 60)), (1, .int y1), (2, .int y2), (3, .int y3), (4, .int y4), (6, .int y6)]) hx hb d_Mo_like_58 hl (by decide) rfl (fun ls hl => ?_)
        refine lv_iinc (v := y6 + 1) (lv' := [(6, .int (y6 + 1)), (5, .int 0), (0, .ref (A 60)), (1, .int y1), (2, .int y2), (3, .int y3), (4, .int y4)]) hx hb d_Mo_like_60 hl (k := 6) rfl rfl (by decide) rfl (fun ls hl => ?_)
        refine lv_goto (tgt := 22) hx hb d_Mo_like_63 (by decide) ?_
        exact ih22 y1 y2 y3 y4 0 (y6 + 1) _ _ _ _ h hP hD hS (lv_sub hl [2, 3, 4, 5, 6, 1, 0] rfl) kk9
      replace h := zo_t c4 h
      refine lv_iload_n hx hb d_Mo_like_43 rfl (lv_at hl 3 rfl) ?_
      refine lv_goto (tgt := 54) hx hb d_Mo_like_44 (by decide) ?_
      refine lv_icmp_eq (tgt := 60) hx hb d_Mo_like_54 (by decide) (fun c7 => ?_) (fun c7 => ?_)
      · replace h := zo_t c7 h
        refine lv_iinc (v := y6 + 1) (lv' := [(6, .int (y6 + 1)), (0, .ref (A 60)), (1, .int y1), (2, .int y2), (3, .int y3), (4, .int y4), (5, .int y5)]) hx hb d_Mo_like_60 hl (k := 6) rfl rfl (by decide) rfl (fun ls hl => ?_)
        refine lv_goto (tgt := 22) hx hb d_Mo_like_63 (by decide) ?_
        exact ih22 y1 y2 y3 y4 y5 (y6 + 1) _ _ _ _ h hP hD hS (lv_sub hl [1, 2, 3, 4, 5, 6, 0] rfl) kk9
      replace h := zo_f c7 h
      refine lv_iconst (v := 0) hx hb d_Mo_like_57 (by decide) ?_
      refine lv_istore (lv' := [(5, .int 0), (0, .ref (A 60)), (1, .int y1), (2, .int y2), (3, .int y3), (4, .int y4), (6, .int y6)]) hx hb d_Mo_like_58 hl (by decide) rfl (fun ls hl => ?_)
      refine lv_iinc (v := y6 + 1) (lv' := [(6, .int (y6 + 1)), (5, .int 0), (0, .ref (A 60)), (1, .int y1), (2, .int y2), (3, .int y3), (4, .int y4)]) hx hb d_Mo_like_60 hl (k := 6) rfl rfl (by decide) rfl (fun ls hl => ?_)
      refine lv_goto (tgt := 22) hx hb d_Mo_like_63 (by decide) ?_
      exact ih22 y1 y2 y3 y4 0 (y6 + 1) _ _ _ _ h hP hD hS (lv_sub hl [2, 3, 4, 5, 6, 1, 0] rfl) kk9
  have L3 : ∀ (n : Nat) (y1 y2 y3 y4 : Int32) (H : Heap) (locs : List Loc) (ls : Array Slot), f_Mo_like_L3 σ n y1 y2 y3 y4 = some z → va_P D vwCl (MW A σ r) H → va_D A9 (MW A σ r) → va_S A9 s.heap H locs → lv_has ls 7 [(0, .ref (A 60)), (1, .int y1), (2, .int y2), (3, .int y3), (4, .int y4)] → W p l e ({ frames := 1, cells := 0, slots := 0, locals := 22 } : Room) s m [.ref (A 60), .int x1, .int x2, .int x3].toArray below meth c H locs 0 0 (MQ below (ka_Ri D z (MW A σ r) A9) [.ref (A 60), .int x1, .int x2, .int x3].toArray s 0 0 A9) (F0 m 3 ls []) := by
    intro n
    induction n with
    | zero => intro y1 y2 y3 y4 H locs ls h; cases h
    | succ n ih3 =>
      intro y1 y2 y3 y4 H locs ls h hP hD hS hl
      rw [f_Mo_like_L3] at h
      refine lv_iload hx hb d_Mo_like_3 (lv_at hl 4 rfl) ?_
      refine lv_aload_n hx hb d_Mo_like_5 rfl (lv_at hl 0 rfl) ?_
      refine va_get (D := D) (ci := 5) (v := .ref (A 61)) (C := R_Mo) (T := T_Mo) (N := 3) hx hb hts wu_Mo hown hK hP 0 rfl rfl 0 (by decide) (hts _ wf_Mo_7) (fun _ h9 => h9) rfl d_Mo_like_6 ?_
      refine lv_sipush (v := 1550) hx hb d_Mo_like_9 (by decide) ?_
      obtain ⟨i9, h⟩ := zo_i h
      refine va_iald hx hb hK hP 1 0 rfl rfl i9 d_Mo_like_12 ?_
      refine lv_icmp_ge (tgt := 80) hx hb d_Mo_like_13 (by decide) (fun c1 => ?_) (fun c1 => ?_)
      · replace h := zo_t c1 h
        refine lv_iconst (v := (-1)) hx hb d_Mo_like_80 (by decide) ?_
        cases h
        exact W.iret hx hb hr (fun t ht hW => ⟨⟨_, (), rfl, rfl, ka_at ht hP⟩, hS.F ht⟩) hS.2.2 d_Mo_like_81 hlk
      replace h := zo_f c1 h
      refine lv_iconst (v := 1) hx hb d_Mo_like_16 (by decide) ?_
      refine lv_istore (lv' := [(5, .int 1), (0, .ref (A 60)), (1, .int y1), (2, .int y2), (3, .int y3), (4, .int y4)]) hx hb d_Mo_like_17 hl (by decide) rfl (fun ls hl => ?_)
      refine lv_iconst (v := 0) hx hb d_Mo_like_19 (by decide) ?_
      refine lv_istore (lv' := [(6, .int 0), (5, .int 1), (0, .ref (A 60)), (1, .int y1), (2, .int y2), (3, .int y3), (4, .int y4)]) hx hb d_Mo_like_20 hl (by decide) rfl (fun ls hl => ?_)
      obtain ⟨v8, e9, h⟩ := zo_b h
      refine L22 100 y1 y2 y3 y4 1 0 _ _ _ _ e9 hP hD hS (lv_sub hl [2, 3, 4, 5, 6, 1, 0] rfl) (fun H locs ls hP hD hS hl => ?_)
      refine lv_iload hx hb d_Mo_like_66 (lv_at hl 5 rfl) ?_
      refine lv_if_eq (tgt := 74) hx hb d_Mo_like_68 (by decide) (fun c9 => ?_) (fun c9 => ?_)
      · replace h := zo_t c9 h
        refine lv_iinc (v := v8.2.2.2.1 + 1) (lv' := [(4, .int (v8.2.2.2.1 + 1)), (0, .ref (A 60)), (1, .int v8.1), (2, .int v8.2.1), (3, .int v8.2.2.1), (5, .int v8.2.2.2.2.1), (6, .int v8.2.2.2.2.2)]) hx hb d_Mo_like_74 hl (k := 4) rfl rfl (by decide) rfl (fun ls hl => ?_)
        refine lv_goto (tgt := 3) hx hb d_Mo_like_77 (by decide) ?_
        exact ih3 v8.1 v8.2.1 v8.2.2.1 (v8.2.2.2.1 + 1) _ _ _ h hP hD hS (lv_sub hl [1, 2, 3, 4, 0] rfl)
      replace h := zo_f c9 h
      refine lv_iload hx hb d_Mo_like_71 (lv_at hl 4 rfl) ?_
      cases h
      exact W.iret hx hb hr (fun t ht hW => ⟨⟨_, (), rfl, rfl, ka_at ht hP⟩, hS.F ht⟩) hS.2.2 d_Mo_like_73 hlk
  refine lv_iconst (v := 0) hx hb d_Mo_like_0 (by decide) ?_
  refine lv_istore (lv' := [(4, .int 0), (0, .ref (A 60)), (1, .int x1), (2, .int x2), (3, .int x3)]) hx hb d_Mo_like_1 hl (by decide) rfl (fun ls hl => ?_)
  exact L3 100 x1 x2 x3 0 _ _ _ h hP hD hS (lv_sub hl [1, 2, 3, 4, 0] rfl)
def f_Mo_made_L49 : Nat → RS → Int32 → Int32 → Int32 → Int32 → Int32 → Option (Int32 × RS)
  | 0, _, _, _, _, _, _ => none
  | n + 1, u, y1, y2, y3, y4, y5 => if 8 ≤ y5 then (if (1550 : Int32) < 0 ∨ 1552 ≤ (1550 : Int32).toNatClampNeg then none else if (1550 : Int32) < 0 ∨ 1552 ≤ (1550 : Int32).toNatClampNeg then none else zl (sM_row u (upd (gM_row u) (1550 : Int32).toNatClampNeg ((gM_row u (1550 : Int32).toNatClampNeg) + 1))) fun u5 => some (y4, u5)) else (if y5 = y2 then (if ((1037 + (8 * y4)) + y5) < 0 ∨ 1552 ≤ ((1037 + (8 * y4)) + y5).toNatClampNeg then none else zl (sM_row u (upd (gM_row u) ((1037 + (8 * y4)) + y5).toNatClampNeg y3)) fun u9 => f_Mo_made_L49 n u9 y1 y2 y3 y4 (y5 + 1)) else ((f_Mo_lev u y1 y5).bind fun v7 => if ((1037 + (8 * y4)) + y5) < 0 ∨ 1552 ≤ ((1037 + (8 * y4)) + y5).toNatClampNeg then none else zl (sM_row u (upd (gM_row u) ((1037 + (8 * y4)) + y5).toNatClampNeg v7)) fun u8 => f_Mo_made_L49 n u8 y1 y2 y3 y4 (y5 + 1)))
def f_Mo_made (σ : RS) (x1 x2 x3 : Int32) : Option (Int32 × RS) := (f_Mo_like σ x1 x2 x3).bind fun v1 => if v1 < 0 then (if (1550 : Int32) < 0 ∨ 1552 ≤ (1550 : Int32).toNatClampNeg then none else if (gM_row σ (1550 : Int32).toNatClampNeg) = 60 then ((f_Mo_fail σ 4).bind fun v10 => some (v10.1, v10.2)) else (if (1550 : Int32) < 0 ∨ 1552 ≤ (1550 : Int32).toNatClampNeg then none else f_Mo_made_L49 100 σ x1 x2 x3 (gM_row σ (1550 : Int32).toNatClampNeg) 0)) else (some (v1, σ))
set_option maxRecDepth 100000 in
set_option maxHeartbeats 4000000 in
theorem c_Mo_made (l : Launch) (hl9 : l.stackTraces = false) (D : va_G) (A : Nat → Nat) (r : va_W) (sz : Nat) (σ : RS) (x1 x2 x3 : Int32) (z : Int32 × RS) (h : f_Mo_made σ x1 x2 x3 = some z) : Met l y_Mo_made (Cond.code y_Mo_made b_Mo_made 6 (some .int) :: T0) ({ frames := 2, cells := 0, slots := 0, locals := 48 } : Room) (va_Pc [.ref (A 60), .int x1, .int x2, .int x3] (ka_Wd D A (MW A σ r) sz)) (ka_Ri D z.1 (MW A z.2 r) (va_A (MW A σ r) sz)) 0 0 (va_A (MW A σ r) sz) := by
  unfold f_Mo_made at h
  refine ka_of (own := R_Mo) (fun A9 => ka_Ri D z.1 (MW A z.2 r) A9) (by decide) rfl (Nat.le_of_ble_eq_true rfl) ?_
  intro p e s m below meth c A9 ls S9 hr hlk hex X9 hP hD hl
  obtain ⟨hx, hb, hml, hown, hts⟩ := id S9
  have hK := X9.2.1
  have hS : va_S A9 s.heap s.heap [] := va_S.rf
  replace hl : lv_has ls 6 [(0, .ref (A 60)), (1, .int x1), (2, .int x2), (3, .int x3)] := hl
  have L49 : ∀ (n : Nat) (u : RS) (y1 y2 y3 y4 y5 : Int32) (H : Heap) (locs : List Loc) (ls : Array Slot), f_Mo_made_L49 n u y1 y2 y3 y4 y5 = some z → va_P D vwCl (MW A u r) H → va_D A9 (MW A u r) → va_S A9 s.heap H locs → lv_has ls 6 [(0, .ref (A 60)), (1, .int y1), (2, .int y2), (3, .int y3), (4, .int y4), (5, .int y5)] → W p l e ({ frames := 2, cells := 0, slots := 0, locals := 48 } : Room) s m [.ref (A 60), .int x1, .int x2, .int x3].toArray below meth c H locs 0 0 (MQ below (ka_Ri D z.1 (MW A z.2 r) A9) [.ref (A 60), .int x1, .int x2, .int x3].toArray s 0 0 A9) (F0 m 49 ls []) := by
    intro n
    induction n with
    | zero => intro u y1 y2 y3 y4 y5 H locs ls h; cases h
    | succ n ih49 =>
      intro u y1 y2 y3 y4 y5 H locs ls h hP hD hS hl
      rw [f_Mo_made_L49] at h
      refine lv_iload hx hb d_Mo_made_49 (lv_at hl 5 rfl) ?_
      refine lv_bipush (v := 8) hx hb d_Mo_made_51 (by decide) ?_
      refine lv_icmp_ge (tgt := 96) hx hb d_Mo_made_53 (by decide) (fun c4 => ?_) (fun c4 => ?_)
      · replace h := zo_t c4 h
        refine lv_aload_n hx hb d_Mo_made_96 rfl (lv_at hl 0 rfl) ?_
        refine va_get (D := D) (ci := 5) (v := .ref (A 61)) (C := R_Mo) (T := T_Mo) (N := 3) hx hb hts wu_Mo hown hK hP 0 rfl rfl 0 (by decide) (hts _ wf_Mo_7) (fun _ h9 => h9) rfl d_Mo_made_97 ?_
        refine lv_sipush (v := 1550) hx hb d_Mo_made_100 (by decide) ?_
        refine lv_dup2_11 hx hb d_Mo_made_103 rfl rfl ?_
        obtain ⟨i9, h⟩ := zo_i h
        refine va_iald hx hb hK hP 1 0 rfl rfl i9 d_Mo_made_104 ?_
        refine lv_iconst (v := 1) hx hb d_Mo_made_105 (by decide) ?_
        refine lv_iadd hx hb d_Mo_made_106 ?_
        obtain ⟨i9, h⟩ := zo_i h
        obtain ⟨u5, hu9, h⟩ := zo_l h
        refine va_iast hx hb hK hP hD hS 1 0 rfl rfl i9 d_Mo_made_107 (fun H locs hP hD hS => ?_)
        replace hP : va_P D vwCl (MW A u5 r) H := by rw [hu9]; exact hP
        replace hD : va_D A9 (MW A u5 r) := by rw [hu9]; exact hD
        refine lv_iload hx hb d_Mo_made_108 (lv_at hl 4 rfl) ?_
        cases h
        exact W.iret hx hb hr (fun t ht hW => ⟨⟨_, (), rfl, rfl, ka_at ht hP⟩, hS.F ht⟩) hS.2.2 d_Mo_made_110 hlk
      replace h := zo_f c4 h
      refine lv_aload_n hx hb d_Mo_made_56 rfl (lv_at hl 0 rfl) ?_
      refine va_get (D := D) (ci := 5) (v := .ref (A 61)) (C := R_Mo) (T := T_Mo) (N := 3) hx hb hts wu_Mo hown hK hP 0 rfl rfl 0 (by decide) (hts _ wf_Mo_7) (fun _ h9 => h9) rfl d_Mo_made_57 ?_
      refine lv_sipush (v := 1037) hx hb d_Mo_made_60 (by decide) ?_
      refine lv_bipush (v := 8) hx hb d_Mo_made_63 (by decide) ?_
      refine lv_iload hx hb d_Mo_made_65 (lv_at hl 4 rfl) ?_
      refine lv_imul hx hb d_Mo_made_67 ?_
      refine lv_iadd hx hb d_Mo_made_68 ?_
      refine lv_iload hx hb d_Mo_made_69 (lv_at hl 5 rfl) ?_
      refine lv_iadd hx hb d_Mo_made_71 ?_
      refine lv_iload hx hb d_Mo_made_72 (lv_at hl 5 rfl) ?_
      refine lv_iload_n hx hb d_Mo_made_74 rfl (lv_at hl 2 rfl) ?_
      refine lv_icmp_ne (tgt := 82) hx hb d_Mo_made_75 (by decide) (fun c6 => ?_) (fun c6 => ?_)
      · replace h := zo_f c6 h
        refine lv_aload_n hx hb d_Mo_made_82 rfl (lv_at hl 0 rfl) ?_
        refine lv_iload_n hx hb d_Mo_made_83 rfl (lv_at hl 1 rfl) ?_
        refine lv_iload hx hb d_Mo_made_84 (lv_at hl 5 rfl) ?_
        obtain ⟨v7, e9, h⟩ := zo_b h
        refine ka_i (va_runV (As := [.int y1, .int y5]) (rest := [.int ((1037 + (8 * y4)) + y5), .ref (A 61)]) S9 (c_Mo_lev l hl9 D A r _ u y1 y5 _ e9) (cwV 2 hts (tg_V wl_Mo_20 wm_Mo_lev we_Mo_lev wi_Mo wo_Mo_lev) rfl rfl rfl wq_Mo_lev ⟨Nat.le_of_ble_eq_true rfl, Nat.le_of_ble_eq_true rfl⟩) (ka_preV X9 hP hD hS 0 rfl rfl) rfl rfl hl.1 rfl (lv_room (Nat.le_of_ble_eq_true rfl)) d_Mo_made_86 ⟨Nat.le_of_ble_eq_true rfl, Nat.le_of_ble_eq_true rfl⟩) X9 hD hS rfl (fun H locs hP hD hS => ?_)
        obtain ⟨i9, h⟩ := zo_i h
        obtain ⟨u8, hu9, h⟩ := zo_l h
        refine va_iast hx hb hK hP hD hS 1 0 rfl rfl i9 d_Mo_made_89 (fun H locs hP hD hS => ?_)
        replace hP : va_P D vwCl (MW A u8 r) H := by rw [hu9]; exact hP
        replace hD : va_D A9 (MW A u8 r) := by rw [hu9]; exact hD
        refine lv_iinc (v := y5 + 1) (lv' := [(5, .int (y5 + 1)), (0, .ref (A 60)), (1, .int y1), (2, .int y2), (3, .int y3), (4, .int y4)]) hx hb d_Mo_made_90 hl (k := 5) rfl rfl (by decide) rfl (fun ls hl => ?_)
        refine lv_goto (tgt := 49) hx hb d_Mo_made_93 (by decide) ?_
        exact ih49 u8 y1 y2 y3 y4 (y5 + 1) _ _ _ h hP hD hS (lv_sub hl [1, 2, 3, 4, 5, 0] rfl)
      replace h := zo_t c6 h
      refine lv_iload_n hx hb d_Mo_made_78 rfl (lv_at hl 3 rfl) ?_
      refine lv_goto (tgt := 89) hx hb d_Mo_made_79 (by decide) ?_
      obtain ⟨i9, h⟩ := zo_i h
      obtain ⟨u9, hu9, h⟩ := zo_l h
      refine va_iast hx hb hK hP hD hS 1 0 rfl rfl i9 d_Mo_made_89 (fun H locs hP hD hS => ?_)
      replace hP : va_P D vwCl (MW A u9 r) H := by rw [hu9]; exact hP
      replace hD : va_D A9 (MW A u9 r) := by rw [hu9]; exact hD
      refine lv_iinc (v := y5 + 1) (lv' := [(5, .int (y5 + 1)), (0, .ref (A 60)), (1, .int y1), (2, .int y2), (3, .int y3), (4, .int y4)]) hx hb d_Mo_made_90 hl (k := 5) rfl rfl (by decide) rfl (fun ls hl => ?_)
      refine lv_goto (tgt := 49) hx hb d_Mo_made_93 (by decide) ?_
      exact ih49 u9 y1 y2 y3 y4 (y5 + 1) _ _ _ h hP hD hS (lv_sub hl [1, 2, 3, 4, 5, 0] rfl)
  refine lv_aload_n hx hb d_Mo_made_0 rfl (lv_at hl 0 rfl) ?_
  refine lv_iload_n hx hb d_Mo_made_1 rfl (lv_at hl 1 rfl) ?_
  refine lv_iload_n hx hb d_Mo_made_2 rfl (lv_at hl 2 rfl) ?_
  refine lv_iload_n hx hb d_Mo_made_3 rfl (lv_at hl 3 rfl) ?_
  obtain ⟨v1, e9, h⟩ := zo_b h
  refine ka_i (va_runV (As := [.int x1, .int x2, .int x3]) (rest := []) S9 (c_Mo_like l hl9 D A r _ σ x1 x2 x3 _ e9) (cwV 3 hts (tg_V wl_Mo_47 wm_Mo_like we_Mo_like wi_Mo wo_Mo_like) rfl rfl rfl wq_Mo_like ⟨Nat.le_of_ble_eq_true rfl, Nat.le_of_ble_eq_true rfl⟩) (ka_preV X9 hP hD hS 0 rfl rfl) rfl rfl hl.1 rfl (lv_room (Nat.le_of_ble_eq_true rfl)) d_Mo_made_4 ⟨Nat.le_of_ble_eq_true rfl, Nat.le_of_ble_eq_true rfl⟩) X9 hD hS rfl (fun H locs hP hD hS => ?_)
  refine lv_istore (lv' := [(4, .int v1), (0, .ref (A 60)), (1, .int x1), (2, .int x2), (3, .int x3)]) hx hb d_Mo_made_7 hl (by decide) rfl (fun ls hl => ?_)
  refine lv_iload hx hb d_Mo_made_9 (lv_at hl 0 rfl) ?_
  refine lv_if_lt (tgt := 17) hx hb d_Mo_made_11 (by decide) (fun c2 => ?_) (fun c2 => ?_)
  · replace h := zo_t c2 h
    refine lv_aload_n hx hb d_Mo_made_17 rfl (lv_at hl 1 rfl) ?_
    refine va_get (D := D) (ci := 5) (v := .ref (A 61)) (C := R_Mo) (T := T_Mo) (N := 3) hx hb hts wu_Mo hown hK hP 0 rfl rfl 0 (by decide) (hts _ wf_Mo_7) (fun _ h9 => h9) rfl d_Mo_made_18 ?_
    refine lv_sipush (v := 1550) hx hb d_Mo_made_21 (by decide) ?_
    obtain ⟨i9, h⟩ := zo_i h
    refine va_iald hx hb hK hP 1 0 rfl rfl i9 d_Mo_made_24 ?_
    refine lv_bipush (v := 60) hx hb d_Mo_made_25 (by decide) ?_
    refine lv_icmp_ne (tgt := 36) hx hb d_Mo_made_27 (by decide) (fun c3 => ?_) (fun c3 => ?_)
    · replace h := zo_f c3 h
      refine lv_aload_n hx hb d_Mo_made_36 rfl (lv_at hl 1 rfl) ?_
      refine va_get (D := D) (ci := 5) (v := .ref (A 61)) (C := R_Mo) (T := T_Mo) (N := 3) hx hb hts wu_Mo hown hK hP 0 rfl rfl 0 (by decide) (hts _ wf_Mo_7) (fun _ h9 => h9) rfl d_Mo_made_37 ?_
      refine lv_sipush (v := 1550) hx hb d_Mo_made_40 (by decide) ?_
      obtain ⟨i9, h⟩ := zo_i h
      refine va_iald hx hb hK hP 1 0 rfl rfl i9 d_Mo_made_43 ?_
      refine lv_istore (lv' := [(4, .int (gM_row σ (1550 : Int32).toNatClampNeg)), (0, .ref (A 60)), (1, .int x1), (2, .int x2), (3, .int x3)]) hx hb d_Mo_made_44 hl (by decide) rfl (fun ls hl => ?_)
      refine lv_iconst (v := 0) hx hb d_Mo_made_46 (by decide) ?_
      refine lv_istore (lv' := [(5, .int 0), (4, .int (gM_row σ (1550 : Int32).toNatClampNeg)), (0, .ref (A 60)), (1, .int x1), (2, .int x2), (3, .int x3)]) hx hb d_Mo_made_47 hl (by decide) rfl (fun ls hl => ?_)
      exact L49 100 σ x1 x2 x3 (gM_row σ (1550 : Int32).toNatClampNeg) 0 _ _ _ h hP hD hS (lv_sub hl [2, 3, 4, 5, 1, 0] rfl)
    replace h := zo_t c3 h
    refine lv_aload_n hx hb d_Mo_made_30 rfl (lv_at hl 1 rfl) ?_
    refine lv_iconst (v := 4) hx hb d_Mo_made_31 (by decide) ?_
    obtain ⟨v10, e9, h⟩ := zo_b h
    refine ka_i (va_runV (As := [.int 4]) (rest := []) S9 (c_Mo_fail l hl9 D A r _ σ 4 _ e9) (cwV 1 hts (tg_V wl_Mo_51 wm_Mo_fail we_Mo_fail wi_Mo wo_Mo_fail) rfl rfl rfl wq_Mo_fail ⟨Nat.le_of_ble_eq_true rfl, Nat.le_of_ble_eq_true rfl⟩) (ka_preV X9 hP hD hS 0 rfl rfl) rfl rfl hl.1 rfl (lv_room (Nat.le_of_ble_eq_true rfl)) d_Mo_made_32 ⟨Nat.le_of_ble_eq_true rfl, Nat.le_of_ble_eq_true rfl⟩) X9 hD hS rfl (fun H locs hP hD hS => ?_)
    cases h
    exact W.iret hx hb hr (fun t ht hW => ⟨⟨_, (), rfl, rfl, ka_at ht hP⟩, hS.F ht⟩) hS.2.2 d_Mo_made_35 hlk
  replace h := zo_f c2 h
  refine lv_iload hx hb d_Mo_made_14 (lv_at hl 0 rfl) ?_
  cases h
  exact W.iret hx hb hr (fun t ht hW => ⟨⟨_, (), rfl, rfl, ka_at ht hP⟩, hS.F ht⟩) hS.2.2 d_Mo_made_16 hlk
def f_Mo_label (σ : RS) (x1 x2 x3 : Int32) : Option (Int32 × RS) := zl (sM_code σ 0) fun u1 => (f_Mo_isLabel u1 x1).bind fun v2 => if v2 = 0 then ((f_Mo_fail u1 1).bind fun v4 => some (v4.1, v4.2)) else ((f_Mo_within x2 0 7).bind fun v5 => if v5 = 0 then ((f_Mo_fail u1 1).bind fun v7 => some (v7.1, v7.2)) else ((f_Mo_within x3 0 4).bind fun v8 => if v8 = 0 then ((f_Mo_fail u1 1).bind fun v11 => some (v11.1, v11.2)) else ((f_Mo_made u1 x1 x2 x3).bind fun v10 => some (v10.1, v10.2))))
set_option maxRecDepth 100000 in
set_option maxHeartbeats 4000000 in
theorem c_Mo_label (l : Launch) (hl9 : l.stackTraces = false) (D : va_G) (A : Nat → Nat) (r : va_W) (sz : Nat) (σ : RS) (x1 x2 x3 : Int32) (z : Int32 × RS) (h : f_Mo_label σ x1 x2 x3 = some z) : Met l y_Mo_label (Cond.code y_Mo_label b_Mo_label 4 (some .int) :: T0) ({ frames := 3, cells := 0, slots := 0, locals := 73 } : Room) (va_Pc [.ref (A 60), .int x1, .int x2, .int x3] (ka_Wd D A (MW A σ r) sz)) (ka_Ri D z.1 (MW A z.2 r) (va_A (MW A σ r) sz)) 0 0 (va_A (MW A σ r) sz) := by
  unfold f_Mo_label at h
  refine ka_of (own := R_Mo) (fun A9 => ka_Ri D z.1 (MW A z.2 r) A9) (by decide) rfl (Nat.le_of_ble_eq_true rfl) ?_
  intro p e s m below meth c A9 ls S9 hr hlk hex X9 hP hD hl
  obtain ⟨hx, hb, hml, hown, hts⟩ := id S9
  have hK := X9.2.1
  have hS : va_S A9 s.heap s.heap [] := va_S.rf
  replace hl : lv_has ls 4 [(0, .ref (A 60)), (1, .int x1), (2, .int x2), (3, .int x3)] := hl
  refine lv_aload_n hx hb d_Mo_label_0 rfl (lv_at hl 0 rfl) ?_
  refine lv_iconst (v := 0) hx hb d_Mo_label_1 (by decide) ?_
  obtain ⟨u1, hu9, h⟩ := zo_l h
  refine va_put (D := D) (ci := 5) (v := .int 0) (ty := .int) (C := R_Mo) (T := T_Mo) (N := 3) hx hb hts wu_Mo ft_Mo fk_Mo nm_Mo hown hK hP hD hS 0 rfl rfl 2 (by decide) (hts _ wf_Mo_16) (fun _ h9 => h9) rfl (by decide +kernel) rfl rfl (Nat.le_of_ble_eq_true rfl) d_Mo_label_2 (fun H locs hP hD hS => ?_)
  replace hP : va_P D vwCl (MW A u1 r) H := by rw [hu9]; exact hP
  replace hD : va_D A9 (MW A u1 r) := by rw [hu9]; exact hD
  refine lv_aload_n hx hb d_Mo_label_5 rfl (lv_at hl 0 rfl) ?_
  refine lv_iload_n hx hb d_Mo_label_6 rfl (lv_at hl 1 rfl) ?_
  obtain ⟨v2, e9, h⟩ := zo_b h
  refine ka_i (va_runV (As := [.int x1]) (rest := []) S9 (c_Mo_isLabel l hl9 D A r _ u1 x1 _ e9) (cwV 1 hts (tg_V wl_Mo_54 wm_Mo_isLabel we_Mo_isLabel wi_Mo wo_Mo_isLabel) rfl rfl rfl wq_Mo_isLabel ⟨Nat.le_of_ble_eq_true rfl, Nat.le_of_ble_eq_true rfl⟩) (ka_preV X9 hP hD hS 0 rfl rfl) rfl rfl hl.1 rfl (lv_room (Nat.le_of_ble_eq_true rfl)) d_Mo_label_7 ⟨Nat.le_of_ble_eq_true rfl, Nat.le_of_ble_eq_true rfl⟩) X9 hD hS rfl (fun H locs hP hD hS => ?_)
  refine lv_if_eq (tgt := 32) hx hb d_Mo_label_10 (by decide) (fun c3 => ?_) (fun c3 => ?_)
  · replace h := zo_t c3 h
    refine lv_aload_n hx hb d_Mo_label_32 rfl (lv_at hl 0 rfl) ?_
    refine lv_iconst (v := 1) hx hb d_Mo_label_33 (by decide) ?_
    obtain ⟨v4, e9, h⟩ := zo_b h
    refine ka_i (va_runV (As := [.int 1]) (rest := []) S9 (c_Mo_fail l hl9 D A r _ u1 1 _ e9) (cwV 1 hts (tg_V wl_Mo_51 wm_Mo_fail we_Mo_fail wi_Mo wo_Mo_fail) rfl rfl rfl wq_Mo_fail ⟨Nat.le_of_ble_eq_true rfl, Nat.le_of_ble_eq_true rfl⟩) (ka_preV X9 hP hD hS 0 rfl rfl) rfl rfl hl.1 rfl (lv_room (Nat.le_of_ble_eq_true rfl)) d_Mo_label_34 ⟨Nat.le_of_ble_eq_true rfl, Nat.le_of_ble_eq_true rfl⟩) X9 hD hS rfl (fun H locs hP hD hS => ?_)
    refine lv_goto (tgt := 47) hx hb d_Mo_label_37 (by decide) ?_
    cases h
    exact W.iret hx hb hr (fun t ht hW => ⟨⟨_, (), rfl, rfl, ka_at ht hP⟩, hS.F ht⟩) hS.2.2 d_Mo_label_47 hlk
  replace h := zo_f c3 h
  refine lv_iload_n hx hb d_Mo_label_13 rfl (lv_at hl 2 rfl) ?_
  refine lv_iconst (v := 0) hx hb d_Mo_label_14 (by decide) ?_
  refine lv_bipush (v := 7) hx hb d_Mo_label_15 (by decide) ?_
  obtain ⟨v5, e9, h⟩ := zo_b h
  refine ka_i (va_runS (As := [.int x2, .int 0, .int 7]) (rest := []) S9 (c_Mo_within l hl9 D A (MW A u1 r) _ x2 0 7 _ e9) (cwS 3 hts (tg_S wl_Mo_28 ws_Mo_within wi_Mo wo_Mo_within) rfl rfl rfl wq_Mo_within ⟨Nat.le_of_ble_eq_true rfl, Nat.le_of_ble_eq_true rfl⟩) (ka_preS X9 hP hD hS) rfl rfl hl.1 rfl (lv_room (Nat.le_of_ble_eq_true rfl)) d_Mo_label_17 ⟨Nat.le_of_ble_eq_true rfl, Nat.le_of_ble_eq_true rfl⟩) X9 hD hS rfl (fun H locs hP hD hS => ?_)
  refine lv_if_eq (tgt := 32) hx hb d_Mo_label_20 (by decide) (fun c6 => ?_) (fun c6 => ?_)
  · replace h := zo_t c6 h
    refine lv_aload_n hx hb d_Mo_label_32 rfl (lv_at hl 0 rfl) ?_
    refine lv_iconst (v := 1) hx hb d_Mo_label_33 (by decide) ?_
    obtain ⟨v7, e9, h⟩ := zo_b h
    refine ka_i (va_runV (As := [.int 1]) (rest := []) S9 (c_Mo_fail l hl9 D A r _ u1 1 _ e9) (cwV 1 hts (tg_V wl_Mo_51 wm_Mo_fail we_Mo_fail wi_Mo wo_Mo_fail) rfl rfl rfl wq_Mo_fail ⟨Nat.le_of_ble_eq_true rfl, Nat.le_of_ble_eq_true rfl⟩) (ka_preV X9 hP hD hS 0 rfl rfl) rfl rfl hl.1 rfl (lv_room (Nat.le_of_ble_eq_true rfl)) d_Mo_label_34 ⟨Nat.le_of_ble_eq_true rfl, Nat.le_of_ble_eq_true rfl⟩) X9 hD hS rfl (fun H locs hP hD hS => ?_)
    refine lv_goto (tgt := 47) hx hb d_Mo_label_37 (by decide) ?_
    cases h
    exact W.iret hx hb hr (fun t ht hW => ⟨⟨_, (), rfl, rfl, ka_at ht hP⟩, hS.F ht⟩) hS.2.2 d_Mo_label_47 hlk
  replace h := zo_f c6 h
  refine lv_iload_n hx hb d_Mo_label_23 rfl (lv_at hl 3 rfl) ?_
  refine lv_iconst (v := 0) hx hb d_Mo_label_24 (by decide) ?_
  refine lv_iconst (v := 4) hx hb d_Mo_label_25 (by decide) ?_
  obtain ⟨v8, e9, h⟩ := zo_b h
  refine ka_i (va_runS (As := [.int x3, .int 0, .int 4]) (rest := []) S9 (c_Mo_within l hl9 D A (MW A u1 r) _ x3 0 4 _ e9) (cwS 3 hts (tg_S wl_Mo_28 ws_Mo_within wi_Mo wo_Mo_within) rfl rfl rfl wq_Mo_within ⟨Nat.le_of_ble_eq_true rfl, Nat.le_of_ble_eq_true rfl⟩) (ka_preS X9 hP hD hS) rfl rfl hl.1 rfl (lv_room (Nat.le_of_ble_eq_true rfl)) d_Mo_label_26 ⟨Nat.le_of_ble_eq_true rfl, Nat.le_of_ble_eq_true rfl⟩) X9 hD hS rfl (fun H locs hP hD hS => ?_)
  refine lv_if_ne (tgt := 40) hx hb d_Mo_label_29 (by decide) (fun c9 => ?_) (fun c9 => ?_)
  · replace h := zo_f c9 h
    refine lv_aload_n hx hb d_Mo_label_40 rfl (lv_at hl 0 rfl) ?_
    refine lv_iload_n hx hb d_Mo_label_41 rfl (lv_at hl 1 rfl) ?_
    refine lv_iload_n hx hb d_Mo_label_42 rfl (lv_at hl 2 rfl) ?_
    refine lv_iload_n hx hb d_Mo_label_43 rfl (lv_at hl 3 rfl) ?_
    obtain ⟨v10, e9, h⟩ := zo_b h
    refine ka_i (va_runV (As := [.int x1, .int x2, .int x3]) (rest := []) S9 (c_Mo_made l hl9 D A r _ u1 x1 x2 x3 _ e9) (cwV 3 hts (tg_V wl_Mo_57 wm_Mo_made we_Mo_made wi_Mo wo_Mo_made) rfl rfl rfl wq_Mo_made ⟨Nat.le_of_ble_eq_true rfl, Nat.le_of_ble_eq_true rfl⟩) (ka_preV X9 hP hD hS 0 rfl rfl) rfl rfl hl.1 rfl (lv_room (Nat.le_of_ble_eq_true rfl)) d_Mo_label_44 ⟨Nat.le_of_ble_eq_true rfl, Nat.le_of_ble_eq_true rfl⟩) X9 hD hS rfl (fun H locs hP hD hS => ?_)
    cases h
    exact W.iret hx hb hr (fun t ht hW => ⟨⟨_, (), rfl, rfl, ka_at ht hP⟩, hS.F ht⟩) hS.2.2 d_Mo_label_47 hlk
  replace h := zo_t c9 h
  refine lv_aload_n hx hb d_Mo_label_32 rfl (lv_at hl 0 rfl) ?_
  refine lv_iconst (v := 1) hx hb d_Mo_label_33 (by decide) ?_
  obtain ⟨v11, e9, h⟩ := zo_b h
  refine ka_i (va_runV (As := [.int 1]) (rest := []) S9 (c_Mo_fail l hl9 D A r _ u1 1 _ e9) (cwV 1 hts (tg_V wl_Mo_51 wm_Mo_fail we_Mo_fail wi_Mo wo_Mo_fail) rfl rfl rfl wq_Mo_fail ⟨Nat.le_of_ble_eq_true rfl, Nat.le_of_ble_eq_true rfl⟩) (ka_preV X9 hP hD hS 0 rfl rfl) rfl rfl hl.1 rfl (lv_room (Nat.le_of_ble_eq_true rfl)) d_Mo_label_34 ⟨Nat.le_of_ble_eq_true rfl, Nat.le_of_ble_eq_true rfl⟩) X9 hD hS rfl (fun H locs hP hD hS => ?_)
  refine lv_goto (tgt := 47) hx hb d_Mo_label_37 (by decide) ?_
  cases h
  exact W.iret hx hb hr (fun t ht hW => ⟨⟨_, (), rfl, rfl, ka_at ht hP⟩, hS.F ht⟩) hS.2.2 d_Mo_label_47 hlk
def f_Mo_level (σ : RS) (x1 x2 : Int32) : Option (Int32 × RS) := zl (sM_code σ 0) fun u1 => (f_Mo_isLabel u1 x1).bind fun v2 => if v2 = 0 then ((f_Mo_fail u1 1).bind fun v4 => some (v4.1, v4.2)) else ((f_Mo_within x2 0 7).bind fun v5 => if v5 = 0 then ((f_Mo_fail u1 1).bind fun v8 => some (v8.1, v8.2)) else ((f_Mo_lev u1 x1 x2).bind fun v7 => some (v7, u1)))
set_option maxRecDepth 100000 in
set_option maxHeartbeats 4000000 in
theorem c_Mo_level (l : Launch) (hl9 : l.stackTraces = false) (D : va_G) (A : Nat → Nat) (r : va_W) (sz : Nat) (σ : RS) (x1 x2 : Int32) (z : Int32 × RS) (h : f_Mo_level σ x1 x2 = some z) : Met l y_Mo_level (Cond.code y_Mo_level b_Mo_level 3 (some .int) :: T0) ({ frames := 2, cells := 0, slots := 0, locals := 43 } : Room) (va_Pc [.ref (A 60), .int x1, .int x2] (ka_Wd D A (MW A σ r) sz)) (ka_Ri D z.1 (MW A z.2 r) (va_A (MW A σ r) sz)) 0 0 (va_A (MW A σ r) sz) := by
  unfold f_Mo_level at h
  refine ka_of (own := R_Mo) (fun A9 => ka_Ri D z.1 (MW A z.2 r) A9) (by decide) rfl (Nat.le_of_ble_eq_true rfl) ?_
  intro p e s m below meth c A9 ls S9 hr hlk hex X9 hP hD hl
  obtain ⟨hx, hb, hml, hown, hts⟩ := id S9
  have hK := X9.2.1
  have hS : va_S A9 s.heap s.heap [] := va_S.rf
  replace hl : lv_has ls 3 [(0, .ref (A 60)), (1, .int x1), (2, .int x2)] := hl
  refine lv_aload_n hx hb d_Mo_level_0 rfl (lv_at hl 0 rfl) ?_
  refine lv_iconst (v := 0) hx hb d_Mo_level_1 (by decide) ?_
  obtain ⟨u1, hu9, h⟩ := zo_l h
  refine va_put (D := D) (ci := 5) (v := .int 0) (ty := .int) (C := R_Mo) (T := T_Mo) (N := 3) hx hb hts wu_Mo ft_Mo fk_Mo nm_Mo hown hK hP hD hS 0 rfl rfl 2 (by decide) (hts _ wf_Mo_16) (fun _ h9 => h9) rfl (by decide +kernel) rfl rfl (Nat.le_of_ble_eq_true rfl) d_Mo_level_2 (fun H locs hP hD hS => ?_)
  replace hP : va_P D vwCl (MW A u1 r) H := by rw [hu9]; exact hP
  replace hD : va_D A9 (MW A u1 r) := by rw [hu9]; exact hD
  refine lv_aload_n hx hb d_Mo_level_5 rfl (lv_at hl 0 rfl) ?_
  refine lv_iload_n hx hb d_Mo_level_6 rfl (lv_at hl 1 rfl) ?_
  obtain ⟨v2, e9, h⟩ := zo_b h
  refine ka_i (va_runV (As := [.int x1]) (rest := []) S9 (c_Mo_isLabel l hl9 D A r _ u1 x1 _ e9) (cwV 1 hts (tg_V wl_Mo_54 wm_Mo_isLabel we_Mo_isLabel wi_Mo wo_Mo_isLabel) rfl rfl rfl wq_Mo_isLabel ⟨Nat.le_of_ble_eq_true rfl, Nat.le_of_ble_eq_true rfl⟩) (ka_preV X9 hP hD hS 0 rfl rfl) rfl rfl hl.1 rfl (lv_room (Nat.le_of_ble_eq_true rfl)) d_Mo_level_7 ⟨Nat.le_of_ble_eq_true rfl, Nat.le_of_ble_eq_true rfl⟩) X9 hD hS rfl (fun H locs hP hD hS => ?_)
  refine lv_if_eq (tgt := 23) hx hb d_Mo_level_10 (by decide) (fun c3 => ?_) (fun c3 => ?_)
  · replace h := zo_t c3 h
    refine lv_aload_n hx hb d_Mo_level_23 rfl (lv_at hl 0 rfl) ?_
    refine lv_iconst (v := 1) hx hb d_Mo_level_24 (by decide) ?_
    obtain ⟨v4, e9, h⟩ := zo_b h
    refine ka_i (va_runV (As := [.int 1]) (rest := []) S9 (c_Mo_fail l hl9 D A r _ u1 1 _ e9) (cwV 1 hts (tg_V wl_Mo_51 wm_Mo_fail we_Mo_fail wi_Mo wo_Mo_fail) rfl rfl rfl wq_Mo_fail ⟨Nat.le_of_ble_eq_true rfl, Nat.le_of_ble_eq_true rfl⟩) (ka_preV X9 hP hD hS 0 rfl rfl) rfl rfl hl.1 rfl (lv_room (Nat.le_of_ble_eq_true rfl)) d_Mo_level_25 ⟨Nat.le_of_ble_eq_true rfl, Nat.le_of_ble_eq_true rfl⟩) X9 hD hS rfl (fun H locs hP hD hS => ?_)
    refine lv_goto (tgt := 37) hx hb d_Mo_level_28 (by decide) ?_
    cases h
    exact W.iret hx hb hr (fun t ht hW => ⟨⟨_, (), rfl, rfl, ka_at ht hP⟩, hS.F ht⟩) hS.2.2 d_Mo_level_37 hlk
  replace h := zo_f c3 h
  refine lv_iload_n hx hb d_Mo_level_13 rfl (lv_at hl 2 rfl) ?_
  refine lv_iconst (v := 0) hx hb d_Mo_level_14 (by decide) ?_
  refine lv_bipush (v := 7) hx hb d_Mo_level_15 (by decide) ?_
  obtain ⟨v5, e9, h⟩ := zo_b h
  refine ka_i (va_runS (As := [.int x2, .int 0, .int 7]) (rest := []) S9 (c_Mo_within l hl9 D A (MW A u1 r) _ x2 0 7 _ e9) (cwS 3 hts (tg_S wl_Mo_28 ws_Mo_within wi_Mo wo_Mo_within) rfl rfl rfl wq_Mo_within ⟨Nat.le_of_ble_eq_true rfl, Nat.le_of_ble_eq_true rfl⟩) (ka_preS X9 hP hD hS) rfl rfl hl.1 rfl (lv_room (Nat.le_of_ble_eq_true rfl)) d_Mo_level_17 ⟨Nat.le_of_ble_eq_true rfl, Nat.le_of_ble_eq_true rfl⟩) X9 hD hS rfl (fun H locs hP hD hS => ?_)
  refine lv_if_ne (tgt := 31) hx hb d_Mo_level_20 (by decide) (fun c6 => ?_) (fun c6 => ?_)
  · replace h := zo_f c6 h
    refine lv_aload_n hx hb d_Mo_level_31 rfl (lv_at hl 0 rfl) ?_
    refine lv_iload_n hx hb d_Mo_level_32 rfl (lv_at hl 1 rfl) ?_
    refine lv_iload_n hx hb d_Mo_level_33 rfl (lv_at hl 2 rfl) ?_
    obtain ⟨v7, e9, h⟩ := zo_b h
    refine ka_i (va_runV (As := [.int x1, .int x2]) (rest := []) S9 (c_Mo_lev l hl9 D A r _ u1 x1 x2 _ e9) (cwV 2 hts (tg_V wl_Mo_20 wm_Mo_lev we_Mo_lev wi_Mo wo_Mo_lev) rfl rfl rfl wq_Mo_lev ⟨Nat.le_of_ble_eq_true rfl, Nat.le_of_ble_eq_true rfl⟩) (ka_preV X9 hP hD hS 0 rfl rfl) rfl rfl hl.1 rfl (lv_room (Nat.le_of_ble_eq_true rfl)) d_Mo_level_34 ⟨Nat.le_of_ble_eq_true rfl, Nat.le_of_ble_eq_true rfl⟩) X9 hD hS rfl (fun H locs hP hD hS => ?_)
    cases h
    exact W.iret hx hb hr (fun t ht hW => ⟨⟨_, (), rfl, rfl, ka_at ht hP⟩, hS.F ht⟩) hS.2.2 d_Mo_level_37 hlk
  replace h := zo_t c6 h
  refine lv_aload_n hx hb d_Mo_level_23 rfl (lv_at hl 0 rfl) ?_
  refine lv_iconst (v := 1) hx hb d_Mo_level_24 (by decide) ?_
  obtain ⟨v8, e9, h⟩ := zo_b h
  refine ka_i (va_runV (As := [.int 1]) (rest := []) S9 (c_Mo_fail l hl9 D A r _ u1 1 _ e9) (cwV 1 hts (tg_V wl_Mo_51 wm_Mo_fail we_Mo_fail wi_Mo wo_Mo_fail) rfl rfl rfl wq_Mo_fail ⟨Nat.le_of_ble_eq_true rfl, Nat.le_of_ble_eq_true rfl⟩) (ka_preV X9 hP hD hS 0 rfl rfl) rfl rfl hl.1 rfl (lv_room (Nat.le_of_ble_eq_true rfl)) d_Mo_level_25 ⟨Nat.le_of_ble_eq_true rfl, Nat.le_of_ble_eq_true rfl⟩) X9 hD hS rfl (fun H locs hP hD hS => ?_)
  refine lv_goto (tgt := 37) hx hb d_Mo_level_28 (by decide) ?_
  cases h
  exact W.iret hx hb hr (fun t ht hW => ⟨⟨_, (), rfl, rfl, ka_at ht hP⟩, hS.F ht⟩) hS.2.2 d_Mo_level_37 hlk
def f_Mo_fits (σ : RS) (x1 x2 x3 : Int32) : Option (Int32 × RS) := zl (sM_code σ 0) fun u1 => (f_Mo_isLabel u1 x1).bind fun v2 => if v2 = 0 then (zl (sM_code u1 1) fun u4 => some (0, u4)) else ((f_Mo_isLabel u1 x2).bind fun v5 => if v5 = 0 then (zl (sM_code u1 1) fun u7 => some (0, u7)) else ((f_Mo_under u1 x1 x2 x3).bind fun v8 => if vp_nar .boolean v8 = v8 then some (v8, u1) else none))
set_option maxRecDepth 100000 in
set_option maxHeartbeats 4000000 in
theorem c_Mo_fits (l : Launch) (hl9 : l.stackTraces = false) (D : va_G) (A : Nat → Nat) (r : va_W) (sz : Nat) (σ : RS) (x1 x2 x3 : Int32) (z : Int32 × RS) (h : f_Mo_fits σ x1 x2 x3 = some z) : Met l y_Mo_fits (Cond.code y_Mo_fits b_Mo_fits 4 (some .boolean) :: T0) ({ frames := 2, cells := 0, slots := 0, locals := 47 } : Room) (va_Pc [.ref (A 60), .int x1, .int x2, .int x3] (ka_Wd D A (MW A σ r) sz)) (ka_Ri D z.1 (MW A z.2 r) (va_A (MW A σ r) sz)) 0 0 (va_A (MW A σ r) sz) := by
  unfold f_Mo_fits at h
  refine ka_of (own := R_Mo) (fun A9 => ka_Ri D z.1 (MW A z.2 r) A9) (by decide) rfl (Nat.le_of_ble_eq_true rfl) ?_
  intro p e s m below meth c A9 ls S9 hr hlk hex X9 hP hD hl
  obtain ⟨hx, hb, hml, hown, hts⟩ := id S9
  have hK := X9.2.1
  have hS : va_S A9 s.heap s.heap [] := va_S.rf
  replace hl : lv_has ls 4 [(0, .ref (A 60)), (1, .int x1), (2, .int x2), (3, .int x3)] := hl
  refine lv_aload_n hx hb d_Mo_fits_0 rfl (lv_at hl 0 rfl) ?_
  refine lv_iconst (v := 0) hx hb d_Mo_fits_1 (by decide) ?_
  obtain ⟨u1, hu9, h⟩ := zo_l h
  refine va_put (D := D) (ci := 5) (v := .int 0) (ty := .int) (C := R_Mo) (T := T_Mo) (N := 3) hx hb hts wu_Mo ft_Mo fk_Mo nm_Mo hown hK hP hD hS 0 rfl rfl 2 (by decide) (hts _ wf_Mo_16) (fun _ h9 => h9) rfl (by decide +kernel) rfl rfl (Nat.le_of_ble_eq_true rfl) d_Mo_fits_2 (fun H locs hP hD hS => ?_)
  replace hP : va_P D vwCl (MW A u1 r) H := by rw [hu9]; exact hP
  replace hD : va_D A9 (MW A u1 r) := by rw [hu9]; exact hD
  refine lv_aload_n hx hb d_Mo_fits_5 rfl (lv_at hl 0 rfl) ?_
  refine lv_iload_n hx hb d_Mo_fits_6 rfl (lv_at hl 1 rfl) ?_
  obtain ⟨v2, e9, h⟩ := zo_b h
  refine ka_i (va_runV (As := [.int x1]) (rest := []) S9 (c_Mo_isLabel l hl9 D A r _ u1 x1 _ e9) (cwV 1 hts (tg_V wl_Mo_54 wm_Mo_isLabel we_Mo_isLabel wi_Mo wo_Mo_isLabel) rfl rfl rfl wq_Mo_isLabel ⟨Nat.le_of_ble_eq_true rfl, Nat.le_of_ble_eq_true rfl⟩) (ka_preV X9 hP hD hS 0 rfl rfl) rfl rfl hl.1 rfl (lv_room (Nat.le_of_ble_eq_true rfl)) d_Mo_fits_7 ⟨Nat.le_of_ble_eq_true rfl, Nat.le_of_ble_eq_true rfl⟩) X9 hD hS rfl (fun H locs hP hD hS => ?_)
  refine lv_if_eq (tgt := 29) hx hb d_Mo_fits_10 (by decide) (fun c3 => ?_) (fun c3 => ?_)
  · replace h := zo_t c3 h
    refine lv_aload_n hx hb d_Mo_fits_29 rfl (lv_at hl 0 rfl) ?_
    refine lv_iconst (v := 1) hx hb d_Mo_fits_30 (by decide) ?_
    obtain ⟨u4, hu9, h⟩ := zo_l h
    refine va_put (D := D) (ci := 5) (v := .int 1) (ty := .int) (C := R_Mo) (T := T_Mo) (N := 3) hx hb hts wu_Mo ft_Mo fk_Mo nm_Mo hown hK hP hD hS 0 rfl rfl 2 (by decide) (hts _ wf_Mo_16) (fun _ h9 => h9) rfl (by decide +kernel) rfl rfl (Nat.le_of_ble_eq_true rfl) d_Mo_fits_31 (fun H locs hP hD hS => ?_)
    replace hP : va_P D vwCl (MW A u4 r) H := by rw [hu9]; exact hP
    replace hD : va_D A9 (MW A u4 r) := by rw [hu9]; exact hD
    refine lv_iconst (v := 0) hx hb d_Mo_fits_34 (by decide) ?_
    cases h
    exact W.zret hx hb hr (by decide) (fun t ht hW => ⟨⟨_, (), rfl, rfl, ka_at ht hP⟩, hS.F ht⟩) hS.2.2 d_Mo_fits_35 hlk
  replace h := zo_f c3 h
  refine lv_aload_n hx hb d_Mo_fits_13 rfl (lv_at hl 0 rfl) ?_
  refine lv_iload_n hx hb d_Mo_fits_14 rfl (lv_at hl 2 rfl) ?_
  obtain ⟨v5, e9, h⟩ := zo_b h
  refine ka_i (va_runV (As := [.int x2]) (rest := []) S9 (c_Mo_isLabel l hl9 D A r _ u1 x2 _ e9) (cwV 1 hts (tg_V wl_Mo_54 wm_Mo_isLabel we_Mo_isLabel wi_Mo wo_Mo_isLabel) rfl rfl rfl wq_Mo_isLabel ⟨Nat.le_of_ble_eq_true rfl, Nat.le_of_ble_eq_true rfl⟩) (ka_preV X9 hP hD hS 0 rfl rfl) rfl rfl hl.1 rfl (lv_room (Nat.le_of_ble_eq_true rfl)) d_Mo_fits_15 ⟨Nat.le_of_ble_eq_true rfl, Nat.le_of_ble_eq_true rfl⟩) X9 hD hS rfl (fun H locs hP hD hS => ?_)
  refine lv_if_eq (tgt := 29) hx hb d_Mo_fits_18 (by decide) (fun c6 => ?_) (fun c6 => ?_)
  · replace h := zo_t c6 h
    refine lv_aload_n hx hb d_Mo_fits_29 rfl (lv_at hl 0 rfl) ?_
    refine lv_iconst (v := 1) hx hb d_Mo_fits_30 (by decide) ?_
    obtain ⟨u7, hu9, h⟩ := zo_l h
    refine va_put (D := D) (ci := 5) (v := .int 1) (ty := .int) (C := R_Mo) (T := T_Mo) (N := 3) hx hb hts wu_Mo ft_Mo fk_Mo nm_Mo hown hK hP hD hS 0 rfl rfl 2 (by decide) (hts _ wf_Mo_16) (fun _ h9 => h9) rfl (by decide +kernel) rfl rfl (Nat.le_of_ble_eq_true rfl) d_Mo_fits_31 (fun H locs hP hD hS => ?_)
    replace hP : va_P D vwCl (MW A u7 r) H := by rw [hu9]; exact hP
    replace hD : va_D A9 (MW A u7 r) := by rw [hu9]; exact hD
    refine lv_iconst (v := 0) hx hb d_Mo_fits_34 (by decide) ?_
    cases h
    exact W.zret hx hb hr (by decide) (fun t ht hW => ⟨⟨_, (), rfl, rfl, ka_at ht hP⟩, hS.F ht⟩) hS.2.2 d_Mo_fits_35 hlk
  replace h := zo_f c6 h
  refine lv_aload_n hx hb d_Mo_fits_21 rfl (lv_at hl 0 rfl) ?_
  refine lv_iload_n hx hb d_Mo_fits_22 rfl (lv_at hl 1 rfl) ?_
  refine lv_iload_n hx hb d_Mo_fits_23 rfl (lv_at hl 2 rfl) ?_
  refine lv_iload_n hx hb d_Mo_fits_24 rfl (lv_at hl 3 rfl) ?_
  obtain ⟨v8, e9, h⟩ := zo_b h
  refine ka_i (va_runV (As := [.int x1, .int x2, .int x3]) (rest := []) S9 (c_Mo_under l hl9 D A r _ u1 x1 x2 x3 _ e9) (cwV 3 hts (tg_V wl_Mo_35 wm_Mo_under we_Mo_under wi_Mo wo_Mo_under) rfl rfl rfl wq_Mo_under ⟨Nat.le_of_ble_eq_true rfl, Nat.le_of_ble_eq_true rfl⟩) (ka_preV X9 hP hD hS 0 rfl rfl) rfl rfl hl.1 rfl (lv_room (Nat.le_of_ble_eq_true rfl)) d_Mo_fits_25 ⟨Nat.le_of_ble_eq_true rfl, Nat.le_of_ble_eq_true rfl⟩) X9 hD hS rfl (fun H locs hP hD hS => ?_)
  obtain ⟨b9, h⟩ := zo_g h
  cases h
  exact W.zret hx hb hr (zo_nar b9) (fun t ht hW => ⟨⟨_, (), rfl, rfl, ka_at ht hP⟩, hS.F ht⟩) hS.2.2 d_Mo_fits_28 hlk
def f_Mo_threadOnly (σ : RS) (x1 : Int32) : Option (Int32 × RS) := (f_Mo_there σ x1).bind fun v1 => if v1 = 0 then (zl (sM_code σ 2) fun u8 => if (gM_code u8) = 0 then (some (1, u8)) else (some (0, u8))) else ((f_Mo_at σ x1 1).bind fun v3 => if v3 = 3 then (if (gM_code σ) = 0 then (some (1, σ)) else (some (0, σ))) else (zl (sM_code σ 1) fun u6 => if (gM_code u6) = 0 then (some (1, u6)) else (some (0, u6))))
set_option maxRecDepth 100000 in
set_option maxHeartbeats 4000000 in
theorem c_Mo_threadOnly (l : Launch) (hl9 : l.stackTraces = false) (D : va_G) (A : Nat → Nat) (r : va_W) (sz : Nat) (σ : RS) (x1 : Int32) (z : Int32 × RS) (h : f_Mo_threadOnly σ x1 = some z) : Met l y_Mo_threadOnly (Cond.code y_Mo_threadOnly b_Mo_threadOnly 2 (some .boolean) :: T0) ({ frames := 2, cells := 0, slots := 0, locals := 43 } : Room) (va_Pc [.ref (A 60), .int x1] (ka_Wd D A (MW A σ r) sz)) (ka_Ri D z.1 (MW A z.2 r) (va_A (MW A σ r) sz)) 0 0 (va_A (MW A σ r) sz) := by
  unfold f_Mo_threadOnly at h
  refine ka_of (own := R_Mo) (fun A9 => ka_Ri D z.1 (MW A z.2 r) A9) (by decide) rfl (Nat.le_of_ble_eq_true rfl) ?_
  intro p e s m below meth c A9 ls S9 hr hlk hex X9 hP hD hl
  obtain ⟨hx, hb, hml, hown, hts⟩ := id S9
  have hK := X9.2.1
  have hS : va_S A9 s.heap s.heap [] := va_S.rf
  replace hl : lv_has ls 2 [(0, .ref (A 60)), (1, .int x1)] := hl
  refine lv_aload_n hx hb d_Mo_threadOnly_0 rfl (lv_at hl 0 rfl) ?_
  refine lv_iload_n hx hb d_Mo_threadOnly_1 rfl (lv_at hl 1 rfl) ?_
  obtain ⟨v1, e9, h⟩ := zo_b h
  refine ka_i (va_runV (As := [.int x1]) (rest := []) S9 (c_Mo_there l hl9 D A r _ σ x1 _ e9) (cwV 1 hts (tg_V wl_Mo_43 wm_Mo_there we_Mo_there wi_Mo wo_Mo_there) rfl rfl rfl wq_Mo_there ⟨Nat.le_of_ble_eq_true rfl, Nat.le_of_ble_eq_true rfl⟩) (ka_preV X9 hP hD hS 0 rfl rfl) rfl rfl hl.1 rfl (lv_room (Nat.le_of_ble_eq_true rfl)) d_Mo_threadOnly_2 ⟨Nat.le_of_ble_eq_true rfl, Nat.le_of_ble_eq_true rfl⟩) X9 hD hS rfl (fun H locs hP hD hS => ?_)
  refine lv_if_ne (tgt := 16) hx hb d_Mo_threadOnly_5 (by decide) (fun c2 => ?_) (fun c2 => ?_)
  · replace h := zo_f c2 h
    refine lv_aload_n hx hb d_Mo_threadOnly_16 rfl (lv_at hl 0 rfl) ?_
    refine lv_iload_n hx hb d_Mo_threadOnly_17 rfl (lv_at hl 1 rfl) ?_
    refine lv_iconst (v := 1) hx hb d_Mo_threadOnly_18 (by decide) ?_
    obtain ⟨v3, e9, h⟩ := zo_b h
    refine ka_i (va_runV (As := [.int x1, .int 1]) (rest := []) S9 (c_Mo_at l hl9 D A r _ σ x1 1 _ e9) (cwV 2 hts (tg_V wl_Mo_32 wm_Mo_at we_Mo_at wi_Mo wo_Mo_at) rfl rfl rfl wq_Mo_at ⟨Nat.le_of_ble_eq_true rfl, Nat.le_of_ble_eq_true rfl⟩) (ka_preV X9 hP hD hS 0 rfl rfl) rfl rfl hl.1 rfl (lv_room (Nat.le_of_ble_eq_true rfl)) d_Mo_threadOnly_19 ⟨Nat.le_of_ble_eq_true rfl, Nat.le_of_ble_eq_true rfl⟩) X9 hD hS rfl (fun H locs hP hD hS => ?_)
    refine lv_iconst (v := 3) hx hb d_Mo_threadOnly_22 (by decide) ?_
    refine lv_icmp_eq (tgt := 31) hx hb d_Mo_threadOnly_23 (by decide) (fun c4 => ?_) (fun c4 => ?_)
    · replace h := zo_t c4 h
      refine lv_aload_n hx hb d_Mo_threadOnly_31 rfl (lv_at hl 0 rfl) ?_
      refine va_get (D := D) (ci := 5) (v := .int (gM_code σ)) (C := R_Mo) (T := T_Mo) (N := 3) hx hb hts wu_Mo hown hK hP 0 rfl rfl 2 (by decide) (hts _ wf_Mo_16) (fun _ h9 => h9) rfl d_Mo_threadOnly_32 ?_
      refine lv_if_ne (tgt := 42) hx hb d_Mo_threadOnly_35 (by decide) (fun c5 => ?_) (fun c5 => ?_)
      · replace h := zo_f c5 h
        refine lv_iconst (v := 0) hx hb d_Mo_threadOnly_42 (by decide) ?_
        cases h
        exact W.zret hx hb hr (by decide) (fun t ht hW => ⟨⟨_, (), rfl, rfl, ka_at ht hP⟩, hS.F ht⟩) hS.2.2 d_Mo_threadOnly_43 hlk
      replace h := zo_t c5 h
      refine lv_iconst (v := 1) hx hb d_Mo_threadOnly_38 (by decide) ?_
      refine lv_goto (tgt := 43) hx hb d_Mo_threadOnly_39 (by decide) ?_
      cases h
      exact W.zret hx hb hr (by decide) (fun t ht hW => ⟨⟨_, (), rfl, rfl, ka_at ht hP⟩, hS.F ht⟩) hS.2.2 d_Mo_threadOnly_43 hlk
    replace h := zo_f c4 h
    refine lv_aload_n hx hb d_Mo_threadOnly_26 rfl (lv_at hl 0 rfl) ?_
    refine lv_iconst (v := 1) hx hb d_Mo_threadOnly_27 (by decide) ?_
    obtain ⟨u6, hu9, h⟩ := zo_l h
    refine va_put (D := D) (ci := 5) (v := .int 1) (ty := .int) (C := R_Mo) (T := T_Mo) (N := 3) hx hb hts wu_Mo ft_Mo fk_Mo nm_Mo hown hK hP hD hS 0 rfl rfl 2 (by decide) (hts _ wf_Mo_16) (fun _ h9 => h9) rfl (by decide +kernel) rfl rfl (Nat.le_of_ble_eq_true rfl) d_Mo_threadOnly_28 (fun H locs hP hD hS => ?_)
    replace hP : va_P D vwCl (MW A u6 r) H := by rw [hu9]; exact hP
    replace hD : va_D A9 (MW A u6 r) := by rw [hu9]; exact hD
    refine lv_aload_n hx hb d_Mo_threadOnly_31 rfl (lv_at hl 0 rfl) ?_
    refine va_get (D := D) (ci := 5) (v := .int (gM_code u6)) (C := R_Mo) (T := T_Mo) (N := 3) hx hb hts wu_Mo hown hK hP 0 rfl rfl 2 (by decide) (hts _ wf_Mo_16) (fun _ h9 => h9) rfl d_Mo_threadOnly_32 ?_
    refine lv_if_ne (tgt := 42) hx hb d_Mo_threadOnly_35 (by decide) (fun c7 => ?_) (fun c7 => ?_)
    · replace h := zo_f c7 h
      refine lv_iconst (v := 0) hx hb d_Mo_threadOnly_42 (by decide) ?_
      cases h
      exact W.zret hx hb hr (by decide) (fun t ht hW => ⟨⟨_, (), rfl, rfl, ka_at ht hP⟩, hS.F ht⟩) hS.2.2 d_Mo_threadOnly_43 hlk
    replace h := zo_t c7 h
    refine lv_iconst (v := 1) hx hb d_Mo_threadOnly_38 (by decide) ?_
    refine lv_goto (tgt := 43) hx hb d_Mo_threadOnly_39 (by decide) ?_
    cases h
    exact W.zret hx hb hr (by decide) (fun t ht hW => ⟨⟨_, (), rfl, rfl, ka_at ht hP⟩, hS.F ht⟩) hS.2.2 d_Mo_threadOnly_43 hlk
  replace h := zo_t c2 h
  refine lv_aload_n hx hb d_Mo_threadOnly_8 rfl (lv_at hl 0 rfl) ?_
  refine lv_iconst (v := 2) hx hb d_Mo_threadOnly_9 (by decide) ?_
  obtain ⟨u8, hu9, h⟩ := zo_l h
  refine va_put (D := D) (ci := 5) (v := .int 2) (ty := .int) (C := R_Mo) (T := T_Mo) (N := 3) hx hb hts wu_Mo ft_Mo fk_Mo nm_Mo hown hK hP hD hS 0 rfl rfl 2 (by decide) (hts _ wf_Mo_16) (fun _ h9 => h9) rfl (by decide +kernel) rfl rfl (Nat.le_of_ble_eq_true rfl) d_Mo_threadOnly_10 (fun H locs hP hD hS => ?_)
  replace hP : va_P D vwCl (MW A u8 r) H := by rw [hu9]; exact hP
  replace hD : va_D A9 (MW A u8 r) := by rw [hu9]; exact hD
  refine lv_goto (tgt := 31) hx hb d_Mo_threadOnly_13 (by decide) ?_
  refine lv_aload_n hx hb d_Mo_threadOnly_31 rfl (lv_at hl 0 rfl) ?_
  refine va_get (D := D) (ci := 5) (v := .int (gM_code u8)) (C := R_Mo) (T := T_Mo) (N := 3) hx hb hts wu_Mo hown hK hP 0 rfl rfl 2 (by decide) (hts _ wf_Mo_16) (fun _ h9 => h9) rfl d_Mo_threadOnly_32 ?_
  refine lv_if_ne (tgt := 42) hx hb d_Mo_threadOnly_35 (by decide) (fun c9 => ?_) (fun c9 => ?_)
  · replace h := zo_f c9 h
    refine lv_iconst (v := 0) hx hb d_Mo_threadOnly_42 (by decide) ?_
    cases h
    exact W.zret hx hb hr (by decide) (fun t ht hW => ⟨⟨_, (), rfl, rfl, ka_at ht hP⟩, hS.F ht⟩) hS.2.2 d_Mo_threadOnly_43 hlk
  replace h := zo_t c9 h
  refine lv_iconst (v := 1) hx hb d_Mo_threadOnly_38 (by decide) ?_
  refine lv_goto (tgt := 43) hx hb d_Mo_threadOnly_39 (by decide) ?_
  cases h
  exact W.zret hx hb hr (by decide) (fun t ht hW => ⟨⟨_, (), rfl, rfl, ka_at ht hP⟩, hS.F ht⟩) hS.2.2 d_Mo_threadOnly_43 hlk
