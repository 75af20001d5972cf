def r0 : RS := (fun _ => 0, fun _ => 0, 0)
def f_Mo_init_L136 : Nat → RS → Int32 → Option (RS)
  | 0, _, _ => none
  | n + 1, u, y1 => if 1552 ≤ y1 then (some u) else (if y1 < 0 ∨ 1552 ≤ (y1).toNatClampNeg then none else if y1 < 0 ∨ 1552 ≤ (y1).toNatClampNeg then none else zl (sM_kept u (upd (gM_kept u) (y1).toNatClampNeg (gM_row u (y1).toNatClampNeg))) fun u12 => f_Mo_init_L136 n u12 (y1 + 1))
def f_Mo_init_L24 : Nat → RS → Int32 → Option (RS)
  | 0, _, _ => none
  | n + 1, u, y1 => if 8 ≤ y1 then (if (1550 : Int32) < 0 ∨ 1552 ≤ (1550 : Int32).toNatClampNeg then none else zl (sM_row u (upd (gM_row u) (1550 : Int32).toNatClampNeg 2)) fun u2 => if (1549 : Int32) < 0 ∨ 1552 ≤ (1549 : Int32).toNatClampNeg then none else zl (sM_row u2 (upd (gM_row u2) (1549 : Int32).toNatClampNeg 2)) fun u3 => if (17 : Int32) < 0 ∨ 1552 ≤ (17 : Int32).toNatClampNeg then none else zl (sM_row u3 (upd (gM_row u3) (17 : Int32).toNatClampNeg 1)) fun u4 => if (20 : Int32) < 0 ∨ 1552 ≤ (20 : Int32).toNatClampNeg then none else zl (sM_row u4 (upd (gM_row u4) (20 : Int32).toNatClampNeg 200)) fun u5 => if (34 : Int32) < 0 ∨ 1552 ≤ (34 : Int32).toNatClampNeg then none else zl (sM_row u5 (upd (gM_row u5) (34 : Int32).toNatClampNeg 1)) fun u6 => if (35 : Int32) < 0 ∨ 1552 ≤ (35 : Int32).toNatClampNeg then none else zl (sM_row u6 (upd (gM_row u6) (35 : Int32).toNatClampNeg 3)) fun u7 => if (37 : Int32) < 0 ∨ 1552 ≤ (37 : Int32).toNatClampNeg then none else zl (sM_row u7 (upd (gM_row u7) (37 : Int32).toNatClampNeg 2)) fun u8 => if (38 : Int32) < 0 ∨ 1552 ≤ (38 : Int32).toNatClampNeg then none else zl (sM_row u8 (upd (gM_row u8) (38 : Int32).toNatClampNeg 1)) fun u9 => if (40 : Int32) < 0 ∨ 1552 ≤ (40 : Int32).toNatClampNeg then none else zl (sM_row u9 (upd (gM_row u9) (40 : Int32).toNatClampNeg 1)) fun u10 => f_Mo_init_L136 2000 u10 0) else (if (1037 + y1) < 0 ∨ 1552 ≤ (1037 + y1).toNatClampNeg then none else zl (sM_row u (upd (gM_row u) (1037 + y1).toNatClampNeg 1)) fun u13 => if (1045 + y1) < 0 ∨ 1552 ≤ (1045 + y1).toNatClampNeg then none else zl (sM_row u13 (upd (gM_row u13) (1045 + y1).toNatClampNeg 2)) fun u14 => f_Mo_init_L24 n u14 (y1 + 1))
def f_Mo_init : Option RS := f_Mo_init_L24 2000 r0 0
abbrev kb_Mo (D : va_G) (A : Nat → Nat) (h0 : Nat) (z : RS) (A9 : Nat → Prop) : Array Value → State → Outcome → State → Prop := va_Qv (fun a : Nat → Nat => a 60 = h0 ∧ ∀ n, 63 ≤ n → a n = A n) (fun a t => va_P D vwCl (MW a z []) t.heap ∧ va_D A9 (MW a z [])) A9
set_option maxRecDepth 100000 in
set_option maxHeartbeats 4000000 in
theorem k_Mo (l : Launch) (hl9 : l.stackTraces = false) (D : va_G) (A : Nat → Nat) (h0 sz : Nat) (z : RS) (h : f_Mo_init = some z) : Met l y_Mo_init (Cond.code y_Mo_init b_Mo_init 2 none :: T0) ({ frames := 1, cells := 2, slots := 3104, locals := 12 } : Room) (va_Pc [.ref h0] (ka_Wd D A [(h0, .inr (5, [.null, .null, .int 0]))] sz)) (kb_Mo D A h0 z (va_A [(h0, .inr (5, [.null, .null, .int 0]))] sz)) 2 3104 (va_A [(h0, .inr (5, [.null, .null, .int 0]))] sz) := by
  refine ka_of (own := R_Mo) (fun A9 => kb_Mo D A h0 z A9) (by decide) rfl (Nat.le_of_ble_eq_true rfl) ?_
  intro p e s m below meth c A9 ls S9 hr hlk hin X9 hP hD hl
  obtain ⟨hx, hb, hml, hown, hts⟩ := id S9
  have hK := X9.2.1
  have hS : va_S A9 s.heap s.heap [] := va_S.rf
  replace hl : lv_has ls 2 [(0, .ref h0)] := hl
  refine lv_aload_n hx hb d_Mo_init_0 rfl (lv_at hl 0 rfl) ?_
  refine W.objInit hx hb hown (hts _ wl_Mo_1) (hts _ wm_obj) (hts _ wo_obj) rfl (by rw [hml]; exact hl.1) rfl d_Mo_init_1 (Nat.le_of_ble_eq_true rfl) (Nat.le_of_ble_eq_true rfl) ?_
  refine W.eq (g2 := F0 m 4 ls []) rfl ?_
  refine lv_aload_n hx hb d_Mo_init_4 rfl (lv_at hl 0 rfl) ?_
  refine lv_sipush (v := 1552) hx hb d_Mo_init_5 (by decide) ?_
  refine va_newa (atype := .int) (ty := .int) (n := 1552) (N' := 1552) (a0 := (1552, .inl (fun _ => 0))) hx hb (hts _ wa_int) rfl hK hP hD hS X9.1 (fun _ => rfl) (by decide) (by decide) (by decide) (Nat.le_of_ble_eq_true rfl) (Nat.le_of_ble_eq_true rfl) d_Mo_init_8 (fun q8 cA H hK9 hP hD hS => ?_)
  obtain rfl := ka_caI hK9
  have hP : va_P D vwCl [(h0, .inr (5, [.null, .null, .int 0])), (q8, .inl (A 900, 1552, .inl (fun _ => 0)))] H := hP
  have hD : va_D A9 [(h0, .inr (5, [.null, .null, .int 0])), (q8, .inl (A 900, 1552, .inl (fun _ => 0)))] := hD
  refine va_putF (D := D) (ci := 5) (v := .ref q8) (ty := .array .int) (C := R_Mo) (T := T_Mo) (N := 3) hx hb hts wu_Mo ft_Mo fk_Mo nm_Mo hown hK hP hD hS 0 rfl rfl 0 (by decide) (hts _ wf_Mo_7) (fun _ h9 => h9) rfl hin rfl (by decide +kernel) rfl rfl (Nat.le_of_ble_eq_true rfl) d_Mo_init_10 (fun H locs hP hD hS => ?_)
  have hP : va_P D vwCl [(h0, .inr (5, [.ref q8, .null, .int 0])), (q8, .inl (A 900, 1552, .inl (fun _ => 0)))] H := hP
  have hD : va_D A9 [(h0, .inr (5, [.ref q8, .null, .int 0])), (q8, .inl (A 900, 1552, .inl (fun _ => 0)))] := hD
  refine lv_aload_n hx hb d_Mo_init_13 rfl (lv_at hl 0 rfl) ?_
  refine lv_sipush (v := 1552) hx hb d_Mo_init_14 (by decide) ?_
  refine va_newa (atype := .int) (ty := .int) (n := 1552) (N' := 1552) (a0 := (1552, .inl (fun _ => 0))) hx hb (hts _ wa_int) rfl hK hP hD hS X9.1 (fun _ => rfl) (by decide) (by decide) (by decide) (Nat.le_of_ble_eq_true rfl) (Nat.le_of_ble_eq_true rfl) d_Mo_init_17 (fun q17 cA H hK9 hP hD hS => ?_)
  obtain rfl := ka_caI hK9
  have hP : va_P D vwCl [(h0, .inr (5, [.ref q8, .null, .int 0])), (q8, .inl (A 900, 1552, .inl (fun _ => 0))), (q17, .inl (A 900, 1552, .inl (fun _ => 0)))] H := hP
  have hD : va_D A9 [(h0, .inr (5, [.ref q8, .null, .int 0])), (q8, .inl (A 900, 1552, .inl (fun _ => 0))), (q17, .inl (A 900, 1552, .inl (fun _ => 0)))] := hD
  refine va_putF (D := D) (ci := 5) (v := .ref q17) (ty := .array .int) (C := R_Mo) (T := T_Mo) (N := 3) hx hb hts wu_Mo ft_Mo fk_Mo nm_Mo hown hK hP hD hS 0 rfl rfl 1 (by decide) (hts _ wf_Mo_13) (fun _ h9 => h9) rfl hin rfl (by decide +kernel) rfl rfl (Nat.le_of_ble_eq_true rfl) d_Mo_init_19 (fun H locs hP hD hS => ?_)
  have hP : va_P D vwCl [(h0, .inr (5, [.ref q8, .ref q17, .int 0])), (q8, .inl (A 900, 1552, .inl (fun _ => 0))), (q17, .inl (A 900, 1552, .inl (fun _ => 0)))] H := hP
  have hD : va_D A9 [(h0, .inr (5, [.ref q8, .ref q17, .int 0])), (q8, .inl (A 900, 1552, .inl (fun _ => 0))), (q17, .inl (A 900, 1552, .inl (fun _ => 0)))] := hD
  unfold f_Mo_init at h
  obtain ⟨B, hB⟩ : ∃ B : Nat → Nat, B = (fun n => if n = 60 then h0 else if n = 61 then q8 else if n = 62 then q17 else A n) := ⟨_, rfl⟩
  have X9 : ka_X D B A9 s := by rw [hB]; exact X9
  have hK := X9.2.1
  have hP : va_P D vwCl (MW B r0 []) H := by rw [hB]; exact hP
  have hD : va_D A9 (MW B r0 []) := by rw [hB]; exact hD
  have hl : lv_has ls 2 [(0, .ref (B 60))] := by rw [hB]; exact hl
  have e4 : h0 = B 60 := by rw [hB]; rfl
  have e5 : ∀ n, 63 ≤ n → B n = A n := by
    intro n hn
    rw [hB]
    show (if n = 60 then h0 else if n = 61 then q8 else if n = 62 then q17 else A n) = A n
    rw [if_neg (by omega), if_neg (by omega), if_neg (by omega)]
  have L136 : ∀ (n : Nat) (u : RS) (y1 : Int32) (H : Heap) (locs : List Loc) (ls : Array Slot), f_Mo_init_L136 n u y1 = some z → va_P D vwCl (MW B u []) H → va_D A9 (MW B u []) → va_S A9 s.heap H locs → lv_has ls 2 [(0, .ref (B 60)), (1, .int y1)] → W p l e ({ frames := 1, cells := 2, slots := 3104, locals := 12 } : Room) s m [.ref h0].toArray below meth c H locs 2 3104 (MQ below (kb_Mo D A h0 z A9) [.ref h0].toArray s 2 3104 A9) (F0 m 136 ls []) := by
    intro n
    induction n with
    | zero => intro u y1 H locs ls h; cases h
    | succ n ih136 =>
      intro u y1 H locs ls h hP hD hS hl
      rw [f_Mo_init_L136] at h
      refine lv_iload_n hx hb d_Mo_init_136 rfl (lv_at hl 1 rfl) ?_
      refine lv_sipush (v := 1552) hx hb d_Mo_init_137 (by decide) ?_
      refine lv_icmp_ge (tgt := 161) hx hb d_Mo_init_140 (by decide) (fun c11 => ?_) (fun c11 => ?_)
      · replace h := zo_t c11 h
        cases h
        exact W.vret hx hb hr (fun t ht hW => ⟨⟨B, rfl, ⟨e4.symm, e5⟩, ka_at ht hP, hD⟩, hS.F ht⟩) hS.2.2 d_Mo_init_161 hlk
      replace h := zo_f c11 h
      refine lv_aload_n hx hb d_Mo_init_143 rfl (lv_at hl 0 rfl) ?_
      refine va_get (D := D) (ci := 5) (v := .ref (B 62)) (C := R_Mo) (T := T_Mo) (N := 3) hx hb hts wu_Mo hown hK hP 0 rfl rfl 1 (by decide) (hts _ wf_Mo_13) (fun _ h9 => h9) rfl d_Mo_init_144 ?_
      refine lv_iload_n hx hb d_Mo_init_147 rfl (lv_at hl 1 rfl) ?_
      refine lv_aload_n hx hb d_Mo_init_148 rfl (lv_at hl 0 rfl) ?_
      refine va_get (D := D) (ci := 5) (v := .ref (B 61)) (C := R_Mo) (T := T_Mo) (N := 3) hx hb hts wu_Mo hown hK hP 0 rfl rfl 0 (by decide) (hts _ wf_Mo_7) (fun _ h9 => h9) rfl d_Mo_init_149 ?_
      refine lv_iload_n hx hb d_Mo_init_152 rfl (lv_at hl 1 rfl) ?_
      obtain ⟨i9, h⟩ := zo_i h
      refine va_iald hx hb hK hP 1 0 rfl rfl i9 d_Mo_init_153 ?_
      obtain ⟨i9, h⟩ := zo_i h
      obtain ⟨u12, hu9, h⟩ := zo_l h
      refine va_iast hx hb hK hP hD hS 2 0 rfl rfl i9 d_Mo_init_154 (fun H locs hP hD hS => ?_)
      replace hP : va_P D vwCl (MW B u12 []) H := by rw [hu9]; exact hP
      replace hD : va_D A9 (MW B u12 []) := by rw [hu9]; exact hD
      refine lv_iinc (v := y1 + 1) (lv' := [(1, .int (y1 + 1)), (0, .ref (B 60))]) hx hb d_Mo_init_155 hl (k := 1) rfl rfl (by decide) rfl (fun ls hl => ?_)
      refine lv_goto (tgt := 136) hx hb d_Mo_init_158 (by decide) ?_
      exact ih136 u12 (y1 + 1) _ _ _ h hP hD hS (lv_sub hl [1, 0] rfl)
  have L24 : ∀ (n : Nat) (u : RS) (y1 : Int32) (H : Heap) (locs : List Loc) (ls : Array Slot), f_Mo_init_L24 n u y1 = some z → va_P D vwCl (MW B u []) H → va_D A9 (MW B u []) → va_S A9 s.heap H locs → lv_has ls 2 [(0, .ref (B 60)), (1, .int y1)] → W p l e ({ frames := 1, cells := 2, slots := 3104, locals := 12 } : Room) s m [.ref h0].toArray below meth c H locs 2 3104 (MQ below (kb_Mo D A h0 z A9) [.ref h0].toArray s 2 3104 A9) (F0 m 24 ls []) := by
    intro n
    induction n with
    | zero => intro u y1 H locs ls h; cases h
    | succ n ih24 =>
      intro u y1 H locs ls h hP hD hS hl
      rw [f_Mo_init_L24] at h
      refine lv_iload_n hx hb d_Mo_init_24 rfl (lv_at hl 1 rfl) ?_
      refine lv_bipush (v := 8) hx hb d_Mo_init_25 (by decide) ?_
      refine lv_icmp_ge (tgt := 58) hx hb d_Mo_init_27 (by decide) (fun c1 => ?_) (fun c1 => ?_)
      · replace h := zo_t c1 h
        refine lv_aload_n hx hb d_Mo_init_58 rfl (lv_at hl 0 rfl) ?_
        refine va_get (D := D) (ci := 5) (v := .ref (B 61)) (C := R_Mo) (T := T_Mo) (N := 3) hx hb hts wu_Mo hown hK hP 0 rfl rfl 0 (by decide) (hts _ wf_Mo_7) (fun _ h9 => h9) rfl d_Mo_init_59 ?_
        refine lv_sipush (v := 1550) hx hb d_Mo_init_62 (by decide) ?_
        refine lv_iconst (v := 2) hx hb d_Mo_init_65 (by decide) ?_
        obtain ⟨i9, h⟩ := zo_i h
        obtain ⟨u2, hu9, h⟩ := zo_l h
        refine va_iast hx hb hK hP hD hS 1 0 rfl rfl i9 d_Mo_init_66 (fun H locs hP hD hS => ?_)
        replace hP : va_P D vwCl (MW B u2 []) H := by rw [hu9]; exact hP
        replace hD : va_D A9 (MW B u2 []) := by rw [hu9]; exact hD
        refine lv_aload_n hx hb d_Mo_init_67 rfl (lv_at hl 0 rfl) ?_
        refine va_get (D := D) (ci := 5) (v := .ref (B 61)) (C := R_Mo) (T := T_Mo) (N := 3) hx hb hts wu_Mo hown hK hP 0 rfl rfl 0 (by decide) (hts _ wf_Mo_7) (fun _ h9 => h9) rfl d_Mo_init_68 ?_
        refine lv_sipush (v := 1549) hx hb d_Mo_init_71 (by decide) ?_
        refine lv_iconst (v := 2) hx hb d_Mo_init_74 (by decide) ?_
        obtain ⟨i9, h⟩ := zo_i h
        obtain ⟨u3, hu9, h⟩ := zo_l h
        refine va_iast hx hb hK hP hD hS 1 0 rfl rfl i9 d_Mo_init_75 (fun H locs hP hD hS => ?_)
        replace hP : va_P D vwCl (MW B u3 []) H := by rw [hu9]; exact hP
        replace hD : va_D A9 (MW B u3 []) := by rw [hu9]; exact hD
        refine lv_aload_n hx hb d_Mo_init_76 rfl (lv_at hl 0 rfl) ?_
        refine va_get (D := D) (ci := 5) (v := .ref (B 61)) (C := R_Mo) (T := T_Mo) (N := 3) hx hb hts wu_Mo hown hK hP 0 rfl rfl 0 (by decide) (hts _ wf_Mo_7) (fun _ h9 => h9) rfl d_Mo_init_77 ?_
        refine lv_bipush (v := 17) hx hb d_Mo_init_80 (by decide) ?_
        refine lv_iconst (v := 1) hx hb d_Mo_init_82 (by decide) ?_
        obtain ⟨i9, h⟩ := zo_i h
        obtain ⟨u4, hu9, h⟩ := zo_l h
        refine va_iast hx hb hK hP hD hS 1 0 rfl rfl i9 d_Mo_init_83 (fun H locs hP hD hS => ?_)
        replace hP : va_P D vwCl (MW B u4 []) H := by rw [hu9]; exact hP
        replace hD : va_D A9 (MW B u4 []) := by rw [hu9]; exact hD
        refine lv_aload_n hx hb d_Mo_init_84 rfl (lv_at hl 0 rfl) ?_
        refine va_get (D := D) (ci := 5) (v := .ref (B 61)) (C := R_Mo) (T := T_Mo) (N := 3) hx hb hts wu_Mo hown hK hP 0 rfl rfl 0 (by decide) (hts _ wf_Mo_7) (fun _ h9 => h9) rfl d_Mo_init_85 ?_
        refine lv_bipush (v := 20) hx hb d_Mo_init_88 (by decide) ?_
        refine lv_sipush (v := 200) hx hb d_Mo_init_90 (by decide) ?_
        obtain ⟨i9, h⟩ := zo_i h
        obtain ⟨u5, hu9, h⟩ := zo_l h
        refine va_iast hx hb hK hP hD hS 1 0 rfl rfl i9 d_Mo_init_93 (fun H locs hP hD hS => ?_)
        replace hP : va_P D vwCl (MW B u5 []) H := by rw [hu9]; exact hP
        replace hD : va_D A9 (MW B u5 []) := by rw [hu9]; exact hD
        refine lv_aload_n hx hb d_Mo_init_94 rfl (lv_at hl 0 rfl) ?_
        refine va_get (D := D) (ci := 5) (v := .ref (B 61)) (C := R_Mo) (T := T_Mo) (N := 3) hx hb hts wu_Mo hown hK hP 0 rfl rfl 0 (by decide) (hts _ wf_Mo_7) (fun _ h9 => h9) rfl d_Mo_init_95 ?_
        refine lv_bipush (v := 34) hx hb d_Mo_init_98 (by decide) ?_
        refine lv_iconst (v := 1) hx hb d_Mo_init_100 (by decide) ?_
        obtain ⟨i9, h⟩ := zo_i h
        obtain ⟨u6, hu9, h⟩ := zo_l h
        refine va_iast hx hb hK hP hD hS 1 0 rfl rfl i9 d_Mo_init_101 (fun H locs hP hD hS => ?_)
        replace hP : va_P D vwCl (MW B u6 []) H := by rw [hu9]; exact hP
        replace hD : va_D A9 (MW B u6 []) := by rw [hu9]; exact hD
        refine lv_aload_n hx hb d_Mo_init_102 rfl (lv_at hl 0 rfl) ?_
        refine va_get (D := D) (ci := 5) (v := .ref (B 61)) (C := R_Mo) (T := T_Mo) (N := 3) hx hb hts wu_Mo hown hK hP 0 rfl rfl 0 (by decide) (hts _ wf_Mo_7) (fun _ h9 => h9) rfl d_Mo_init_103 ?_
        refine lv_bipush (v := 35) hx hb d_Mo_init_106 (by decide) ?_
        refine lv_iconst (v := 3) hx hb d_Mo_init_108 (by decide) ?_
        obtain ⟨i9, h⟩ := zo_i h
        obtain ⟨u7, hu9, h⟩ := zo_l h
        refine va_iast hx hb hK hP hD hS 1 0 rfl rfl i9 d_Mo_init_109 (fun H locs hP hD hS => ?_)
        replace hP : va_P D vwCl (MW B u7 []) H := by rw [hu9]; exact hP
        replace hD : va_D A9 (MW B u7 []) := by rw [hu9]; exact hD
        refine lv_aload_n hx hb d_Mo_init_110 rfl (lv_at hl 0 rfl) ?_
        refine va_get (D := D) (ci := 5) (v := .ref (B 61)) (C := R_Mo) (T := T_Mo) (N := 3) hx hb hts wu_Mo hown hK hP 0 rfl rfl 0 (by decide) (hts _ wf_Mo_7) (fun _ h9 => h9) rfl d_Mo_init_111 ?_
        refine lv_bipush (v := 37) hx hb d_Mo_init_114 (by decide) ?_
        refine lv_iconst (v := 2) hx hb d_Mo_init_116 (by decide) ?_
        obtain ⟨i9, h⟩ := zo_i h
        obtain ⟨u8, hu9, h⟩ := zo_l h
        refine va_iast hx hb hK hP hD hS 1 0 rfl rfl i9 d_Mo_init_117 (fun H locs hP hD hS => ?_)
        replace hP : va_P D vwCl (MW B u8 []) H := by rw [hu9]; exact hP
        replace hD : va_D A9 (MW B u8 []) := by rw [hu9]; exact hD
        refine lv_aload_n hx hb d_Mo_init_118 rfl (lv_at hl 0 rfl) ?_
        refine va_get (D := D) (ci := 5) (v := .ref (B 61)) (C := R_Mo) (T := T_Mo) (N := 3) hx hb hts wu_Mo hown hK hP 0 rfl rfl 0 (by decide) (hts _ wf_Mo_7) (fun _ h9 => h9) rfl d_Mo_init_119 ?_
        refine lv_bipush (v := 38) hx hb d_Mo_init_122 (by decide) ?_
        refine lv_iconst (v := 1) hx hb d_Mo_init_124 (by decide) ?_
        obtain ⟨i9, h⟩ := zo_i h
        obtain ⟨u9, hu9, h⟩ := zo_l h
        refine va_iast hx hb hK hP hD hS 1 0 rfl rfl i9 d_Mo_init_125 (fun H locs hP hD hS => ?_)
        replace hP : va_P D vwCl (MW B u9 []) H := by rw [hu9]; exact hP
        replace hD : va_D A9 (MW B u9 []) := by rw [hu9]; exact hD
        refine lv_aload_n hx hb d_Mo_init_126 rfl (lv_at hl 0 rfl) ?_
        refine va_get (D := D) (ci := 5) (v := .ref (B 61)) (C := R_Mo) (T := T_Mo) (N := 3) hx hb hts wu_Mo hown hK hP 0 rfl rfl 0 (by decide) (hts _ wf_Mo_7) (fun _ h9 => h9) rfl d_Mo_init_127 ?_
        refine lv_bipush (v := 40) hx hb d_Mo_init_130 (by decide) ?_
        refine lv_iconst (v := 1) hx hb d_Mo_init_132 (by decide) ?_
        obtain ⟨i9, h⟩ := zo_i h
        obtain ⟨u10, hu9, h⟩ := zo_l h
        refine va_iast hx hb hK hP hD hS 1 0 rfl rfl i9 d_Mo_init_133 (fun H locs hP hD hS => ?_)
        replace hP : va_P D vwCl (MW B u10 []) H := by rw [hu9]; exact hP
        replace hD : va_D A9 (MW B u10 []) := by rw [hu9]; exact hD
        refine lv_iconst (v := 0) hx hb d_Mo_init_134 (by decide) ?_
        refine lv_istore_n (lv' := [(1, .int 0), (0, .ref (B 60))]) hx hb d_Mo_init_135 rfl hl (by decide) rfl (fun ls hl => ?_)
        exact L136 2000 u10 0 _ _ _ h hP hD hS (lv_sub hl [1, 0] rfl)
      replace h := zo_f c1 h
      refine lv_aload_n hx hb d_Mo_init_30 rfl (lv_at hl 0 rfl) ?_
      refine va_get (D := D) (ci := 5) (v := .ref (B 61)) (C := R_Mo) (T := T_Mo) (N := 3) hx hb hts wu_Mo hown hK hP 0 rfl rfl 0 (by decide) (hts _ wf_Mo_7) (fun _ h9 => h9) rfl d_Mo_init_31 ?_
      refine lv_sipush (v := 1037) hx hb d_Mo_init_34 (by decide) ?_
      refine lv_iload_n hx hb d_Mo_init_37 rfl (lv_at hl 1 rfl) ?_
      refine lv_iadd hx hb d_Mo_init_38 ?_
      refine lv_iconst (v := 1) hx hb d_Mo_init_39 (by decide) ?_
      obtain ⟨i9, h⟩ := zo_i h
      obtain ⟨u13, hu9, h⟩ := zo_l h
      refine va_iast hx hb hK hP hD hS 1 0 rfl rfl i9 d_Mo_init_40 (fun H locs hP hD hS => ?_)
      replace hP : va_P D vwCl (MW B u13 []) H := by rw [hu9]; exact hP
      replace hD : va_D A9 (MW B u13 []) := by rw [hu9]; exact hD
      refine lv_aload_n hx hb d_Mo_init_41 rfl (lv_at hl 0 rfl) ?_
      refine va_get (D := D) (ci := 5) (v := .ref (B 61)) (C := R_Mo) (T := T_Mo) (N := 3) hx hb hts wu_Mo hown hK hP 0 rfl rfl 0 (by decide) (hts _ wf_Mo_7) (fun _ h9 => h9) rfl d_Mo_init_42 ?_
      refine lv_sipush (v := 1045) hx hb d_Mo_init_45 (by decide) ?_
      refine lv_iload_n hx hb d_Mo_init_48 rfl (lv_at hl 1 rfl) ?_
      refine lv_iadd hx hb d_Mo_init_49 ?_
      refine lv_iconst (v := 2) hx hb d_Mo_init_50 (by decide) ?_
      obtain ⟨i9, h⟩ := zo_i h
      obtain ⟨u14, hu9, h⟩ := zo_l h
      refine va_iast hx hb hK hP hD hS 1 0 rfl rfl i9 d_Mo_init_51 (fun H locs hP hD hS => ?_)
      replace hP : va_P D vwCl (MW B u14 []) H := by rw [hu9]; exact hP
      replace hD : va_D A9 (MW B u14 []) := by rw [hu9]; exact hD
      refine lv_iinc (v := y1 + 1) (lv' := [(1, .int (y1 + 1)), (0, .ref (B 60))]) hx hb d_Mo_init_52 hl (k := 1) rfl rfl (by decide) rfl (fun ls hl => ?_)
      refine lv_goto (tgt := 24) hx hb d_Mo_init_55 (by decide) ?_
      exact ih24 u14 (y1 + 1) _ _ _ h hP hD hS (lv_sub hl [1, 0] rfl)
  refine lv_iconst (v := 0) hx hb d_Mo_init_22 (by decide) ?_
  refine lv_istore_n (lv' := [(1, .int 0), (0, .ref (B 60))]) hx hb d_Mo_init_23 rfl hl (by decide) rfl (fun ls hl => ?_)
  exact L24 2000 r0 0 _ _ _ h hP hD hS (lv_sub hl [1, 0] rfl)
