def f_Mo_make_L231 : Nat → RS → Int32 → Int32 → Int32 → Int32 → Int32 → Int32 → Int32 → Int32 → Int32 → Option (Int32 × RS)
  | 0, _, _, _, _, _, _, _, _, _, _ => none
  | n + 1, u, y1, y2, y3, y4, y5, y6, y7, y8, y9 => if 17 ≤ y9 then (if ((17 * y8) + 0) < 0 ∨ 1552 ≤ ((17 * y8) + 0).toNatClampNeg then none else zl (sM_row u (upd (gM_row u) ((17 * y8) + 0).toNatClampNeg 1)) fun u44 => if ((17 * y8) + 1) < 0 ∨ 1552 ≤ ((17 * y8) + 1).toNatClampNeg then none else zl (sM_row u44 (upd (gM_row u44) ((17 * y8) + 1).toNatClampNeg y5)) fun u45 => if ((17 * y8) + 2) < 0 ∨ 1552 ≤ ((17 * y8) + 2).toNatClampNeg then none else zl (sM_row u45 (upd (gM_row u45) ((17 * y8) + 2).toNatClampNeg y3)) fun u46 => if ((17 * y8) + 3) < 0 ∨ 1552 ≤ ((17 * y8) + 3).toNatClampNeg then none else zl (sM_row u46 (upd (gM_row u46) ((17 * y8) + 3).toNatClampNeg y4)) fun u47 => if ((17 * y8) + 4) < 0 ∨ 1552 ≤ ((17 * y8) + 4).toNatClampNeg then none else zl (sM_row u47 (upd (gM_row u47) ((17 * y8) + 4).toNatClampNeg y2)) fun u48 => if y5 = 3 then (if ((17 * y8) + 6) < 0 ∨ 1552 ≤ ((17 * y8) + 6).toNatClampNeg then none else zl (sM_row u48 (upd (gM_row u48) ((17 * y8) + 6).toNatClampNeg y6)) fun u54 => some (y8, u54)) else (if y5 = 2 then ((f_Mo_at u48 y1 6).bind fun v52 => if ((17 * y8) + 6) < 0 ∨ 1552 ≤ ((17 * y8) + 6).toNatClampNeg then none else zl (sM_row u48 (upd (gM_row u48) ((17 * y8) + 6).toNatClampNeg v52)) fun u53 => some (y8, u53)) else (if ((17 * y8) + 6) < 0 ∨ 1552 ≤ ((17 * y8) + 6).toNatClampNeg then none else zl (sM_row u48 (upd (gM_row u48) ((17 * y8) + 6).toNatClampNeg 0)) fun u51 => some (y8, u51)))) else (if ((17 * y8) + y9) < 0 ∨ 1552 ≤ ((17 * y8) + y9).toNatClampNeg then none else zl (sM_row u (upd (gM_row u) ((17 * y8) + y9).toNatClampNeg 0)) fun u55 => f_Mo_make_L231 n u55 y1 y2 y3 y4 y5 y6 y7 y8 (y9 + 1))
def f_Mo_make (σ : RS) (x1 x2 x3 x4 x5 x6 : Int32) : Option (Int32 × RS) := (f_Mo_there σ x1).bind fun v1 => if v1 = 0 then ((f_Mo_fail σ 2).bind fun v3 => some (v3.1, v3.2)) else ((f_Mo_there σ x2).bind fun v4 => if v4 = 0 then ((f_Mo_fail σ 2).bind fun v75 => some (v75.1, v75.2)) else ((f_Mo_at σ x1 1).bind fun v6 => if v6 = 3 then ((f_Mo_at σ x2 1).bind fun v9 => if v9 = 0 then ((f_Mo_changes σ x1 x2).bind fun v11 => if v11 = 0 then (if x5 = 3 then ((f_Mo_fail σ 3).bind fun v15 => some (v15.1, v15.2)) else ((f_Mo_fail σ 3).bind fun v14 => some (v14.1, v14.2))) else ((f_Mo_at σ x1 2).bind fun v16 => (f_Mo_under σ v16 x3 0).bind fun v17 => if v17 = 0 then (if x5 = 3 then ((f_Mo_fail σ 3).bind fun v21 => some (v21.1, v21.2)) else ((f_Mo_fail σ 3).bind fun v20 => some (v20.1, v20.2))) else ((f_Mo_at σ x1 6).bind fun v22 => (f_Mo_under σ x3 v22 0).bind fun v23 => if v23 = 0 then (if x5 = 3 then ((f_Mo_fail σ 3).bind fun v27 => some (v27.1, v27.2)) else ((f_Mo_fail σ 3).bind fun v26 => some (v26.1, v26.2))) else ((f_Mo_starsOf σ x3 x1).bind fun v28 => if v28 = 0 then (if x5 = 3 then ((f_Mo_fail σ 3).bind fun v32 => some (v32.1, v32.2)) else ((f_Mo_fail σ 3).bind fun v31 => some (v31.1, v31.2))) else (if x5 = 3 then ((f_Mo_at σ x1 6).bind fun v57 => (f_Mo_under σ x6 v57 0).bind fun v58 => if v58 = 0 then ((f_Mo_fail σ 3).bind fun v60 => some (v60.1, v60.2)) else ((f_Mo_under σ x3 x6 0).bind fun v61 => if v61 = 0 then ((f_Mo_fail σ 3).bind fun v63 => some (v63.1, v63.2)) else ((f_Mo_at σ x2 3).bind fun v64 => (f_Mo_use σ x2).bind fun v65 => if v64 < (v65 + x4) then ((f_Mo_fail σ 4).bind fun v67 => some (v67.1, v67.2)) else (if (1549 : Int32) < 0 ∨ 1552 ≤ (1549 : Int32).toNatClampNeg then none else if (gM_row σ (1549 : Int32).toNatClampNeg) = 60 then ((f_Mo_fail σ 4).bind fun v69 => some (v69.1, v69.2)) else ((f_Mo_deep σ x2).bind fun v70 => if v70 < 12 then (if (1549 : Int32) < 0 ∨ 1552 ≤ (1549 : Int32).toNatClampNeg then none else if (1549 : Int32) < 0 ∨ 1552 ≤ (1549 : Int32).toNatClampNeg then none else zl (sM_row σ (upd (gM_row σ) (1549 : Int32).toNatClampNeg ((gM_row σ (1549 : Int32).toNatClampNeg) + 1))) fun u72 => if (1549 : Int32) < 0 ∨ 1552 ≤ (1549 : Int32).toNatClampNeg then none else f_Mo_make_L231 100 u72 x1 x2 x3 x4 x5 x6 1 (gM_row u72 (1549 : Int32).toNatClampNeg) 0) else ((f_Mo_fail σ 4).bind fun v73 => some (v73.1, v73.2))))))) else ((f_Mo_at σ x2 3).bind fun v34 => (f_Mo_use σ x2).bind fun v35 => if v34 < (v35 + x4) then ((f_Mo_fail σ 4).bind fun v37 => some (v37.1, v37.2)) else (if (1549 : Int32) < 0 ∨ 1552 ≤ (1549 : Int32).toNatClampNeg then none else if (gM_row σ (1549 : Int32).toNatClampNeg) = 60 then ((f_Mo_fail σ 4).bind fun v39 => some (v39.1, v39.2)) else ((f_Mo_deep σ x2).bind fun v40 => if v40 < 12 then (if (1549 : Int32) < 0 ∨ 1552 ≤ (1549 : Int32).toNatClampNeg then none else if (1549 : Int32) < 0 ∨ 1552 ≤ (1549 : Int32).toNatClampNeg then none else zl (sM_row σ (upd (gM_row σ) (1549 : Int32).toNatClampNeg ((gM_row σ (1549 : Int32).toNatClampNeg) + 1))) fun u42 => if (1549 : Int32) < 0 ∨ 1552 ≤ (1549 : Int32).toNatClampNeg then none else f_Mo_make_L231 100 u42 x1 x2 x3 x4 x5 x6 1 (gM_row u42 (1549 : Int32).toNatClampNeg) 0) else ((f_Mo_fail σ 4).bind fun v56 => some (v56.1, v56.2)))))))))) else ((f_Mo_fail σ 1).bind fun v74 => some (v74.1, v74.2))) else ((f_Mo_fail σ 1).bind fun v8 => some (v8.1, v8.2))))
set_option maxRecDepth 100000 in
set_option maxHeartbeats 4000000 in
theorem c_Mo_make (l : Launch) (hl9 : l.stackTraces = false) (D : va_G) (A : Nat → Nat) (r : va_W) (sz : Nat) (σ : RS) (x1 x2 x3 x4 x5 x6 : Int32) (z : Int32 × RS) (h : f_Mo_make σ x1 x2 x3 x4 x5 x6 = some z) : Met l y_Mo_make (Cond.code y_Mo_make b_Mo_make 10 (some .int) :: T0) ({ frames := 4, cells := 0, slots := 0, locals := 91 } : Room) (va_Pc [.ref (A 60), .int x1, .int x2, .int x3, .int x4, .int x5, .int x6] (ka_Wd D A (MW A σ r) sz)) (ka_Ri D z.1 (MW A z.2 r) (va_A (MW A σ r) sz)) 0 0 (va_A (MW A σ r) sz) := by
  unfold f_Mo_make at h
  refine ka_of (own := R_Mo) (fun A9 => ka_Ri D z.1 (MW A z.2 r) A9) (by decide) rfl (Nat.le_of_ble_eq_true rfl) ?_
  intro p e s m below meth c A9 ls S9 hr hlk hex X9 hP hD hl
  obtain ⟨hx, hb, hml, hown, hts⟩ := id S9
  have hK := X9.2.1
  have hS : va_S A9 s.heap s.heap [] := va_S.rf
  replace hl : lv_has ls 10 [(0, .ref (A 60)), (1, .int x1), (2, .int x2), (3, .int x3), (4, .int x4), (5, .int x5), (6, .int x6)] := hl
  have L231 : ∀ (n : Nat) (u : RS) (y1 y2 y3 y4 y5 y6 y7 y8 y9 : Int32) (H : Heap) (locs : List Loc) (ls : Array Slot), f_Mo_make_L231 n u y1 y2 y3 y4 y5 y6 y7 y8 y9 = some z → va_P D vwCl (MW A u r) H → va_D A9 (MW A u r) → va_S A9 s.heap H locs → lv_has ls 10 [(0, .ref (A 60)), (1, .int y1), (2, .int y2), (3, .int y3), (4, .int y4), (5, .int y5), (6, .int y6), (7, .int y7), (8, .int y8), (9, .int y9)] → W p l e ({ frames := 4, cells := 0, slots := 0, locals := 91 } : Room) s m [.ref (A 60), .int x1, .int x2, .int x3, .int x4, .int x5, .int x6].toArray below meth c H locs 0 0 (MQ below (ka_Ri D z.1 (MW A z.2 r) A9) [.ref (A 60), .int x1, .int x2, .int x3, .int x4, .int x5, .int x6].toArray s 0 0 A9) (F0 m 231 ls []) := by
    intro n
    induction n with
    | zero => intro u y1 y2 y3 y4 y5 y6 y7 y8 y9 H locs ls h; cases h
    | succ n ih231 =>
      intro u y1 y2 y3 y4 y5 y6 y7 y8 y9 H locs ls h hP hD hS hl
      rw [f_Mo_make_L231] at h
      refine lv_iload hx hb d_Mo_make_231 (lv_at hl 9 rfl) ?_
      refine lv_bipush (v := 17) hx hb d_Mo_make_233 (by decide) ?_
      refine lv_icmp_ge (tgt := 258) hx hb d_Mo_make_235 (by decide) (fun c43 => ?_) (fun c43 => ?_)
      · replace h := zo_t c43 h
        refine lv_aload_n hx hb d_Mo_make_258 rfl (lv_at hl 0 rfl) ?_
        refine va_get (D := D) (ci := 5) (v := .ref (A 61)) (C := R_Mo) (T := T_Mo) (N := 3) hx hb hts wu_Mo hown hK hP 0 rfl rfl 0 (by decide) (hts _ wf_Mo_7) (fun _ h9 => h9) rfl d_Mo_make_259 ?_
        refine lv_bipush (v := 17) hx hb d_Mo_make_262 (by decide) ?_
        refine lv_iload hx hb d_Mo_make_264 (lv_at hl 8 rfl) ?_
        refine lv_imul hx hb d_Mo_make_266 ?_
        refine lv_iconst (v := 0) hx hb d_Mo_make_267 (by decide) ?_
        refine lv_iadd hx hb d_Mo_make_268 ?_
        refine lv_iconst (v := 1) hx hb d_Mo_make_269 (by decide) ?_
        obtain ⟨i9, h⟩ := zo_i h
        obtain ⟨u44, hu9, h⟩ := zo_l h
        refine va_iast hx hb hK hP hD hS 1 0 rfl rfl i9 d_Mo_make_270 (fun H locs hP hD hS => ?_)
        replace hP : va_P D vwCl (MW A u44 r) H := by rw [hu9]; exact hP
        replace hD : va_D A9 (MW A u44 r) := by rw [hu9]; exact hD
        refine lv_aload_n hx hb d_Mo_make_271 rfl (lv_at hl 0 rfl) ?_
        refine va_get (D := D) (ci := 5) (v := .ref (A 61)) (C := R_Mo) (T := T_Mo) (N := 3) hx hb hts wu_Mo hown hK hP 0 rfl rfl 0 (by decide) (hts _ wf_Mo_7) (fun _ h9 => h9) rfl d_Mo_make_272 ?_
        refine lv_bipush (v := 17) hx hb d_Mo_make_275 (by decide) ?_
        refine lv_iload hx hb d_Mo_make_277 (lv_at hl 8 rfl) ?_
        refine lv_imul hx hb d_Mo_make_279 ?_
        refine lv_iconst (v := 1) hx hb d_Mo_make_280 (by decide) ?_
        refine lv_iadd hx hb d_Mo_make_281 ?_
        refine lv_iload hx hb d_Mo_make_282 (lv_at hl 5 rfl) ?_
        obtain ⟨i9, h⟩ := zo_i h
        obtain ⟨u45, hu9, h⟩ := zo_l h
        refine va_iast hx hb hK hP hD hS 1 0 rfl rfl i9 d_Mo_make_284 (fun H locs hP hD hS => ?_)
        replace hP : va_P D vwCl (MW A u45 r) H := by rw [hu9]; exact hP
        replace hD : va_D A9 (MW A u45 r) := by rw [hu9]; exact hD
        refine lv_aload_n hx hb d_Mo_make_285 rfl (lv_at hl 0 rfl) ?_
        refine va_get (D := D) (ci := 5) (v := .ref (A 61)) (C := R_Mo) (T := T_Mo) (N := 3) hx hb hts wu_Mo hown hK hP 0 rfl rfl 0 (by decide) (hts _ wf_Mo_7) (fun _ h9 => h9) rfl d_Mo_make_286 ?_
        refine lv_bipush (v := 17) hx hb d_Mo_make_289 (by decide) ?_
        refine lv_iload hx hb d_Mo_make_291 (lv_at hl 8 rfl) ?_
        refine lv_imul hx hb d_Mo_make_293 ?_
        refine lv_iconst (v := 2) hx hb d_Mo_make_294 (by decide) ?_
        refine lv_iadd hx hb d_Mo_make_295 ?_
        refine lv_iload_n hx hb d_Mo_make_296 rfl (lv_at hl 3 rfl) ?_
        obtain ⟨i9, h⟩ := zo_i h
        obtain ⟨u46, hu9, h⟩ := zo_l h
        refine va_iast hx hb hK hP hD hS 1 0 rfl rfl i9 d_Mo_make_297 (fun H locs hP hD hS => ?_)
        replace hP : va_P D vwCl (MW A u46 r) H := by rw [hu9]; exact hP
        replace hD : va_D A9 (MW A u46 r) := by rw [hu9]; exact hD
        refine lv_aload_n hx hb d_Mo_make_298 rfl (lv_at hl 0 rfl) ?_
        refine va_get (D := D) (ci := 5) (v := .ref (A 61)) (C := R_Mo) (T := T_Mo) (N := 3) hx hb hts wu_Mo hown hK hP 0 rfl rfl 0 (by decide) (hts _ wf_Mo_7) (fun _ h9 => h9) rfl d_Mo_make_299 ?_
        refine lv_bipush (v := 17) hx hb d_Mo_make_302 (by decide) ?_
        refine lv_iload hx hb d_Mo_make_304 (lv_at hl 8 rfl) ?_
        refine lv_imul hx hb d_Mo_make_306 ?_
        refine lv_iconst (v := 3) hx hb d_Mo_make_307 (by decide) ?_
        refine lv_iadd hx hb d_Mo_make_308 ?_
        refine lv_iload hx hb d_Mo_make_309 (lv_at hl 4 rfl) ?_
        obtain ⟨i9, h⟩ := zo_i h
        obtain ⟨u47, hu9, h⟩ := zo_l h
        refine va_iast hx hb hK hP hD hS 1 0 rfl rfl i9 d_Mo_make_311 (fun H locs hP hD hS => ?_)
        replace hP : va_P D vwCl (MW A u47 r) H := by rw [hu9]; exact hP
        replace hD : va_D A9 (MW A u47 r) := by rw [hu9]; exact hD
        refine lv_aload_n hx hb d_Mo_make_312 rfl (lv_at hl 0 rfl) ?_
        refine va_get (D := D) (ci := 5) (v := .ref (A 61)) (C := R_Mo) (T := T_Mo) (N := 3) hx hb hts wu_Mo hown hK hP 0 rfl rfl 0 (by decide) (hts _ wf_Mo_7) (fun _ h9 => h9) rfl d_Mo_make_313 ?_
        refine lv_bipush (v := 17) hx hb d_Mo_make_316 (by decide) ?_
        refine lv_iload hx hb d_Mo_make_318 (lv_at hl 8 rfl) ?_
        refine lv_imul hx hb d_Mo_make_320 ?_
        refine lv_iconst (v := 4) hx hb d_Mo_make_321 (by decide) ?_
        refine lv_iadd hx hb d_Mo_make_322 ?_
        refine lv_iload_n hx hb d_Mo_make_323 rfl (lv_at hl 2 rfl) ?_
        obtain ⟨i9, h⟩ := zo_i h
        obtain ⟨u48, hu9, h⟩ := zo_l h
        refine va_iast hx hb hK hP hD hS 1 0 rfl rfl i9 d_Mo_make_324 (fun H locs hP hD hS => ?_)
        replace hP : va_P D vwCl (MW A u48 r) H := by rw [hu9]; exact hP
        replace hD : va_D A9 (MW A u48 r) := by rw [hu9]; exact hD
        refine lv_aload_n hx hb d_Mo_make_325 rfl (lv_at hl 0 rfl) ?_
        refine va_get (D := D) (ci := 5) (v := .ref (A 61)) (C := R_Mo) (T := T_Mo) (N := 3) hx hb hts wu_Mo hown hK hP 0 rfl rfl 0 (by decide) (hts _ wf_Mo_7) (fun _ h9 => h9) rfl d_Mo_make_326 ?_
        refine lv_bipush (v := 17) hx hb d_Mo_make_329 (by decide) ?_
        refine lv_iload hx hb d_Mo_make_331 (lv_at hl 8 rfl) ?_
        refine lv_imul hx hb d_Mo_make_333 ?_
        refine lv_bipush (v := 6) hx hb d_Mo_make_334 (by decide) ?_
        refine lv_iadd hx hb d_Mo_make_336 ?_
        refine lv_iload hx hb d_Mo_make_337 (lv_at hl 5 rfl) ?_
        refine lv_iconst (v := 3) hx hb d_Mo_make_339 (by decide) ?_
        refine lv_icmp_ne (tgt := 348) hx hb d_Mo_make_340 (by decide) (fun c49 => ?_) (fun c49 => ?_)
        · replace h := zo_f c49 h
          refine lv_iload hx hb d_Mo_make_348 (lv_at hl 5 rfl) ?_
          refine lv_iconst (v := 2) hx hb d_Mo_make_350 (by decide) ?_
          refine lv_icmp_ne (tgt := 364) hx hb d_Mo_make_351 (by decide) (fun c50 => ?_) (fun c50 => ?_)
          · replace h := zo_f c50 h
            refine lv_iconst (v := 0) hx hb d_Mo_make_364 (by decide) ?_
            obtain ⟨i9, h⟩ := zo_i h
            obtain ⟨u51, hu9, h⟩ := zo_l h
            refine va_iast hx hb hK hP hD hS 1 0 rfl rfl i9 d_Mo_make_365 (fun H locs hP hD hS => ?_)
            replace hP : va_P D vwCl (MW A u51 r) H := by rw [hu9]; exact hP
            replace hD : va_D A9 (MW A u51 r) := by rw [hu9]; exact hD
            refine lv_iload hx hb d_Mo_make_366 (lv_at hl 8 rfl) ?_
            cases h
            exact W.iret hx hb hr (fun t ht hW => ⟨⟨_, (), rfl, rfl, ka_at ht hP⟩, hS.F ht⟩) hS.2.2 d_Mo_make_368 hlk
          replace h := zo_t c50 h
          refine lv_aload_n hx hb d_Mo_make_354 rfl (lv_at hl 0 rfl) ?_
          refine lv_iload_n hx hb d_Mo_make_355 rfl (lv_at hl 1 rfl) ?_
          refine lv_bipush (v := 6) hx hb d_Mo_make_356 (by decide) ?_
          obtain ⟨v52, e9, h⟩ := zo_b h
          refine ka_i (va_runV (As := [.int y1, .int 6]) (rest := [.int ((17 * y8) + 6), .ref (A 61)]) S9 (c_Mo_at l hl9 D A r _ u48 y1 6 _ e9) (cwV 2 hts (tg_V wl_Mo_32 wm_Mo_at we_Mo_at wi_Mo wo_Mo_at) rfl rfl rfl wq_Mo_at ⟨Nat.le_of_ble_eq_true rfl, Nat.le_of_ble_eq_true rfl⟩) (ka_preV X9 hP hD hS 0 rfl rfl) rfl rfl hl.1 rfl (lv_room (Nat.le_of_ble_eq_true rfl)) d_Mo_make_358 ⟨Nat.le_of_ble_eq_true rfl, Nat.le_of_ble_eq_true rfl⟩) X9 hD hS rfl (fun H locs hP hD hS => ?_)
          refine lv_goto (tgt := 365) hx hb d_Mo_make_361 (by decide) ?_
          obtain ⟨i9, h⟩ := zo_i h
          obtain ⟨u53, hu9, h⟩ := zo_l h
          refine va_iast hx hb hK hP hD hS 1 0 rfl rfl i9 d_Mo_make_365 (fun H locs hP hD hS => ?_)
          replace hP : va_P D vwCl (MW A u53 r) H := by rw [hu9]; exact hP
          replace hD : va_D A9 (MW A u53 r) := by rw [hu9]; exact hD
          refine lv_iload hx hb d_Mo_make_366 (lv_at hl 8 rfl) ?_
          cases h
          exact W.iret hx hb hr (fun t ht hW => ⟨⟨_, (), rfl, rfl, ka_at ht hP⟩, hS.F ht⟩) hS.2.2 d_Mo_make_368 hlk
        replace h := zo_t c49 h
        refine lv_iload hx hb d_Mo_make_343 (lv_at hl 6 rfl) ?_
        refine lv_goto (tgt := 365) hx hb d_Mo_make_345 (by decide) ?_
        obtain ⟨i9, h⟩ := zo_i h
        obtain ⟨u54, hu9, h⟩ := zo_l h
        refine va_iast hx hb hK hP hD hS 1 0 rfl rfl i9 d_Mo_make_365 (fun H locs hP hD hS => ?_)
        replace hP : va_P D vwCl (MW A u54 r) H := by rw [hu9]; exact hP
        replace hD : va_D A9 (MW A u54 r) := by rw [hu9]; exact hD
        refine lv_iload hx hb d_Mo_make_366 (lv_at hl 8 rfl) ?_
        cases h
        exact W.iret hx hb hr (fun t ht hW => ⟨⟨_, (), rfl, rfl, ka_at ht hP⟩, hS.F ht⟩) hS.2.2 d_Mo_make_368 hlk
      replace h := zo_f c43 h
      refine lv_aload_n hx hb d_Mo_make_238 rfl (lv_at hl 0 rfl) ?_
      refine va_get (D := D) (ci := 5) (v := .ref (A 61)) (C := R_Mo) (T := T_Mo) (N := 3) hx hb hts wu_Mo hown hK hP 0 rfl rfl 0 (by decide) (hts _ wf_Mo_7) (fun _ h9 => h9) rfl d_Mo_make_239 ?_
      refine lv_bipush (v := 17) hx hb d_Mo_make_242 (by decide) ?_
      refine lv_iload hx hb d_Mo_make_244 (lv_at hl 8 rfl) ?_
      refine lv_imul hx hb d_Mo_make_246 ?_
      refine lv_iload hx hb d_Mo_make_247 (lv_at hl 9 rfl) ?_
      refine lv_iadd hx hb d_Mo_make_249 ?_
      refine lv_iconst (v := 0) hx hb d_Mo_make_250 (by decide) ?_
      obtain ⟨i9, h⟩ := zo_i h
      obtain ⟨u55, hu9, h⟩ := zo_l h
      refine va_iast hx hb hK hP hD hS 1 0 rfl rfl i9 d_Mo_make_251 (fun H locs hP hD hS => ?_)
      replace hP : va_P D vwCl (MW A u55 r) H := by rw [hu9]; exact hP
      replace hD : va_D A9 (MW A u55 r) := by rw [hu9]; exact hD
      refine lv_iinc (v := y9 + 1) (lv' := [(9, .int (y9 + 1)), (0, .ref (A 60)), (1, .int y1), (2, .int y2), (3, .int y3), (4, .int y4), (5, .int y5), (6, .int y6), (7, .int y7), (8, .int y8)]) hx hb d_Mo_make_252 hl (k := 9) rfl rfl (by decide) rfl (fun ls hl => ?_)
      refine lv_goto (tgt := 231) hx hb d_Mo_make_255 (by decide) ?_
      exact ih231 u55 y1 y2 y3 y4 y5 y6 y7 y8 (y9 + 1) _ _ _ h hP hD hS (lv_sub hl [1, 2, 3, 4, 5, 6, 7, 8, 9, 0] rfl)
  refine lv_aload_n hx hb d_Mo_make_0 rfl (lv_at hl 0 rfl) ?_
  refine lv_iload_n hx hb d_Mo_make_1 rfl (lv_at hl 1 rfl) ?_
  obtain ⟨v1, e9, h⟩ := zo_b h
  refine ka_i (va_runV (As := [.int x1]) (rest := []) S9 (c_Mo_there l hl9 D A r _ σ x1 _ e9) (cwV 1 hts (tg_V wl_Mo_43 wm_Mo_there we_Mo_there wi_Mo wo_Mo_there) rfl rfl rfl wq_Mo_there ⟨Nat.le_of_ble_eq_true rfl, Nat.le_of_ble_eq_true rfl⟩) (ka_preV X9 hP hD hS 0 rfl rfl) rfl rfl hl.1 rfl (lv_room (Nat.le_of_ble_eq_true rfl)) d_Mo_make_2 ⟨Nat.le_of_ble_eq_true rfl, Nat.le_of_ble_eq_true rfl⟩) X9 hD hS rfl (fun H locs hP hD hS => ?_)
  refine lv_if_eq (tgt := 16) hx hb d_Mo_make_5 (by decide) (fun c2 => ?_) (fun c2 => ?_)
  · replace h := zo_t c2 h
    refine lv_aload_n hx hb d_Mo_make_16 rfl (lv_at hl 0 rfl) ?_
    refine lv_iconst (v := 2) hx hb d_Mo_make_17 (by decide) ?_
    obtain ⟨v3, e9, h⟩ := zo_b h
    refine ka_i (va_runV (As := [.int 2]) (rest := []) S9 (c_Mo_fail l hl9 D A r _ σ 2 _ e9) (cwV 1 hts (tg_V wl_Mo_51 wm_Mo_fail we_Mo_fail wi_Mo wo_Mo_fail) rfl rfl rfl wq_Mo_fail ⟨Nat.le_of_ble_eq_true rfl, Nat.le_of_ble_eq_true rfl⟩) (ka_preV X9 hP hD hS 0 rfl rfl) rfl rfl hl.1 rfl (lv_room (Nat.le_of_ble_eq_true rfl)) d_Mo_make_18 ⟨Nat.le_of_ble_eq_true rfl, Nat.le_of_ble_eq_true rfl⟩) X9 hD hS rfl (fun H locs hP hD hS => ?_)
    cases h
    exact W.iret hx hb hr (fun t ht hW => ⟨⟨_, (), rfl, rfl, ka_at ht hP⟩, hS.F ht⟩) hS.2.2 d_Mo_make_21 hlk
  replace h := zo_f c2 h
  refine lv_aload_n hx hb d_Mo_make_8 rfl (lv_at hl 0 rfl) ?_
  refine lv_iload_n hx hb d_Mo_make_9 rfl (lv_at hl 2 rfl) ?_
  obtain ⟨v4, e9, h⟩ := zo_b h
  refine ka_i (va_runV (As := [.int x2]) (rest := []) S9 (c_Mo_there l hl9 D A r _ σ x2 _ e9) (cwV 1 hts (tg_V wl_Mo_43 wm_Mo_there we_Mo_there wi_Mo wo_Mo_there) rfl rfl rfl wq_Mo_there ⟨Nat.le_of_ble_eq_true rfl, Nat.le_of_ble_eq_true rfl⟩) (ka_preV X9 hP hD hS 0 rfl rfl) rfl rfl hl.1 rfl (lv_room (Nat.le_of_ble_eq_true rfl)) d_Mo_make_10 ⟨Nat.le_of_ble_eq_true rfl, Nat.le_of_ble_eq_true rfl⟩) X9 hD hS rfl (fun H locs hP hD hS => ?_)
  refine lv_if_ne (tgt := 22) hx hb d_Mo_make_13 (by decide) (fun c5 => ?_) (fun c5 => ?_)
  · replace h := zo_f c5 h
    refine lv_aload_n hx hb d_Mo_make_22 rfl (lv_at hl 0 rfl) ?_
    refine lv_iload_n hx hb d_Mo_make_23 rfl (lv_at hl 1 rfl) ?_
    refine lv_iconst (v := 1) hx hb d_Mo_make_24 (by decide) ?_
    obtain ⟨v6, e9, h⟩ := zo_b h
    refine ka_i (va_runV (As := [.int x1, .int 1]) (rest := []) S9 (c_Mo_at l hl9 D A r _ σ x1 1 _ e9) (cwV 2 hts (tg_V wl_Mo_32 wm_Mo_at we_Mo_at wi_Mo wo_Mo_at) rfl rfl rfl wq_Mo_at ⟨Nat.le_of_ble_eq_true rfl, Nat.le_of_ble_eq_true rfl⟩) (ka_preV X9 hP hD hS 0 rfl rfl) rfl rfl hl.1 rfl (lv_room (Nat.le_of_ble_eq_true rfl)) d_Mo_make_25 ⟨Nat.le_of_ble_eq_true rfl, Nat.le_of_ble_eq_true rfl⟩) X9 hD hS rfl (fun H locs hP hD hS => ?_)
    refine lv_iconst (v := 3) hx hb d_Mo_make_28 (by decide) ?_
    refine lv_icmp_ne (tgt := 41) hx hb d_Mo_make_29 (by decide) (fun c7 => ?_) (fun c7 => ?_)
    · replace h := zo_f c7 h
      refine lv_aload_n hx hb d_Mo_make_41 rfl (lv_at hl 0 rfl) ?_
      refine lv_iconst (v := 1) hx hb d_Mo_make_42 (by decide) ?_
      obtain ⟨v8, e9, h⟩ := zo_b h
      refine ka_i (va_runV (As := [.int 1]) (rest := []) S9 (c_Mo_fail l hl9 D A r _ σ 1 _ e9) (cwV 1 hts (tg_V wl_Mo_51 wm_Mo_fail we_Mo_fail wi_Mo wo_Mo_fail) rfl rfl rfl wq_Mo_fail ⟨Nat.le_of_ble_eq_true rfl, Nat.le_of_ble_eq_true rfl⟩) (ka_preV X9 hP hD hS 0 rfl rfl) rfl rfl hl.1 rfl (lv_room (Nat.le_of_ble_eq_true rfl)) d_Mo_make_43 ⟨Nat.le_of_ble_eq_true rfl, Nat.le_of_ble_eq_true rfl⟩) X9 hD hS rfl (fun H locs hP hD hS => ?_)
      cases h
      exact W.iret hx hb hr (fun t ht hW => ⟨⟨_, (), rfl, rfl, ka_at ht hP⟩, hS.F ht⟩) hS.2.2 d_Mo_make_46 hlk
    replace h := zo_t c7 h
    refine lv_aload_n hx hb d_Mo_make_32 rfl (lv_at hl 0 rfl) ?_
    refine lv_iload_n hx hb d_Mo_make_33 rfl (lv_at hl 2 rfl) ?_
    refine lv_iconst (v := 1) hx hb d_Mo_make_34 (by decide) ?_
    obtain ⟨v9, e9, h⟩ := zo_b h
    refine ka_i (va_runV (As := [.int x2, .int 1]) (rest := []) S9 (c_Mo_at l hl9 D A r _ σ x2 1 _ e9) (cwV 2 hts (tg_V wl_Mo_32 wm_Mo_at we_Mo_at wi_Mo wo_Mo_at) rfl rfl rfl wq_Mo_at ⟨Nat.le_of_ble_eq_true rfl, Nat.le_of_ble_eq_true rfl⟩) (ka_preV X9 hP hD hS 0 rfl rfl) rfl rfl hl.1 rfl (lv_room (Nat.le_of_ble_eq_true rfl)) d_Mo_make_35 ⟨Nat.le_of_ble_eq_true rfl, Nat.le_of_ble_eq_true rfl⟩) X9 hD hS rfl (fun H locs hP hD hS => ?_)
    refine lv_if_eq (tgt := 47) hx hb d_Mo_make_38 (by decide) (fun c10 => ?_) (fun c10 => ?_)
    · replace h := zo_t c10 h
      refine lv_aload_n hx hb d_Mo_make_47 rfl (lv_at hl 0 rfl) ?_
      refine lv_iload_n hx hb d_Mo_make_48 rfl (lv_at hl 1 rfl) ?_
      refine lv_iload_n hx hb d_Mo_make_49 rfl (lv_at hl 2 rfl) ?_
      obtain ⟨v11, e9, h⟩ := zo_b h
      refine ka_i (va_runV (As := [.int x1, .int x2]) (rest := []) S9 (c_Mo_changes l hl9 D A r _ σ x1 x2 _ e9) (cwV 2 hts (tg_V wl_Mo_69 wm_Mo_changes we_Mo_changes wi_Mo wo_Mo_changes) rfl rfl rfl wq_Mo_changes ⟨Nat.le_of_ble_eq_true rfl, Nat.le_of_ble_eq_true rfl⟩) (ka_preV X9 hP hD hS 0 rfl rfl) rfl rfl hl.1 rfl (lv_room (Nat.le_of_ble_eq_true rfl)) d_Mo_make_50 ⟨Nat.le_of_ble_eq_true rfl, Nat.le_of_ble_eq_true rfl⟩) X9 hD hS rfl (fun H locs hP hD hS => ?_)
      refine lv_if_eq (tgt := 100) hx hb d_Mo_make_53 (by decide) (fun c12 => ?_) (fun c12 => ?_)
      · replace h := zo_t c12 h
        refine lv_iconst (v := 0) hx hb d_Mo_make_100 (by decide) ?_
        refine lv_istore (lv' := [(7, .int 0), (0, .ref (A 60)), (1, .int x1), (2, .int x2), (3, .int x3), (4, .int x4), (5, .int x5), (6, .int x6)]) hx hb d_Mo_make_101 hl (by decide) rfl (fun ls hl => ?_)
        refine lv_iload hx hb d_Mo_make_103 (lv_at hl 6 rfl) ?_
        refine lv_iconst (v := 3) hx hb d_Mo_make_105 (by decide) ?_
        refine lv_icmp_ne (tgt := 149) hx hb d_Mo_make_106 (by decide) (fun c13 => ?_) (fun c13 => ?_)
        · replace h := zo_f c13 h
          refine lv_iload hx hb d_Mo_make_149 (lv_at hl 0 rfl) ?_
          refine lv_if_ne (tgt := 160) hx hb d_Mo_make_151 (by decide) (fun c9 => absurd (by decide) c9) (fun _ => ?_)
          refine lv_aload_n hx hb d_Mo_make_154 rfl (lv_at hl 1 rfl) ?_
          refine lv_iconst (v := 3) hx hb d_Mo_make_155 (by decide) ?_
          obtain ⟨v14, e9, h⟩ := zo_b h
          refine ka_i (va_runV (As := [.int 3]) (rest := []) S9 (c_Mo_fail l hl9 D A r _ σ 3 _ e9) (cwV 1 hts (tg_V wl_Mo_51 wm_Mo_fail we_Mo_fail wi_Mo wo_Mo_fail) rfl rfl rfl wq_Mo_fail ⟨Nat.le_of_ble_eq_true rfl, Nat.le_of_ble_eq_true rfl⟩) (ka_preV X9 hP hD hS 0 rfl rfl) rfl rfl hl.1 rfl (lv_room (Nat.le_of_ble_eq_true rfl)) d_Mo_make_156 ⟨Nat.le_of_ble_eq_true rfl, Nat.le_of_ble_eq_true rfl⟩) X9 hD hS rfl (fun H locs hP hD hS => ?_)
          cases h
          exact W.iret hx hb hr (fun t ht hW => ⟨⟨_, (), rfl, rfl, ka_at ht hP⟩, hS.F ht⟩) hS.2.2 d_Mo_make_159 hlk
        replace h := zo_t c13 h
        refine lv_iload hx hb d_Mo_make_109 (lv_at hl 0 rfl) ?_
        refine lv_if_eq (tgt := 146) hx hb d_Mo_make_111 (by decide) (fun _ => ?_) (fun c9 => absurd (by decide) c9)
        refine lv_iconst (v := 0) hx hb d_Mo_make_146 (by decide) ?_
        refine lv_istore (lv' := [(7, .int 0), (0, .ref (A 60)), (1, .int x1), (2, .int x2), (3, .int x3), (4, .int x4), (5, .int x5), (6, .int x6)]) hx hb d_Mo_make_147 hl (by decide) rfl (fun ls hl => ?_)
        refine lv_iload hx hb d_Mo_make_149 (lv_at hl 0 rfl) ?_
        refine lv_if_ne (tgt := 160) hx hb d_Mo_make_151 (by decide) (fun c9 => absurd (by decide) c9) (fun _ => ?_)
        refine lv_aload_n hx hb d_Mo_make_154 rfl (lv_at hl 1 rfl) ?_
        refine lv_iconst (v := 3) hx hb d_Mo_make_155 (by decide) ?_
        obtain ⟨v15, e9, h⟩ := zo_b h
        refine ka_i (va_runV (As := [.int 3]) (rest := []) S9 (c_Mo_fail l hl9 D A r _ σ 3 _ e9) (cwV 1 hts (tg_V wl_Mo_51 wm_Mo_fail we_Mo_fail wi_Mo wo_Mo_fail) rfl rfl rfl wq_Mo_fail ⟨Nat.le_of_ble_eq_true rfl, Nat.le_of_ble_eq_true rfl⟩) (ka_preV X9 hP hD hS 0 rfl rfl) rfl rfl hl.1 rfl (lv_room (Nat.le_of_ble_eq_true rfl)) d_Mo_make_156 ⟨Nat.le_of_ble_eq_true rfl, Nat.le_of_ble_eq_true rfl⟩) X9 hD hS rfl (fun H locs hP hD hS => ?_)
        cases h
        exact W.iret hx hb hr (fun t ht hW => ⟨⟨_, (), rfl, rfl, ka_at ht hP⟩, hS.F ht⟩) hS.2.2 d_Mo_make_159 hlk
      replace h := zo_f c12 h
      refine lv_aload_n hx hb d_Mo_make_56 rfl (lv_at hl 0 rfl) ?_
      refine lv_aload_n hx hb d_Mo_make_57 rfl (lv_at hl 0 rfl) ?_
      refine lv_iload_n hx hb d_Mo_make_58 rfl (lv_at hl 1 rfl) ?_
      refine lv_iconst (v := 2) hx hb d_Mo_make_59 (by decide) ?_
      obtain ⟨v16, e9, h⟩ := zo_b h
      refine ka_i (va_runV (As := [.int x1, .int 2]) (rest := [.ref (A 60)]) S9 (c_Mo_at l hl9 D A r _ σ x1 2 _ e9) (cwV 2 hts (tg_V wl_Mo_32 wm_Mo_at we_Mo_at wi_Mo wo_Mo_at) rfl rfl rfl wq_Mo_at ⟨Nat.le_of_ble_eq_true rfl, Nat.le_of_ble_eq_true rfl⟩) (ka_preV X9 hP hD hS 0 rfl rfl) rfl rfl hl.1 rfl (lv_room (Nat.le_of_ble_eq_true rfl)) d_Mo_make_60 ⟨Nat.le_of_ble_eq_true rfl, Nat.le_of_ble_eq_true rfl⟩) X9 hD hS rfl (fun H locs hP hD hS => ?_)
      refine lv_iload_n hx hb d_Mo_make_63 rfl (lv_at hl 3 rfl) ?_
      refine lv_iconst (v := 0) hx hb d_Mo_make_64 (by decide) ?_
      obtain ⟨v17, e9, h⟩ := zo_b h
      refine ka_i (va_runV (As := [.int v16, .int x3, .int 0]) (rest := []) S9 (c_Mo_under l hl9 D A r _ σ v16 x3 0 _ e9) (cwV 3 hts (tg_V wl_Mo_35 wm_Mo_under we_Mo_under wi_Mo wo_Mo_under) rfl rfl rfl wq_Mo_under ⟨Nat.le_of_ble_eq_true rfl, Nat.le_of_ble_eq_true rfl⟩) (ka_preV X9 hP hD hS 0 rfl rfl) rfl rfl hl.1 rfl (lv_room (Nat.le_of_ble_eq_true rfl)) d_Mo_make_65 ⟨Nat.le_of_ble_eq_true rfl, Nat.le_of_ble_eq_true rfl⟩) X9 hD hS rfl (fun H locs hP hD hS => ?_)
      refine lv_if_eq (tgt := 100) hx hb d_Mo_make_68 (by decide) (fun c18 => ?_) (fun c18 => ?_)
      · replace h := zo_t c18 h
        refine lv_iconst (v := 0) hx hb d_Mo_make_100 (by decide) ?_
        refine lv_istore (lv' := [(7, .int 0), (0, .ref (A 60)), (1, .int x1), (2, .int x2), (3, .int x3), (4, .int x4), (5, .int x5), (6, .int x6)]) hx hb d_Mo_make_101 hl (by decide) rfl (fun ls hl => ?_)
        refine lv_iload hx hb d_Mo_make_103 (lv_at hl 6 rfl) ?_
        refine lv_iconst (v := 3) hx hb d_Mo_make_105 (by decide) ?_
        refine lv_icmp_ne (tgt := 149) hx hb d_Mo_make_106 (by decide) (fun c19 => ?_) (fun c19 => ?_)
        · replace h := zo_f c19 h
          refine lv_iload hx hb d_Mo_make_149 (lv_at hl 0 rfl) ?_
          refine lv_if_ne (tgt := 160) hx hb d_Mo_make_151 (by decide) (fun c9 => absurd (by decide) c9) (fun _ => ?_)
          refine lv_aload_n hx hb d_Mo_make_154 rfl (lv_at hl 1 rfl) ?_
          refine lv_iconst (v := 3) hx hb d_Mo_make_155 (by decide) ?_
          obtain ⟨v20, e9, h⟩ := zo_b h
          refine ka_i (va_runV (As := [.int 3]) (rest := []) S9 (c_Mo_fail l hl9 D A r _ σ 3 _ e9) (cwV 1 hts (tg_V wl_Mo_51 wm_Mo_fail we_Mo_fail wi_Mo wo_Mo_fail) rfl rfl rfl wq_Mo_fail ⟨Nat.le_of_ble_eq_true rfl, Nat.le_of_ble_eq_true rfl⟩) (ka_preV X9 hP hD hS 0 rfl rfl) rfl rfl hl.1 rfl (lv_room (Nat.le_of_ble_eq_true rfl)) d_Mo_make_156 ⟨Nat.le_of_ble_eq_true rfl, Nat.le_of_ble_eq_true rfl⟩) X9 hD hS rfl (fun H locs hP hD hS => ?_)
          cases h
          exact W.iret hx hb hr (fun t ht hW => ⟨⟨_, (), rfl, rfl, ka_at ht hP⟩, hS.F ht⟩) hS.2.2 d_Mo_make_159 hlk
        replace h := zo_t c19 h
        refine lv_iload hx hb d_Mo_make_109 (lv_at hl 0 rfl) ?_
        refine lv_if_eq (tgt := 146) hx hb d_Mo_make_111 (by decide) (fun _ => ?_) (fun c9 => absurd (by decide) c9)
        refine lv_iconst (v := 0) hx hb d_Mo_make_146 (by decide) ?_
        refine lv_istore (lv' := [(7, .int 0), (0, .ref (A 60)), (1, .int x1), (2, .int x2), (3, .int x3), (4, .int x4), (5, .int x5), (6, .int x6)]) hx hb d_Mo_make_147 hl (by decide) rfl (fun ls hl => ?_)
        refine lv_iload hx hb d_Mo_make_149 (lv_at hl 0 rfl) ?_
        refine lv_if_ne (tgt := 160) hx hb d_Mo_make_151 (by decide) (fun c9 => absurd (by decide) c9) (fun _ => ?_)
        refine lv_aload_n hx hb d_Mo_make_154 rfl (lv_at hl 1 rfl) ?_
        refine lv_iconst (v := 3) hx hb d_Mo_make_155 (by decide) ?_
        obtain ⟨v21, e9, h⟩ := zo_b h
        refine ka_i (va_runV (As := [.int 3]) (rest := []) S9 (c_Mo_fail l hl9 D A r _ σ 3 _ e9) (cwV 1 hts (tg_V wl_Mo_51 wm_Mo_fail we_Mo_fail wi_Mo wo_Mo_fail) rfl rfl rfl wq_Mo_fail ⟨Nat.le_of_ble_eq_true rfl, Nat.le_of_ble_eq_true rfl⟩) (ka_preV X9 hP hD hS 0 rfl rfl) rfl rfl hl.1 rfl (lv_room (Nat.le_of_ble_eq_true rfl)) d_Mo_make_156 ⟨Nat.le_of_ble_eq_true rfl, Nat.le_of_ble_eq_true rfl⟩) X9 hD hS rfl (fun H locs hP hD hS => ?_)
        cases h
        exact W.iret hx hb hr (fun t ht hW => ⟨⟨_, (), rfl, rfl, ka_at ht hP⟩, hS.F ht⟩) hS.2.2 d_Mo_make_159 hlk
      replace h := zo_f c18 h
      refine lv_aload_n hx hb d_Mo_make_71 rfl (lv_at hl 0 rfl) ?_
      refine lv_iload_n hx hb d_Mo_make_72 rfl (lv_at hl 3 rfl) ?_
      refine lv_aload_n hx hb d_Mo_make_73 rfl (lv_at hl 0 rfl) ?_
      refine lv_iload_n hx hb d_Mo_make_74 rfl (lv_at hl 1 rfl) ?_
      refine lv_bipush (v := 6) hx hb d_Mo_make_75 (by decide) ?_
      obtain ⟨v22, e9, h⟩ := zo_b h
      refine ka_i (va_runV (As := [.int x1, .int 6]) (rest := [.int x3, .ref (A 60)]) S9 (c_Mo_at l hl9 D A r _ σ x1 6 _ e9) (cwV 2 hts (tg_V wl_Mo_32 wm_Mo_at we_Mo_at wi_Mo wo_Mo_at) rfl rfl rfl wq_Mo_at ⟨Nat.le_of_ble_eq_true rfl, Nat.le_of_ble_eq_true rfl⟩) (ka_preV X9 hP hD hS 0 rfl rfl) rfl rfl hl.1 rfl (lv_room (Nat.le_of_ble_eq_true rfl)) d_Mo_make_77 ⟨Nat.le_of_ble_eq_true rfl, Nat.le_of_ble_eq_true rfl⟩) X9 hD hS rfl (fun H locs hP hD hS => ?_)
      refine lv_iconst (v := 0) hx hb d_Mo_make_80 (by decide) ?_
      obtain ⟨v23, e9, h⟩ := zo_b h
      refine ka_i (va_runV (As := [.int x3, .int v22, .int 0]) (rest := []) S9 (c_Mo_under l hl9 D A r _ σ x3 v22 0 _ e9) (cwV 3 hts (tg_V wl_Mo_35 wm_Mo_under we_Mo_under wi_Mo wo_Mo_under) rfl rfl rfl wq_Mo_under ⟨Nat.le_of_ble_eq_true rfl, Nat.le_of_ble_eq_true rfl⟩) (ka_preV X9 hP hD hS 0 rfl rfl) rfl rfl hl.1 rfl (lv_room (Nat.le_of_ble_eq_true rfl)) d_Mo_make_81 ⟨Nat.le_of_ble_eq_true rfl, Nat.le_of_ble_eq_true rfl⟩) X9 hD hS rfl (fun H locs hP hD hS => ?_)
      refine lv_if_eq (tgt := 100) hx hb d_Mo_make_84 (by decide) (fun c24 => ?_) (fun c24 => ?_)
      · replace h := zo_t c24 h
        refine lv_iconst (v := 0) hx hb d_Mo_make_100 (by decide) ?_
        refine lv_istore (lv' := [(7, .int 0), (0, .ref (A 60)), (1, .int x1), (2, .int x2), (3, .int x3), (4, .int x4), (5, .int x5), (6, .int x6)]) hx hb d_Mo_make_101 hl (by decide) rfl (fun ls hl => ?_)
        refine lv_iload hx hb d_Mo_make_103 (lv_at hl 6 rfl) ?_
        refine lv_iconst (v := 3) hx hb d_Mo_make_105 (by decide) ?_
        refine lv_icmp_ne (tgt := 149) hx hb d_Mo_make_106 (by decide) (fun c25 => ?_) (fun c25 => ?_)
        · replace h := zo_f c25 h
          refine lv_iload hx hb d_Mo_make_149 (lv_at hl 0 rfl) ?_
          refine lv_if_ne (tgt := 160) hx hb d_Mo_make_151 (by decide) (fun c9 => absurd (by decide) c9) (fun _ => ?_)
          refine lv_aload_n hx hb d_Mo_make_154 rfl (lv_at hl 1 rfl) ?_
          refine lv_iconst (v := 3) hx hb d_Mo_make_155 (by decide) ?_
          obtain ⟨v26, e9, h⟩ := zo_b h
          refine ka_i (va_runV (As := [.int 3]) (rest := []) S9 (c_Mo_fail l hl9 D A r _ σ 3 _ e9) (cwV 1 hts (tg_V wl_Mo_51 wm_Mo_fail we_Mo_fail wi_Mo wo_Mo_fail) rfl rfl rfl wq_Mo_fail ⟨Nat.le_of_ble_eq_true rfl, Nat.le_of_ble_eq_true rfl⟩) (ka_preV X9 hP hD hS 0 rfl rfl) rfl rfl hl.1 rfl (lv_room (Nat.le_of_ble_eq_true rfl)) d_Mo_make_156 ⟨Nat.le_of_ble_eq_true rfl, Nat.le_of_ble_eq_true rfl⟩) X9 hD hS rfl (fun H locs hP hD hS => ?_)
          cases h
          exact W.iret hx hb hr (fun t ht hW => ⟨⟨_, (), rfl, rfl, ka_at ht hP⟩, hS.F ht⟩) hS.2.2 d_Mo_make_159 hlk
        replace h := zo_t c25 h
        refine lv_iload hx hb d_Mo_make_109 (lv_at hl 0 rfl) ?_
        refine lv_if_eq (tgt := 146) hx hb d_Mo_make_111 (by decide) (fun _ => ?_) (fun c9 => absurd (by decide) c9)
        refine lv_iconst (v := 0) hx hb d_Mo_make_146 (by decide) ?_
        refine lv_istore (lv' := [(7, .int 0), (0, .ref (A 60)), (1, .int x1), (2, .int x2), (3, .int x3), (4, .int x4), (5, .int x5), (6, .int x6)]) hx hb d_Mo_make_147 hl (by decide) rfl (fun ls hl => ?_)
        refine lv_iload hx hb d_Mo_make_149 (lv_at hl 0 rfl) ?_
        refine lv_if_ne (tgt := 160) hx hb d_Mo_make_151 (by decide) (fun c9 => absurd (by decide) c9) (fun _ => ?_)
        refine lv_aload_n hx hb d_Mo_make_154 rfl (lv_at hl 1 rfl) ?_
        refine lv_iconst (v := 3) hx hb d_Mo_make_155 (by decide) ?_
        obtain ⟨v27, e9, h⟩ := zo_b h
        refine ka_i (va_runV (As := [.int 3]) (rest := []) S9 (c_Mo_fail l hl9 D A r _ σ 3 _ e9) (cwV 1 hts (tg_V wl_Mo_51 wm_Mo_fail we_Mo_fail wi_Mo wo_Mo_fail) rfl rfl rfl wq_Mo_fail ⟨Nat.le_of_ble_eq_true rfl, Nat.le_of_ble_eq_true rfl⟩) (ka_preV X9 hP hD hS 0 rfl rfl) rfl rfl hl.1 rfl (lv_room (Nat.le_of_ble_eq_true rfl)) d_Mo_make_156 ⟨Nat.le_of_ble_eq_true rfl, Nat.le_of_ble_eq_true rfl⟩) X9 hD hS rfl (fun H locs hP hD hS => ?_)
        cases h
        exact W.iret hx hb hr (fun t ht hW => ⟨⟨_, (), rfl, rfl, ka_at ht hP⟩, hS.F ht⟩) hS.2.2 d_Mo_make_159 hlk
      replace h := zo_f c24 h
      refine lv_aload_n hx hb d_Mo_make_87 rfl (lv_at hl 0 rfl) ?_
      refine lv_iload_n hx hb d_Mo_make_88 rfl (lv_at hl 3 rfl) ?_
      refine lv_iload_n hx hb d_Mo_make_89 rfl (lv_at hl 1 rfl) ?_
      obtain ⟨v28, e9, h⟩ := zo_b h
      refine ka_i (va_runV (As := [.int x3, .int x1]) (rest := []) S9 (c_Mo_starsOf l hl9 D A r _ σ x3 x1 _ e9) (cwV 2 hts (tg_V wl_Mo_72 wm_Mo_starsOf we_Mo_starsOf wi_Mo wo_Mo_starsOf) rfl rfl rfl wq_Mo_starsOf ⟨Nat.le_of_ble_eq_true rfl, Nat.le_of_ble_eq_true rfl⟩) (ka_preV X9 hP hD hS 0 rfl rfl) rfl rfl hl.1 rfl (lv_room (Nat.le_of_ble_eq_true rfl)) d_Mo_make_90 ⟨Nat.le_of_ble_eq_true rfl, Nat.le_of_ble_eq_true rfl⟩) X9 hD hS rfl (fun H locs hP hD hS => ?_)
      refine lv_if_eq (tgt := 100) hx hb d_Mo_make_93 (by decide) (fun c29 => ?_) (fun c29 => ?_)
      · replace h := zo_t c29 h
        refine lv_iconst (v := 0) hx hb d_Mo_make_100 (by decide) ?_
        refine lv_istore (lv' := [(7, .int 0), (0, .ref (A 60)), (1, .int x1), (2, .int x2), (3, .int x3), (4, .int x4), (5, .int x5), (6, .int x6)]) hx hb d_Mo_make_101 hl (by decide) rfl (fun ls hl => ?_)
        refine lv_iload hx hb d_Mo_make_103 (lv_at hl 6 rfl) ?_
        refine lv_iconst (v := 3) hx hb d_Mo_make_105 (by decide) ?_
        refine lv_icmp_ne (tgt := 149) hx hb d_Mo_make_106 (by decide) (fun c30 => ?_) (fun c30 => ?_)
        · replace h := zo_f c30 h
          refine lv_iload hx hb d_Mo_make_149 (lv_at hl 0 rfl) ?_
          refine lv_if_ne (tgt := 160) hx hb d_Mo_make_151 (by decide) (fun c9 => absurd (by decide) c9) (fun _ => ?_)
          refine lv_aload_n hx hb d_Mo_make_154 rfl (lv_at hl 1 rfl) ?_
          refine lv_iconst (v := 3) hx hb d_Mo_make_155 (by decide) ?_
          obtain ⟨v31, e9, h⟩ := zo_b h
          refine ka_i (va_runV (As := [.int 3]) (rest := []) S9 (c_Mo_fail l hl9 D A r _ σ 3 _ e9) (cwV 1 hts (tg_V wl_Mo_51 wm_Mo_fail we_Mo_fail wi_Mo wo_Mo_fail) rfl rfl rfl wq_Mo_fail ⟨Nat.le_of_ble_eq_true rfl, Nat.le_of_ble_eq_true rfl⟩) (ka_preV X9 hP hD hS 0 rfl rfl) rfl rfl hl.1 rfl (lv_room (Nat.le_of_ble_eq_true rfl)) d_Mo_make_156 ⟨Nat.le_of_ble_eq_true rfl, Nat.le_of_ble_eq_true rfl⟩) X9 hD hS rfl (fun H locs hP hD hS => ?_)
          cases h
          exact W.iret hx hb hr (fun t ht hW => ⟨⟨_, (), rfl, rfl, ka_at ht hP⟩, hS.F ht⟩) hS.2.2 d_Mo_make_159 hlk
        replace h := zo_t c30 h
        refine lv_iload hx hb d_Mo_make_109 (lv_at hl 0 rfl) ?_
        refine lv_if_eq (tgt := 146) hx hb d_Mo_make_111 (by decide) (fun _ => ?_) (fun c9 => absurd (by decide) c9)
        refine lv_iconst (v := 0) hx hb d_Mo_make_146 (by decide) ?_
        refine lv_istore (lv' := [(7, .int 0), (0, .ref (A 60)), (1, .int x1), (2, .int x2), (3, .int x3), (4, .int x4), (5, .int x5), (6, .int x6)]) hx hb d_Mo_make_147 hl (by decide) rfl (fun ls hl => ?_)
        refine lv_iload hx hb d_Mo_make_149 (lv_at hl 0 rfl) ?_
        refine lv_if_ne (tgt := 160) hx hb d_Mo_make_151 (by decide) (fun c9 => absurd (by decide) c9) (fun _ => ?_)
        refine lv_aload_n hx hb d_Mo_make_154 rfl (lv_at hl 1 rfl) ?_
        refine lv_iconst (v := 3) hx hb d_Mo_make_155 (by decide) ?_
        obtain ⟨v32, e9, h⟩ := zo_b h
        refine ka_i (va_runV (As := [.int 3]) (rest := []) S9 (c_Mo_fail l hl9 D A r _ σ 3 _ e9) (cwV 1 hts (tg_V wl_Mo_51 wm_Mo_fail we_Mo_fail wi_Mo wo_Mo_fail) rfl rfl rfl wq_Mo_fail ⟨Nat.le_of_ble_eq_true rfl, Nat.le_of_ble_eq_true rfl⟩) (ka_preV X9 hP hD hS 0 rfl rfl) rfl rfl hl.1 rfl (lv_room (Nat.le_of_ble_eq_true rfl)) d_Mo_make_156 ⟨Nat.le_of_ble_eq_true rfl, Nat.le_of_ble_eq_true rfl⟩) X9 hD hS rfl (fun H locs hP hD hS => ?_)
        cases h
        exact W.iret hx hb hr (fun t ht hW => ⟨⟨_, (), rfl, rfl, ka_at ht hP⟩, hS.F ht⟩) hS.2.2 d_Mo_make_159 hlk
      replace h := zo_f c29 h
      refine lv_iconst (v := 1) hx hb d_Mo_make_96 (by decide) ?_
      refine lv_goto (tgt := 101) hx hb d_Mo_make_97 (by decide) ?_
      refine lv_istore (lv' := [(7, .int 1), (0, .ref (A 60)), (1, .int x1), (2, .int x2), (3, .int x3), (4, .int x4), (5, .int x5), (6, .int x6)]) hx hb d_Mo_make_101 hl (by decide) rfl (fun ls hl => ?_)
      refine lv_iload hx hb d_Mo_make_103 (lv_at hl 6 rfl) ?_
      refine lv_iconst (v := 3) hx hb d_Mo_make_105 (by decide) ?_
      refine lv_icmp_ne (tgt := 149) hx hb d_Mo_make_106 (by decide) (fun c33 => ?_) (fun c33 => ?_)
      · replace h := zo_f c33 h
        refine lv_iload hx hb d_Mo_make_149 (lv_at hl 0 rfl) ?_
        refine lv_if_ne (tgt := 160) hx hb d_Mo_make_151 (by decide) (fun _ => ?_) (fun c9 => absurd c9 (by decide))
        refine lv_aload_n hx hb d_Mo_make_160 rfl (lv_at hl 1 rfl) ?_
        refine lv_iload_n hx hb d_Mo_make_161 rfl (lv_at hl 3 rfl) ?_
        refine lv_iconst (v := 3) hx hb d_Mo_make_162 (by decide) ?_
        obtain ⟨v34, e9, h⟩ := zo_b h
        refine ka_i (va_runV (As := [.int x2, .int 3]) (rest := []) S9 (c_Mo_at l hl9 D A r _ σ x2 3 _ e9) (cwV 2 hts (tg_V wl_Mo_32 wm_Mo_at we_Mo_at wi_Mo wo_Mo_at) rfl rfl rfl wq_Mo_at ⟨Nat.le_of_ble_eq_true rfl, Nat.le_of_ble_eq_true rfl⟩) (ka_preV X9 hP hD hS 0 rfl rfl) rfl rfl hl.1 rfl (lv_room (Nat.le_of_ble_eq_true rfl)) d_Mo_make_163 ⟨Nat.le_of_ble_eq_true rfl, Nat.le_of_ble_eq_true rfl⟩) X9 hD hS rfl (fun H locs hP hD hS => ?_)
        refine lv_aload_n hx hb d_Mo_make_166 rfl (lv_at hl 1 rfl) ?_
        refine lv_iload_n hx hb d_Mo_make_167 rfl (lv_at hl 3 rfl) ?_
        obtain ⟨v35, e9, h⟩ := zo_b h
        refine ka_i (va_runV (As := [.int x2]) (rest := [.int v34]) S9 (c_Mo_use l hl9 D A r _ σ x2 _ e9) (cwV 1 hts (tg_V wl_Mo_75 wm_Mo_use we_Mo_use wi_Mo wo_Mo_use) rfl rfl rfl wq_Mo_use ⟨Nat.le_of_ble_eq_true rfl, Nat.le_of_ble_eq_true rfl⟩) (ka_preV X9 hP hD hS 0 rfl rfl) rfl rfl hl.1 rfl (lv_room (Nat.le_of_ble_eq_true rfl)) d_Mo_make_168 ⟨Nat.le_of_ble_eq_true rfl, Nat.le_of_ble_eq_true rfl⟩) X9 hD hS rfl (fun H locs hP hD hS => ?_)
        refine lv_iload hx hb d_Mo_make_171 (lv_at hl 5 rfl) ?_
        refine lv_iadd hx hb d_Mo_make_173 ?_
        refine lv_icmp_lt (tgt := 200) hx hb d_Mo_make_174 (by decide) (fun c36 => ?_) (fun c36 => ?_)
        · replace h := zo_t c36 h
          refine lv_aload_n hx hb d_Mo_make_200 rfl (lv_at hl 1 rfl) ?_
          refine lv_iconst (v := 4) hx hb d_Mo_make_201 (by decide) ?_
          obtain ⟨v37, e9, h⟩ := zo_b h
          refine ka_i (va_runV (As := [.int 4]) (rest := []) S9 (c_Mo_fail l hl9 D A r _ σ 4 _ e9) (cwV 1 hts (tg_V wl_Mo_51 wm_Mo_fail we_Mo_fail wi_Mo wo_Mo_fail) rfl rfl rfl wq_Mo_fail ⟨Nat.le_of_ble_eq_true rfl, Nat.le_of_ble_eq_true rfl⟩) (ka_preV X9 hP hD hS 0 rfl rfl) rfl rfl hl.1 rfl (lv_room (Nat.le_of_ble_eq_true rfl)) d_Mo_make_202 ⟨Nat.le_of_ble_eq_true rfl, Nat.le_of_ble_eq_true rfl⟩) X9 hD hS rfl (fun H locs hP hD hS => ?_)
          cases h
          exact W.iret hx hb hr (fun t ht hW => ⟨⟨_, (), rfl, rfl, ka_at ht hP⟩, hS.F ht⟩) hS.2.2 d_Mo_make_205 hlk
        replace h := zo_f c36 h
        refine lv_aload_n hx hb d_Mo_make_177 rfl (lv_at hl 1 rfl) ?_
        refine va_get (D := D) (ci := 5) (v := .ref (A 61)) (C := R_Mo) (T := T_Mo) (N := 3) hx hb hts wu_Mo hown hK hP 0 rfl rfl 0 (by decide) (hts _ wf_Mo_7) (fun _ h9 => h9) rfl d_Mo_make_178 ?_
        refine lv_sipush (v := 1549) hx hb d_Mo_make_181 (by decide) ?_
        obtain ⟨i9, h⟩ := zo_i h
        refine va_iald hx hb hK hP 1 0 rfl rfl i9 d_Mo_make_184 ?_
        refine lv_bipush (v := 60) hx hb d_Mo_make_185 (by decide) ?_
        refine lv_icmp_eq (tgt := 200) hx hb d_Mo_make_187 (by decide) (fun c38 => ?_) (fun c38 => ?_)
        · replace h := zo_t c38 h
          refine lv_aload_n hx hb d_Mo_make_200 rfl (lv_at hl 1 rfl) ?_
          refine lv_iconst (v := 4) hx hb d_Mo_make_201 (by decide) ?_
          obtain ⟨v39, e9, h⟩ := zo_b h
          refine ka_i (va_runV (As := [.int 4]) (rest := []) S9 (c_Mo_fail l hl9 D A r _ σ 4 _ e9) (cwV 1 hts (tg_V wl_Mo_51 wm_Mo_fail we_Mo_fail wi_Mo wo_Mo_fail) rfl rfl rfl wq_Mo_fail ⟨Nat.le_of_ble_eq_true rfl, Nat.le_of_ble_eq_true rfl⟩) (ka_preV X9 hP hD hS 0 rfl rfl) rfl rfl hl.1 rfl (lv_room (Nat.le_of_ble_eq_true rfl)) d_Mo_make_202 ⟨Nat.le_of_ble_eq_true rfl, Nat.le_of_ble_eq_true rfl⟩) X9 hD hS rfl (fun H locs hP hD hS => ?_)
          cases h
          exact W.iret hx hb hr (fun t ht hW => ⟨⟨_, (), rfl, rfl, ka_at ht hP⟩, hS.F ht⟩) hS.2.2 d_Mo_make_205 hlk
        replace h := zo_f c38 h
        refine lv_aload_n hx hb d_Mo_make_190 rfl (lv_at hl 1 rfl) ?_
        refine lv_iload_n hx hb d_Mo_make_191 rfl (lv_at hl 3 rfl) ?_
        obtain ⟨v40, e9, h⟩ := zo_b h
        refine ka_i (va_runV (As := [.int x2]) (rest := []) S9 (c_Mo_deep l hl9 D A r _ σ x2 _ e9) (cwV 1 hts (tg_V wl_Mo_78 wm_Mo_deep we_Mo_deep wi_Mo wo_Mo_deep) rfl rfl rfl wq_Mo_deep ⟨Nat.le_of_ble_eq_true rfl, Nat.le_of_ble_eq_true rfl⟩) (ka_preV X9 hP hD hS 0 rfl rfl) rfl rfl hl.1 rfl (lv_room (Nat.le_of_ble_eq_true rfl)) d_Mo_make_192 ⟨Nat.le_of_ble_eq_true rfl, Nat.le_of_ble_eq_true rfl⟩) X9 hD hS rfl (fun H locs hP hD hS => ?_)
        refine lv_bipush (v := 12) hx hb d_Mo_make_195 (by decide) ?_
        refine lv_icmp_lt (tgt := 206) hx hb d_Mo_make_197 (by decide) (fun c41 => ?_) (fun c41 => ?_)
        · replace h := zo_t c41 h
          refine lv_aload_n hx hb d_Mo_make_206 rfl (lv_at hl 1 rfl) ?_
          refine va_get (D := D) (ci := 5) (v := .ref (A 61)) (C := R_Mo) (T := T_Mo) (N := 3) hx hb hts wu_Mo hown hK hP 0 rfl rfl 0 (by decide) (hts _ wf_Mo_7) (fun _ h9 => h9) rfl d_Mo_make_207 ?_
          refine lv_sipush (v := 1549) hx hb d_Mo_make_210 (by decide) ?_
          refine lv_dup2_11 hx hb d_Mo_make_213 rfl rfl ?_
          obtain ⟨i9, h⟩ := zo_i h
          refine va_iald hx hb hK hP 1 0 rfl rfl i9 d_Mo_make_214 ?_
          refine lv_iconst (v := 1) hx hb d_Mo_make_215 (by decide) ?_
          refine lv_iadd hx hb d_Mo_make_216 ?_
          obtain ⟨i9, h⟩ := zo_i h
          obtain ⟨u42, hu9, h⟩ := zo_l h
          refine va_iast hx hb hK hP hD hS 1 0 rfl rfl i9 d_Mo_make_217 (fun H locs hP hD hS => ?_)
          replace hP : va_P D vwCl (MW A u42 r) H := by rw [hu9]; exact hP
          replace hD : va_D A9 (MW A u42 r) := by rw [hu9]; exact hD
          refine lv_aload_n hx hb d_Mo_make_218 rfl (lv_at hl 1 rfl) ?_
          refine va_get (D := D) (ci := 5) (v := .ref (A 61)) (C := R_Mo) (T := T_Mo) (N := 3) hx hb hts wu_Mo hown hK hP 0 rfl rfl 0 (by decide) (hts _ wf_Mo_7) (fun _ h9 => h9) rfl d_Mo_make_219 ?_
          refine lv_sipush (v := 1549) hx hb d_Mo_make_222 (by decide) ?_
          obtain ⟨i9, h⟩ := zo_i h
          refine va_iald hx hb hK hP 1 0 rfl rfl i9 d_Mo_make_225 ?_
          refine lv_istore (lv' := [(8, .int (gM_row u42 (1549 : Int32).toNatClampNeg)), (7, .int 1), (0, .ref (A 60)), (1, .int x1), (2, .int x2), (3, .int x3), (4, .int x4), (5, .int x5), (6, .int x6)]) hx hb d_Mo_make_226 hl (by decide) rfl (fun ls hl => ?_)
          refine lv_iconst (v := 0) hx hb d_Mo_make_228 (by decide) ?_
          refine lv_istore (lv' := [(9, .int 0), (8, .int (gM_row u42 (1549 : Int32).toNatClampNeg)), (7, .int 1), (0, .ref (A 60)), (1, .int x1), (2, .int x2), (3, .int x3), (4, .int x4), (5, .int x5), (6, .int x6)]) hx hb d_Mo_make_229 hl (by decide) rfl (fun ls hl => ?_)
          exact L231 100 u42 x1 x2 x3 x4 x5 x6 1 (gM_row u42 (1549 : Int32).toNatClampNeg) 0 _ _ _ h hP hD hS (lv_sub hl [3, 4, 5, 6, 7, 8, 9, 2, 1, 0] rfl)
        replace h := zo_f c41 h
        refine lv_aload_n hx hb d_Mo_make_200 rfl (lv_at hl 1 rfl) ?_
        refine lv_iconst (v := 4) hx hb d_Mo_make_201 (by decide) ?_
        obtain ⟨v56, e9, h⟩ := zo_b h
        refine ka_i (va_runV (As := [.int 4]) (rest := []) S9 (c_Mo_fail l hl9 D A r _ σ 4 _ e9) (cwV 1 hts (tg_V wl_Mo_51 wm_Mo_fail we_Mo_fail wi_Mo wo_Mo_fail) rfl rfl rfl wq_Mo_fail ⟨Nat.le_of_ble_eq_true rfl, Nat.le_of_ble_eq_true rfl⟩) (ka_preV X9 hP hD hS 0 rfl rfl) rfl rfl hl.1 rfl (lv_room (Nat.le_of_ble_eq_true rfl)) d_Mo_make_202 ⟨Nat.le_of_ble_eq_true rfl, Nat.le_of_ble_eq_true rfl⟩) X9 hD hS rfl (fun H locs hP hD hS => ?_)
        cases h
        exact W.iret hx hb hr (fun t ht hW => ⟨⟨_, (), rfl, rfl, ka_at ht hP⟩, hS.F ht⟩) hS.2.2 d_Mo_make_205 hlk
      replace h := zo_t c33 h
      refine lv_iload hx hb d_Mo_make_109 (lv_at hl 0 rfl) ?_
      refine lv_if_eq (tgt := 146) hx hb d_Mo_make_111 (by decide) (fun c9 => absurd c9 (by decide)) (fun _ => ?_)
      refine lv_aload_n hx hb d_Mo_make_114 rfl (lv_at hl 1 rfl) ?_
      refine lv_iload hx hb d_Mo_make_115 (lv_at hl 7 rfl) ?_
      refine lv_aload_n hx hb d_Mo_make_117 rfl (lv_at hl 1 rfl) ?_
      refine lv_iload_n hx hb d_Mo_make_118 rfl (lv_at hl 2 rfl) ?_
      refine lv_bipush (v := 6) hx hb d_Mo_make_119 (by decide) ?_
      obtain ⟨v57, e9, h⟩ := zo_b h
      refine ka_i (va_runV (As := [.int x1, .int 6]) (rest := [.int x6, .ref (A 60)]) S9 (c_Mo_at l hl9 D A r _ σ x1 6 _ e9) (cwV 2 hts (tg_V wl_Mo_32 wm_Mo_at we_Mo_at wi_Mo wo_Mo_at) rfl rfl rfl wq_Mo_at ⟨Nat.le_of_ble_eq_true rfl, Nat.le_of_ble_eq_true rfl⟩) (ka_preV X9 hP hD hS 0 rfl rfl) rfl rfl hl.1 rfl (lv_room (Nat.le_of_ble_eq_true rfl)) d_Mo_make_121 ⟨Nat.le_of_ble_eq_true rfl, Nat.le_of_ble_eq_true rfl⟩) X9 hD hS rfl (fun H locs hP hD hS => ?_)
      refine lv_iconst (v := 0) hx hb d_Mo_make_124 (by decide) ?_
      obtain ⟨v58, e9, h⟩ := zo_b h
      refine ka_i (va_runV (As := [.int x6, .int v57, .int 0]) (rest := []) S9 (c_Mo_under l hl9 D A r _ σ x6 v57 0 _ e9) (cwV 3 hts (tg_V wl_Mo_35 wm_Mo_under we_Mo_under wi_Mo wo_Mo_under) rfl rfl rfl wq_Mo_under ⟨Nat.le_of_ble_eq_true rfl, Nat.le_of_ble_eq_true rfl⟩) (ka_preV X9 hP hD hS 0 rfl rfl) rfl rfl hl.1 rfl (lv_room (Nat.le_of_ble_eq_true rfl)) d_Mo_make_125 ⟨Nat.le_of_ble_eq_true rfl, Nat.le_of_ble_eq_true rfl⟩) X9 hD hS rfl (fun H locs hP hD hS => ?_)
      refine lv_if_eq (tgt := 146) hx hb d_Mo_make_128 (by decide) (fun c59 => ?_) (fun c59 => ?_)
      · replace h := zo_t c59 h
        refine lv_iconst (v := 0) hx hb d_Mo_make_146 (by decide) ?_
        refine lv_istore (lv' := [(7, .int 0), (0, .ref (A 60)), (1, .int x1), (2, .int x2), (3, .int x3), (4, .int x4), (5, .int x5), (6, .int x6)]) hx hb d_Mo_make_147 hl (by decide) rfl (fun ls hl => ?_)
        refine lv_iload hx hb d_Mo_make_149 (lv_at hl 0 rfl) ?_
        refine lv_if_ne (tgt := 160) hx hb d_Mo_make_151 (by decide) (fun c9 => absurd (by decide) c9) (fun _ => ?_)
        refine lv_aload_n hx hb d_Mo_make_154 rfl (lv_at hl 1 rfl) ?_
        refine lv_iconst (v := 3) hx hb d_Mo_make_155 (by decide) ?_
        obtain ⟨v60, e9, h⟩ := zo_b h
        refine ka_i (va_runV (As := [.int 3]) (rest := []) S9 (c_Mo_fail l hl9 D A r _ σ 3 _ e9) (cwV 1 hts (tg_V wl_Mo_51 wm_Mo_fail we_Mo_fail wi_Mo wo_Mo_fail) rfl rfl rfl wq_Mo_fail ⟨Nat.le_of_ble_eq_true rfl, Nat.le_of_ble_eq_true rfl⟩) (ka_preV X9 hP hD hS 0 rfl rfl) rfl rfl hl.1 rfl (lv_room (Nat.le_of_ble_eq_true rfl)) d_Mo_make_156 ⟨Nat.le_of_ble_eq_true rfl, Nat.le_of_ble_eq_true rfl⟩) X9 hD hS rfl (fun H locs hP hD hS => ?_)
        cases h
        exact W.iret hx hb hr (fun t ht hW => ⟨⟨_, (), rfl, rfl, ka_at ht hP⟩, hS.F ht⟩) hS.2.2 d_Mo_make_159 hlk
      replace h := zo_f c59 h
      refine lv_aload_n hx hb d_Mo_make_131 rfl (lv_at hl 1 rfl) ?_
      refine lv_iload_n hx hb d_Mo_make_132 rfl (lv_at hl 4 rfl) ?_
      refine lv_iload hx hb d_Mo_make_133 (lv_at hl 7 rfl) ?_
      refine lv_iconst (v := 0) hx hb d_Mo_make_135 (by decide) ?_
      obtain ⟨v61, e9, h⟩ := zo_b h
      refine ka_i (va_runV (As := [.int x3, .int x6, .int 0]) (rest := []) S9 (c_Mo_under l hl9 D A r _ σ x3 x6 0 _ e9) (cwV 3 hts (tg_V wl_Mo_35 wm_Mo_under we_Mo_under wi_Mo wo_Mo_under) rfl rfl rfl wq_Mo_under ⟨Nat.le_of_ble_eq_true rfl, Nat.le_of_ble_eq_true rfl⟩) (ka_preV X9 hP hD hS 0 rfl rfl) rfl rfl hl.1 rfl (lv_room (Nat.le_of_ble_eq_true rfl)) d_Mo_make_136 ⟨Nat.le_of_ble_eq_true rfl, Nat.le_of_ble_eq_true rfl⟩) X9 hD hS rfl (fun H locs hP hD hS => ?_)
      refine lv_if_eq (tgt := 146) hx hb d_Mo_make_139 (by decide) (fun c62 => ?_) (fun c62 => ?_)
      · replace h := zo_t c62 h
        refine lv_iconst (v := 0) hx hb d_Mo_make_146 (by decide) ?_
        refine lv_istore (lv' := [(7, .int 0), (0, .ref (A 60)), (1, .int x1), (2, .int x2), (3, .int x3), (4, .int x4), (5, .int x5), (6, .int x6)]) hx hb d_Mo_make_147 hl (by decide) rfl (fun ls hl => ?_)
        refine lv_iload hx hb d_Mo_make_149 (lv_at hl 0 rfl) ?_
        refine lv_if_ne (tgt := 160) hx hb d_Mo_make_151 (by decide) (fun c9 => absurd (by decide) c9) (fun _ => ?_)
        refine lv_aload_n hx hb d_Mo_make_154 rfl (lv_at hl 1 rfl) ?_
        refine lv_iconst (v := 3) hx hb d_Mo_make_155 (by decide) ?_
        obtain ⟨v63, e9, h⟩ := zo_b h
        refine ka_i (va_runV (As := [.int 3]) (rest := []) S9 (c_Mo_fail l hl9 D A r _ σ 3 _ e9) (cwV 1 hts (tg_V wl_Mo_51 wm_Mo_fail we_Mo_fail wi_Mo wo_Mo_fail) rfl rfl rfl wq_Mo_fail ⟨Nat.le_of_ble_eq_true rfl, Nat.le_of_ble_eq_true rfl⟩) (ka_preV X9 hP hD hS 0 rfl rfl) rfl rfl hl.1 rfl (lv_room (Nat.le_of_ble_eq_true rfl)) d_Mo_make_156 ⟨Nat.le_of_ble_eq_true rfl, Nat.le_of_ble_eq_true rfl⟩) X9 hD hS rfl (fun H locs hP hD hS => ?_)
        cases h
        exact W.iret hx hb hr (fun t ht hW => ⟨⟨_, (), rfl, rfl, ka_at ht hP⟩, hS.F ht⟩) hS.2.2 d_Mo_make_159 hlk
      replace h := zo_f c62 h
      refine lv_iconst (v := 1) hx hb d_Mo_make_142 (by decide) ?_
      refine lv_goto (tgt := 147) hx hb d_Mo_make_143 (by decide) ?_
      refine lv_istore (lv' := [(7, .int 1), (0, .ref (A 60)), (1, .int x1), (2, .int x2), (3, .int x3), (4, .int x4), (5, .int x5), (6, .int x6)]) hx hb d_Mo_make_147 hl (by decide) rfl (fun ls hl => ?_)
      refine lv_iload hx hb d_Mo_make_149 (lv_at hl 0 rfl) ?_
      refine lv_if_ne (tgt := 160) hx hb d_Mo_make_151 (by decide) (fun _ => ?_) (fun c9 => absurd c9 (by decide))
      refine lv_aload_n hx hb d_Mo_make_160 rfl (lv_at hl 1 rfl) ?_
      refine lv_iload_n hx hb d_Mo_make_161 rfl (lv_at hl 3 rfl) ?_
      refine lv_iconst (v := 3) hx hb d_Mo_make_162 (by decide) ?_
      obtain ⟨v64, e9, h⟩ := zo_b h
      refine ka_i (va_runV (As := [.int x2, .int 3]) (rest := []) S9 (c_Mo_at l hl9 D A r _ σ x2 3 _ e9) (cwV 2 hts (tg_V wl_Mo_32 wm_Mo_at we_Mo_at wi_Mo wo_Mo_at) rfl rfl rfl wq_Mo_at ⟨Nat.le_of_ble_eq_true rfl, Nat.le_of_ble_eq_true rfl⟩) (ka_preV X9 hP hD hS 0 rfl rfl) rfl rfl hl.1 rfl (lv_room (Nat.le_of_ble_eq_true rfl)) d_Mo_make_163 ⟨Nat.le_of_ble_eq_true rfl, Nat.le_of_ble_eq_true rfl⟩) X9 hD hS rfl (fun H locs hP hD hS => ?_)
      refine lv_aload_n hx hb d_Mo_make_166 rfl (lv_at hl 1 rfl) ?_
      refine lv_iload_n hx hb d_Mo_make_167 rfl (lv_at hl 3 rfl) ?_
      obtain ⟨v65, e9, h⟩ := zo_b h
      refine ka_i (va_runV (As := [.int x2]) (rest := [.int v64]) S9 (c_Mo_use l hl9 D A r _ σ x2 _ e9) (cwV 1 hts (tg_V wl_Mo_75 wm_Mo_use we_Mo_use wi_Mo wo_Mo_use) rfl rfl rfl wq_Mo_use ⟨Nat.le_of_ble_eq_true rfl, Nat.le_of_ble_eq_true rfl⟩) (ka_preV X9 hP hD hS 0 rfl rfl) rfl rfl hl.1 rfl (lv_room (Nat.le_of_ble_eq_true rfl)) d_Mo_make_168 ⟨Nat.le_of_ble_eq_true rfl, Nat.le_of_ble_eq_true rfl⟩) X9 hD hS rfl (fun H locs hP hD hS => ?_)
      refine lv_iload hx hb d_Mo_make_171 (lv_at hl 5 rfl) ?_
      refine lv_iadd hx hb d_Mo_make_173 ?_
      refine lv_icmp_lt (tgt := 200) hx hb d_Mo_make_174 (by decide) (fun c66 => ?_) (fun c66 => ?_)
      · replace h := zo_t c66 h
        refine lv_aload_n hx hb d_Mo_make_200 rfl (lv_at hl 1 rfl) ?_
        refine lv_iconst (v := 4) hx hb d_Mo_make_201 (by decide) ?_
        obtain ⟨v67, e9, h⟩ := zo_b h
        refine ka_i (va_runV (As := [.int 4]) (rest := []) S9 (c_Mo_fail l hl9 D A r _ σ 4 _ e9) (cwV 1 hts (tg_V wl_Mo_51 wm_Mo_fail we_Mo_fail wi_Mo wo_Mo_fail) rfl rfl rfl wq_Mo_fail ⟨Nat.le_of_ble_eq_true rfl, Nat.le_of_ble_eq_true rfl⟩) (ka_preV X9 hP hD hS 0 rfl rfl) rfl rfl hl.1 rfl (lv_room (Nat.le_of_ble_eq_true rfl)) d_Mo_make_202 ⟨Nat.le_of_ble_eq_true rfl, Nat.le_of_ble_eq_true rfl⟩) X9 hD hS rfl (fun H locs hP hD hS => ?_)
        cases h
        exact W.iret hx hb hr (fun t ht hW => ⟨⟨_, (), rfl, rfl, ka_at ht hP⟩, hS.F ht⟩) hS.2.2 d_Mo_make_205 hlk
      replace h := zo_f c66 h
      refine lv_aload_n hx hb d_Mo_make_177 rfl (lv_at hl 1 rfl) ?_
      refine va_get (D := D) (ci := 5) (v := .ref (A 61)) (C := R_Mo) (T := T_Mo) (N := 3) hx hb hts wu_Mo hown hK hP 0 rfl rfl 0 (by decide) (hts _ wf_Mo_7) (fun _ h9 => h9) rfl d_Mo_make_178 ?_
      refine lv_sipush (v := 1549) hx hb d_Mo_make_181 (by decide) ?_
      obtain ⟨i9, h⟩ := zo_i h
      refine va_iald hx hb hK hP 1 0 rfl rfl i9 d_Mo_make_184 ?_
      refine lv_bipush (v := 60) hx hb d_Mo_make_185 (by decide) ?_
      refine lv_icmp_eq (tgt := 200) hx hb d_Mo_make_187 (by decide) (fun c68 => ?_) (fun c68 => ?_)
      · replace h := zo_t c68 h
        refine lv_aload_n hx hb d_Mo_make_200 rfl (lv_at hl 1 rfl) ?_
        refine lv_iconst (v := 4) hx hb d_Mo_make_201 (by decide) ?_
        obtain ⟨v69, e9, h⟩ := zo_b h
        refine ka_i (va_runV (As := [.int 4]) (rest := []) S9 (c_Mo_fail l hl9 D A r _ σ 4 _ e9) (cwV 1 hts (tg_V wl_Mo_51 wm_Mo_fail we_Mo_fail wi_Mo wo_Mo_fail) rfl rfl rfl wq_Mo_fail ⟨Nat.le_of_ble_eq_true rfl, Nat.le_of_ble_eq_true rfl⟩) (ka_preV X9 hP hD hS 0 rfl rfl) rfl rfl hl.1 rfl (lv_room (Nat.le_of_ble_eq_true rfl)) d_Mo_make_202 ⟨Nat.le_of_ble_eq_true rfl, Nat.le_of_ble_eq_true rfl⟩) X9 hD hS rfl (fun H locs hP hD hS => ?_)
        cases h
        exact W.iret hx hb hr (fun t ht hW => ⟨⟨_, (), rfl, rfl, ka_at ht hP⟩, hS.F ht⟩) hS.2.2 d_Mo_make_205 hlk
      replace h := zo_f c68 h
      refine lv_aload_n hx hb d_Mo_make_190 rfl (lv_at hl 1 rfl) ?_
      refine lv_iload_n hx hb d_Mo_make_191 rfl (lv_at hl 3 rfl) ?_
      obtain ⟨v70, e9, h⟩ := zo_b h
      refine ka_i (va_runV (As := [.int x2]) (rest := []) S9 (c_Mo_deep l hl9 D A r _ σ x2 _ e9) (cwV 1 hts (tg_V wl_Mo_78 wm_Mo_deep we_Mo_deep wi_Mo wo_Mo_deep) rfl rfl rfl wq_Mo_deep ⟨Nat.le_of_ble_eq_true rfl, Nat.le_of_ble_eq_true rfl⟩) (ka_preV X9 hP hD hS 0 rfl rfl) rfl rfl hl.1 rfl (lv_room (Nat.le_of_ble_eq_true rfl)) d_Mo_make_192 ⟨Nat.le_of_ble_eq_true rfl, Nat.le_of_ble_eq_true rfl⟩) X9 hD hS rfl (fun H locs hP hD hS => ?_)
      refine lv_bipush (v := 12) hx hb d_Mo_make_195 (by decide) ?_
      refine lv_icmp_lt (tgt := 206) hx hb d_Mo_make_197 (by decide) (fun c71 => ?_) (fun c71 => ?_)
      · replace h := zo_t c71 h
        refine lv_aload_n hx hb d_Mo_make_206 rfl (lv_at hl 1 rfl) ?_
        refine va_get (D := D) (ci := 5) (v := .ref (A 61)) (C := R_Mo) (T := T_Mo) (N := 3) hx hb hts wu_Mo hown hK hP 0 rfl rfl 0 (by decide) (hts _ wf_Mo_7) (fun _ h9 => h9) rfl d_Mo_make_207 ?_
        refine lv_sipush (v := 1549) hx hb d_Mo_make_210 (by decide) ?_
        refine lv_dup2_11 hx hb d_Mo_make_213 rfl rfl ?_
        obtain ⟨i9, h⟩ := zo_i h
        refine va_iald hx hb hK hP 1 0 rfl rfl i9 d_Mo_make_214 ?_
        refine lv_iconst (v := 1) hx hb d_Mo_make_215 (by decide) ?_
        refine lv_iadd hx hb d_Mo_make_216 ?_
        obtain ⟨i9, h⟩ := zo_i h
        obtain ⟨u72, hu9, h⟩ := zo_l h
        refine va_iast hx hb hK hP hD hS 1 0 rfl rfl i9 d_Mo_make_217 (fun H locs hP hD hS => ?_)
        replace hP : va_P D vwCl (MW A u72 r) H := by rw [hu9]; exact hP
        replace hD : va_D A9 (MW A u72 r) := by rw [hu9]; exact hD
        refine lv_aload_n hx hb d_Mo_make_218 rfl (lv_at hl 1 rfl) ?_
        refine va_get (D := D) (ci := 5) (v := .ref (A 61)) (C := R_Mo) (T := T_Mo) (N := 3) hx hb hts wu_Mo hown hK hP 0 rfl rfl 0 (by decide) (hts _ wf_Mo_7) (fun _ h9 => h9) rfl d_Mo_make_219 ?_
        refine lv_sipush (v := 1549) hx hb d_Mo_make_222 (by decide) ?_
        obtain ⟨i9, h⟩ := zo_i h
        refine va_iald hx hb hK hP 1 0 rfl rfl i9 d_Mo_make_225 ?_
        refine lv_istore (lv' := [(8, .int (gM_row u72 (1549 : Int32).toNatClampNeg)), (7, .int 1), (0, .ref (A 60)), (1, .int x1), (2, .int x2), (3, .int x3), (4, .int x4), (5, .int x5), (6, .int x6)]) hx hb d_Mo_make_226 hl (by decide) rfl (fun ls hl => ?_)
        refine lv_iconst (v := 0) hx hb d_Mo_make_228 (by decide) ?_
        refine lv_istore (lv' := [(9, .int 0), (8, .int (gM_row u72 (1549 : Int32).toNatClampNeg)), (7, .int 1), (0, .ref (A 60)), (1, .int x1), (2, .int x2), (3, .int x3), (4, .int x4), (5, .int x5), (6, .int x6)]) hx hb d_Mo_make_229 hl (by decide) rfl (fun ls hl => ?_)
        exact L231 100 u72 x1 x2 x3 x4 x5 x6 1 (gM_row u72 (1549 : Int32).toNatClampNeg) 0 _ _ _ h hP hD hS (lv_sub hl [3, 4, 5, 6, 7, 8, 9, 2, 1, 0] rfl)
      replace h := zo_f c71 h
      refine lv_aload_n hx hb d_Mo_make_200 rfl (lv_at hl 1 rfl) ?_
      refine lv_iconst (v := 4) hx hb d_Mo_make_201 (by decide) ?_
      obtain ⟨v73, e9, h⟩ := zo_b h
      refine ka_i (va_runV (As := [.int 4]) (rest := []) S9 (c_Mo_fail l hl9 D A r _ σ 4 _ e9) (cwV 1 hts (tg_V wl_Mo_51 wm_Mo_fail we_Mo_fail wi_Mo wo_Mo_fail) rfl rfl rfl wq_Mo_fail ⟨Nat.le_of_ble_eq_true rfl, Nat.le_of_ble_eq_true rfl⟩) (ka_preV X9 hP hD hS 0 rfl rfl) rfl rfl hl.1 rfl (lv_room (Nat.le_of_ble_eq_true rfl)) d_Mo_make_202 ⟨Nat.le_of_ble_eq_true rfl, Nat.le_of_ble_eq_true rfl⟩) X9 hD hS rfl (fun H locs hP hD hS => ?_)
      cases h
      exact W.iret hx hb hr (fun t ht hW => ⟨⟨_, (), rfl, rfl, ka_at ht hP⟩, hS.F ht⟩) hS.2.2 d_Mo_make_205 hlk
    replace h := zo_f c10 h
    refine lv_aload_n hx hb d_Mo_make_41 rfl (lv_at hl 0 rfl) ?_
    refine lv_iconst (v := 1) hx hb d_Mo_make_42 (by decide) ?_
    obtain ⟨v74, e9, h⟩ := zo_b h
    refine ka_i (va_runV (As := [.int 1]) (rest := []) S9 (c_Mo_fail l hl9 D A r _ σ 1 _ e9) (cwV 1 hts (tg_V wl_Mo_51 wm_Mo_fail we_Mo_fail wi_Mo wo_Mo_fail) rfl rfl rfl wq_Mo_fail ⟨Nat.le_of_ble_eq_true rfl, Nat.le_of_ble_eq_true rfl⟩) (ka_preV X9 hP hD hS 0 rfl rfl) rfl rfl hl.1 rfl (lv_room (Nat.le_of_ble_eq_true rfl)) d_Mo_make_43 ⟨Nat.le_of_ble_eq_true rfl, Nat.le_of_ble_eq_true rfl⟩) X9 hD hS rfl (fun H locs hP hD hS => ?_)
    cases h
    exact W.iret hx hb hr (fun t ht hW => ⟨⟨_, (), rfl, rfl, ka_at ht hP⟩, hS.F ht⟩) hS.2.2 d_Mo_make_46 hlk
  replace h := zo_t c5 h
  refine lv_aload_n hx hb d_Mo_make_16 rfl (lv_at hl 0 rfl) ?_
  refine lv_iconst (v := 2) hx hb d_Mo_make_17 (by decide) ?_
  obtain ⟨v75, e9, h⟩ := zo_b h
  refine ka_i (va_runV (As := [.int 2]) (rest := []) S9 (c_Mo_fail l hl9 D A r _ σ 2 _ e9) (cwV 1 hts (tg_V wl_Mo_51 wm_Mo_fail we_Mo_fail wi_Mo wo_Mo_fail) rfl rfl rfl wq_Mo_fail ⟨Nat.le_of_ble_eq_true rfl, Nat.le_of_ble_eq_true rfl⟩) (ka_preV X9 hP hD hS 0 rfl rfl) rfl rfl hl.1 rfl (lv_room (Nat.le_of_ble_eq_true rfl)) d_Mo_make_18 ⟨Nat.le_of_ble_eq_true rfl, Nat.le_of_ble_eq_true rfl⟩) X9 hD hS rfl (fun H locs hP hD hS => ?_)
  cases h
  exact W.iret hx hb hr (fun t ht hW => ⟨⟨_, (), rfl, rfl, ka_at ht hP⟩, hS.F ht⟩) hS.2.2 d_Mo_make_21 hlk
def f_Mo_makeContainer (σ : RS) (x1 x2 x3 x4 : Int32) : Option (Int32 × RS) := (f_Mo_isLabel σ x3).bind fun v1 => if v1 = 0 then ((f_Mo_fail σ 1).bind fun v3 => some (v3.1, v3.2)) else ((f_Mo_within x4 1 200).bind fun v4 => if v4 = 0 then ((f_Mo_fail σ 1).bind fun v6 => some (v6.1, v6.2)) else ((f_Mo_starless σ x3).bind fun v7 => if v7 = 0 then ((f_Mo_fail σ 1).bind fun v10 => some (v10.1, v10.2)) else ((f_Mo_make σ x1 x2 x3 x4 0 0).bind fun v9 => some (v9.1, v9.2))))
set_option maxRecDepth 100000 in
set_option maxHeartbeats 4000000 in
theorem c_Mo_makeContainer (l : Launch) (hl9 : l.stackTraces = false) (D : va_G) (A : Nat → Nat) (r : va_W) (sz : Nat) (σ : RS) (x1 x2 x3 x4 : Int32) (z : Int32 × RS) (h : f_Mo_makeContainer σ x1 x2 x3 x4 = some z) : Met l y_Mo_makeContainer (Cond.code y_Mo_makeContainer b_Mo_makeContainer 5 (some .int) :: T0) ({ frames := 5, cells := 0, slots := 0, locals := 120 } : Room) (va_Pc [.ref (A 60), .int x1, .int x2, .int x3, .int x4] (ka_Wd D A (MW A σ r) sz)) (ka_Ri D z.1 (MW A z.2 r) (va_A (MW A σ r) sz)) 0 0 (va_A (MW A σ r) sz) := by
  unfold f_Mo_makeContainer at h
  refine ka_of (own := R_Mo) (fun A9 => ka_Ri D z.1 (MW A z.2 r) A9) (by decide) rfl (Nat.le_of_ble_eq_true rfl) ?_
  intro p e s m below meth c A9 ls S9 hr hlk hex X9 hP hD hl
  obtain ⟨hx, hb, hml, hown, hts⟩ := id S9
  have hK := X9.2.1
  have hS : va_S A9 s.heap s.heap [] := va_S.rf
  replace hl : lv_has ls 5 [(0, .ref (A 60)), (1, .int x1), (2, .int x2), (3, .int x3), (4, .int x4)] := hl
  refine lv_aload_n hx hb d_Mo_makeContainer_0 rfl (lv_at hl 0 rfl) ?_
  refine lv_iload_n hx hb d_Mo_makeContainer_1 rfl (lv_at hl 3 rfl) ?_
  obtain ⟨v1, e9, h⟩ := zo_b h
  refine ka_i (va_runV (As := [.int x3]) (rest := []) S9 (c_Mo_isLabel l hl9 D A r _ σ x3 _ e9) (cwV 1 hts (tg_V wl_Mo_54 wm_Mo_isLabel we_Mo_isLabel wi_Mo wo_Mo_isLabel) rfl rfl rfl wq_Mo_isLabel ⟨Nat.le_of_ble_eq_true rfl, Nat.le_of_ble_eq_true rfl⟩) (ka_preV X9 hP hD hS 0 rfl rfl) rfl rfl hl.1 rfl (lv_room (Nat.le_of_ble_eq_true rfl)) d_Mo_makeContainer_2 ⟨Nat.le_of_ble_eq_true rfl, Nat.le_of_ble_eq_true rfl⟩) X9 hD hS rfl (fun H locs hP hD hS => ?_)
  refine lv_if_eq (tgt := 28) hx hb d_Mo_makeContainer_5 (by decide) (fun c2 => ?_) (fun c2 => ?_)
  · replace h := zo_t c2 h
    refine lv_aload_n hx hb d_Mo_makeContainer_28 rfl (lv_at hl 0 rfl) ?_
    refine lv_iconst (v := 1) hx hb d_Mo_makeContainer_29 (by decide) ?_
    obtain ⟨v3, e9, h⟩ := zo_b h
    refine ka_i (va_runV (As := [.int 1]) (rest := []) S9 (c_Mo_fail l hl9 D A r _ σ 1 _ e9) (cwV 1 hts (tg_V wl_Mo_51 wm_Mo_fail we_Mo_fail wi_Mo wo_Mo_fail) rfl rfl rfl wq_Mo_fail ⟨Nat.le_of_ble_eq_true rfl, Nat.le_of_ble_eq_true rfl⟩) (ka_preV X9 hP hD hS 0 rfl rfl) rfl rfl hl.1 rfl (lv_room (Nat.le_of_ble_eq_true rfl)) d_Mo_makeContainer_30 ⟨Nat.le_of_ble_eq_true rfl, Nat.le_of_ble_eq_true rfl⟩) X9 hD hS rfl (fun H locs hP hD hS => ?_)
    cases h
    exact W.iret hx hb hr (fun t ht hW => ⟨⟨_, (), rfl, rfl, ka_at ht hP⟩, hS.F ht⟩) hS.2.2 d_Mo_makeContainer_33 hlk
  replace h := zo_f c2 h
  refine lv_iload hx hb d_Mo_makeContainer_8 (lv_at hl 4 rfl) ?_
  refine lv_iconst (v := 1) hx hb d_Mo_makeContainer_10 (by decide) ?_
  refine lv_sipush (v := 200) hx hb d_Mo_makeContainer_11 (by decide) ?_
  obtain ⟨v4, e9, h⟩ := zo_b h
  refine ka_i (va_runS (As := [.int x4, .int 1, .int 200]) (rest := []) S9 (c_Mo_within l hl9 D A (MW A σ r) _ x4 1 200 _ e9) (cwS 3 hts (tg_S wl_Mo_28 ws_Mo_within wi_Mo wo_Mo_within) rfl rfl rfl wq_Mo_within ⟨Nat.le_of_ble_eq_true rfl, Nat.le_of_ble_eq_true rfl⟩) (ka_preS X9 hP hD hS) rfl rfl hl.1 rfl (lv_room (Nat.le_of_ble_eq_true rfl)) d_Mo_makeContainer_14 ⟨Nat.le_of_ble_eq_true rfl, Nat.le_of_ble_eq_true rfl⟩) X9 hD hS rfl (fun H locs hP hD hS => ?_)
  refine lv_if_eq (tgt := 28) hx hb d_Mo_makeContainer_17 (by decide) (fun c5 => ?_) (fun c5 => ?_)
  · replace h := zo_t c5 h
    refine lv_aload_n hx hb d_Mo_makeContainer_28 rfl (lv_at hl 0 rfl) ?_
    refine lv_iconst (v := 1) hx hb d_Mo_makeContainer_29 (by decide) ?_
    obtain ⟨v6, e9, h⟩ := zo_b h
    refine ka_i (va_runV (As := [.int 1]) (rest := []) S9 (c_Mo_fail l hl9 D A r _ σ 1 _ e9) (cwV 1 hts (tg_V wl_Mo_51 wm_Mo_fail we_Mo_fail wi_Mo wo_Mo_fail) rfl rfl rfl wq_Mo_fail ⟨Nat.le_of_ble_eq_true rfl, Nat.le_of_ble_eq_true rfl⟩) (ka_preV X9 hP hD hS 0 rfl rfl) rfl rfl hl.1 rfl (lv_room (Nat.le_of_ble_eq_true rfl)) d_Mo_makeContainer_30 ⟨Nat.le_of_ble_eq_true rfl, Nat.le_of_ble_eq_true rfl⟩) X9 hD hS rfl (fun H locs hP hD hS => ?_)
    cases h
    exact W.iret hx hb hr (fun t ht hW => ⟨⟨_, (), rfl, rfl, ka_at ht hP⟩, hS.F ht⟩) hS.2.2 d_Mo_makeContainer_33 hlk
  replace h := zo_f c5 h
  refine lv_aload_n hx hb d_Mo_makeContainer_20 rfl (lv_at hl 0 rfl) ?_
  refine lv_iload_n hx hb d_Mo_makeContainer_21 rfl (lv_at hl 3 rfl) ?_
  obtain ⟨v7, e9, h⟩ := zo_b h
  refine ka_i (va_runV (As := [.int x3]) (rest := []) S9 (c_Mo_starless l hl9 D A r _ σ x3 _ e9) (cwV 1 hts (tg_V wl_Mo_81 wm_Mo_starless we_Mo_starless wi_Mo wo_Mo_starless) rfl rfl rfl wq_Mo_starless ⟨Nat.le_of_ble_eq_true rfl, Nat.le_of_ble_eq_true rfl⟩) (ka_preV X9 hP hD hS 0 rfl rfl) rfl rfl hl.1 rfl (lv_room (Nat.le_of_ble_eq_true rfl)) d_Mo_makeContainer_22 ⟨Nat.le_of_ble_eq_true rfl, Nat.le_of_ble_eq_true rfl⟩) X9 hD hS rfl (fun H locs hP hD hS => ?_)
  refine lv_if_ne (tgt := 34) hx hb d_Mo_makeContainer_25 (by decide) (fun c8 => ?_) (fun c8 => ?_)
  · replace h := zo_f c8 h
    refine lv_aload_n hx hb d_Mo_makeContainer_34 rfl (lv_at hl 0 rfl) ?_
    refine lv_iload_n hx hb d_Mo_makeContainer_35 rfl (lv_at hl 1 rfl) ?_
    refine lv_iload_n hx hb d_Mo_makeContainer_36 rfl (lv_at hl 2 rfl) ?_
    refine lv_iload_n hx hb d_Mo_makeContainer_37 rfl (lv_at hl 3 rfl) ?_
    refine lv_iload hx hb d_Mo_makeContainer_38 (lv_at hl 4 rfl) ?_
    refine lv_iconst (v := 0) hx hb d_Mo_makeContainer_40 (by decide) ?_
    refine lv_iconst (v := 0) hx hb d_Mo_makeContainer_41 (by decide) ?_
    obtain ⟨v9, e9, h⟩ := zo_b h
    refine ka_i (va_runV (As := [.int x1, .int x2, .int x3, .int x4, .int 0, .int 0]) (rest := []) S9 (c_Mo_make l hl9 D A r _ σ x1 x2 x3 x4 0 0 _ e9) (cwV 6 hts (tg_V wl_Mo_84 wm_Mo_make we_Mo_make wi_Mo wo_Mo_make) rfl rfl rfl wq_Mo_make ⟨Nat.le_of_ble_eq_true rfl, Nat.le_of_ble_eq_true rfl⟩) (ka_preV X9 hP hD hS 0 rfl rfl) rfl rfl hl.1 rfl (lv_room (Nat.le_of_ble_eq_true rfl)) d_Mo_makeContainer_42 ⟨Nat.le_of_ble_eq_true rfl, Nat.le_of_ble_eq_true rfl⟩) X9 hD hS rfl (fun H locs hP hD hS => ?_)
    cases h
    exact W.iret hx hb hr (fun t ht hW => ⟨⟨_, (), rfl, rfl, ka_at ht hP⟩, hS.F ht⟩) hS.2.2 d_Mo_makeContainer_45 hlk
  replace h := zo_t c8 h
  refine lv_aload_n hx hb d_Mo_makeContainer_28 rfl (lv_at hl 0 rfl) ?_
  refine lv_iconst (v := 1) hx hb d_Mo_makeContainer_29 (by decide) ?_
  obtain ⟨v10, e9, h⟩ := zo_b h
  refine ka_i (va_runV (As := [.int 1]) (rest := []) S9 (c_Mo_fail l hl9 D A r _ σ 1 _ e9) (cwV 1 hts (tg_V wl_Mo_51 wm_Mo_fail we_Mo_fail wi_Mo wo_Mo_fail) rfl rfl rfl wq_Mo_fail ⟨Nat.le_of_ble_eq_true rfl, Nat.le_of_ble_eq_true rfl⟩) (ka_preV X9 hP hD hS 0 rfl rfl) rfl rfl hl.1 rfl (lv_room (Nat.le_of_ble_eq_true rfl)) d_Mo_makeContainer_30 ⟨Nat.le_of_ble_eq_true rfl, Nat.le_of_ble_eq_true rfl⟩) X9 hD hS rfl (fun H locs hP hD hS => ?_)
  cases h
  exact W.iret hx hb hr (fun t ht hW => ⟨⟨_, (), rfl, rfl, ka_at ht hP⟩, hS.F ht⟩) hS.2.2 d_Mo_makeContainer_33 hlk
def f_Mo_container (σ : RS) (x1 x2 x3 x4 : Int32) : Option (Int32 × RS) := zl (sM_code σ 0) fun u1 => (f_Mo_makeContainer u1 x1 x2 x3 x4).bind fun v2 => some (v2.1, v2.2)
set_option maxRecDepth 100000 in
set_option maxHeartbeats 4000000 in
theorem c_Mo_container (l : Launch) (hl9 : l.stackTraces = false) (D : va_G) (A : Nat → Nat) (r : va_W) (sz : Nat) (σ : RS) (x1 x2 x3 x4 : Int32) (z : Int32 × RS) (h : f_Mo_container σ x1 x2 x3 x4 = some z) : Met l y_Mo_container (Cond.code y_Mo_container b_Mo_container 5 (some .int) :: T0) ({ frames := 6, cells := 0, slots := 0, locals := 144 } : Room) (va_Pc [.ref (A 60), .int x1, .int x2, .int x3, .int x4] (ka_Wd D A (MW A σ r) sz)) (ka_Ri D z.1 (MW A z.2 r) (va_A (MW A σ r) sz)) 0 0 (va_A (MW A σ r) sz) := by
  unfold f_Mo_container at h
  refine ka_of (own := R_Mo) (fun A9 => ka_Ri D z.1 (MW A z.2 r) A9) (by decide) rfl (Nat.le_of_ble_eq_true rfl) ?_
  intro p e s m below meth c A9 ls S9 hr hlk hex X9 hP hD hl
  obtain ⟨hx, hb, hml, hown, hts⟩ := id S9
  have hK := X9.2.1
  have hS : va_S A9 s.heap s.heap [] := va_S.rf
  replace hl : lv_has ls 5 [(0, .ref (A 60)), (1, .int x1), (2, .int x2), (3, .int x3), (4, .int x4)] := hl
  refine lv_aload_n hx hb d_Mo_container_0 rfl (lv_at hl 0 rfl) ?_
  refine lv_iconst (v := 0) hx hb d_Mo_container_1 (by decide) ?_
  obtain ⟨u1, hu9, h⟩ := zo_l h
  refine va_put (D := D) (ci := 5) (v := .int 0) (ty := .int) (C := R_Mo) (T := T_Mo) (N := 3) hx hb hts wu_Mo ft_Mo fk_Mo nm_Mo hown hK hP hD hS 0 rfl rfl 2 (by decide) (hts _ wf_Mo_16) (fun _ h9 => h9) rfl (by decide +kernel) rfl rfl (Nat.le_of_ble_eq_true rfl) d_Mo_container_2 (fun H locs hP hD hS => ?_)
  replace hP : va_P D vwCl (MW A u1 r) H := by rw [hu9]; exact hP
  replace hD : va_D A9 (MW A u1 r) := by rw [hu9]; exact hD
  refine lv_aload_n hx hb d_Mo_container_5 rfl (lv_at hl 0 rfl) ?_
  refine lv_iload_n hx hb d_Mo_container_6 rfl (lv_at hl 1 rfl) ?_
  refine lv_iload_n hx hb d_Mo_container_7 rfl (lv_at hl 2 rfl) ?_
  refine lv_iload_n hx hb d_Mo_container_8 rfl (lv_at hl 3 rfl) ?_
  refine lv_iload hx hb d_Mo_container_9 (lv_at hl 4 rfl) ?_
  obtain ⟨v2, e9, h⟩ := zo_b h
  refine ka_i (va_runV (As := [.int x1, .int x2, .int x3, .int x4]) (rest := []) S9 (c_Mo_makeContainer l hl9 D A r _ u1 x1 x2 x3 x4 _ e9) (cwV 4 hts (tg_V wl_Mo_88 wm_Mo_makeContainer we_Mo_makeContainer wi_Mo wo_Mo_makeContainer) rfl rfl rfl wq_Mo_makeContainer ⟨Nat.le_of_ble_eq_true rfl, Nat.le_of_ble_eq_true rfl⟩) (ka_preV X9 hP hD hS 0 rfl rfl) rfl rfl hl.1 rfl (lv_room (Nat.le_of_ble_eq_true rfl)) d_Mo_container_11 ⟨Nat.le_of_ble_eq_true rfl, Nat.le_of_ble_eq_true rfl⟩) X9 hD hS rfl (fun H locs hP hD hS => ?_)
  cases h
  exact W.iret hx hb hr (fun t ht hW => ⟨⟨_, (), rfl, rfl, ka_at ht hP⟩, hS.F ht⟩) hS.2.2 d_Mo_container_14 hlk
def f_Mo_makeSegment (σ : RS) (x1 x2 x3 x4 : Int32) : Option (Int32 × RS) := (f_Mo_isLabel σ x3).bind fun v1 => if v1 = 0 then ((f_Mo_fail σ 1).bind fun v3 => some (v3.1, v3.2)) else ((f_Mo_within x4 1 8).bind fun v4 => if v4 = 0 then ((f_Mo_fail σ 1).bind fun v6 => some (v6.1, v6.2)) else ((f_Mo_starless σ x3).bind fun v7 => if v7 = 0 then ((f_Mo_fail σ 1).bind fun v12 => some (v12.1, v12.2)) else ((f_Mo_make σ x1 x2 x3 (1 + x4) 1 0).bind fun v9 => if v9.1 ≤ 0 then (some (v9.1, v9.2)) else (if ((17 * v9.1) + 8) < 0 ∨ 1552 ≤ ((17 * v9.1) + 8).toNatClampNeg then none else zl (sM_row v9.2 (upd (gM_row v9.2) ((17 * v9.1) + 8).toNatClampNeg x4)) fun u11 => some (v9.1, u11)))))
set_option maxRecDepth 100000 in
set_option maxHeartbeats 4000000 in
theorem c_Mo_makeSegment (l : Launch) (hl9 : l.stackTraces = false) (D : va_G) (A : Nat → Nat) (r : va_W) (sz : Nat) (σ : RS) (x1 x2 x3 x4 : Int32) (z : Int32 × RS) (h : f_Mo_makeSegment σ x1 x2 x3 x4 = some z) : Met l y_Mo_makeSegment (Cond.code y_Mo_makeSegment b_Mo_makeSegment 6 (some .int) :: T0) ({ frames := 5, cells := 0, slots := 0, locals := 120 } : Room) (va_Pc [.ref (A 60), .int x1, .int x2, .int x3, .int x4] (ka_Wd D A (MW A σ r) sz)) (ka_Ri D z.1 (MW A z.2 r) (va_A (MW A σ r) sz)) 0 0 (va_A (MW A σ r) sz) := by
  unfold f_Mo_makeSegment at h
  refine ka_of (own := R_Mo) (fun A9 => ka_Ri D z.1 (MW A z.2 r) A9) (by decide) rfl (Nat.le_of_ble_eq_true rfl) ?_
  intro p e s m below meth c A9 ls S9 hr hlk hex X9 hP hD hl
  obtain ⟨hx, hb, hml, hown, hts⟩ := id S9
  have hK := X9.2.1
  have hS : va_S A9 s.heap s.heap [] := va_S.rf
  replace hl : lv_has ls 6 [(0, .ref (A 60)), (1, .int x1), (2, .int x2), (3, .int x3), (4, .int x4)] := hl
  refine lv_aload_n hx hb d_Mo_makeSegment_0 rfl (lv_at hl 0 rfl) ?_
  refine lv_iload_n hx hb d_Mo_makeSegment_1 rfl (lv_at hl 3 rfl) ?_
  obtain ⟨v1, e9, h⟩ := zo_b h
  refine ka_i (va_runV (As := [.int x3]) (rest := []) S9 (c_Mo_isLabel l hl9 D A r _ σ x3 _ e9) (cwV 1 hts (tg_V wl_Mo_54 wm_Mo_isLabel we_Mo_isLabel wi_Mo wo_Mo_isLabel) rfl rfl rfl wq_Mo_isLabel ⟨Nat.le_of_ble_eq_true rfl, Nat.le_of_ble_eq_true rfl⟩) (ka_preV X9 hP hD hS 0 rfl rfl) rfl rfl hl.1 rfl (lv_room (Nat.le_of_ble_eq_true rfl)) d_Mo_makeSegment_2 ⟨Nat.le_of_ble_eq_true rfl, Nat.le_of_ble_eq_true rfl⟩) X9 hD hS rfl (fun H locs hP hD hS => ?_)
  refine lv_if_eq (tgt := 27) hx hb d_Mo_makeSegment_5 (by decide) (fun c2 => ?_) (fun c2 => ?_)
  · replace h := zo_t c2 h
    refine lv_aload_n hx hb d_Mo_makeSegment_27 rfl (lv_at hl 0 rfl) ?_
    refine lv_iconst (v := 1) hx hb d_Mo_makeSegment_28 (by decide) ?_
    obtain ⟨v3, e9, h⟩ := zo_b h
    refine ka_i (va_runV (As := [.int 1]) (rest := []) S9 (c_Mo_fail l hl9 D A r _ σ 1 _ e9) (cwV 1 hts (tg_V wl_Mo_51 wm_Mo_fail we_Mo_fail wi_Mo wo_Mo_fail) rfl rfl rfl wq_Mo_fail ⟨Nat.le_of_ble_eq_true rfl, Nat.le_of_ble_eq_true rfl⟩) (ka_preV X9 hP hD hS 0 rfl rfl) rfl rfl hl.1 rfl (lv_room (Nat.le_of_ble_eq_true rfl)) d_Mo_makeSegment_29 ⟨Nat.le_of_ble_eq_true rfl, Nat.le_of_ble_eq_true rfl⟩) X9 hD hS rfl (fun H locs hP hD hS => ?_)
    cases h
    exact W.iret hx hb hr (fun t ht hW => ⟨⟨_, (), rfl, rfl, ka_at ht hP⟩, hS.F ht⟩) hS.2.2 d_Mo_makeSegment_32 hlk
  replace h := zo_f c2 h
  refine lv_iload hx hb d_Mo_makeSegment_8 (lv_at hl 4 rfl) ?_
  refine lv_iconst (v := 1) hx hb d_Mo_makeSegment_10 (by decide) ?_
  refine lv_bipush (v := 8) hx hb d_Mo_makeSegment_11 (by decide) ?_
  obtain ⟨v4, e9, h⟩ := zo_b h
  refine ka_i (va_runS (As := [.int x4, .int 1, .int 8]) (rest := []) S9 (c_Mo_within l hl9 D A (MW A σ r) _ x4 1 8 _ e9) (cwS 3 hts (tg_S wl_Mo_28 ws_Mo_within wi_Mo wo_Mo_within) rfl rfl rfl wq_Mo_within ⟨Nat.le_of_ble_eq_true rfl, Nat.le_of_ble_eq_true rfl⟩) (ka_preS X9 hP hD hS) rfl rfl hl.1 rfl (lv_room (Nat.le_of_ble_eq_true rfl)) d_Mo_makeSegment_13 ⟨Nat.le_of_ble_eq_true rfl, Nat.le_of_ble_eq_true rfl⟩) X9 hD hS rfl (fun H locs hP hD hS => ?_)
  refine lv_if_eq (tgt := 27) hx hb d_Mo_makeSegment_16 (by decide) (fun c5 => ?_) (fun c5 => ?_)
  · replace h := zo_t c5 h
    refine lv_aload_n hx hb d_Mo_makeSegment_27 rfl (lv_at hl 0 rfl) ?_
    refine lv_iconst (v := 1) hx hb d_Mo_makeSegment_28 (by decide) ?_
    obtain ⟨v6, e9, h⟩ := zo_b h
    refine ka_i (va_runV (As := [.int 1]) (rest := []) S9 (c_Mo_fail l hl9 D A r _ σ 1 _ e9) (cwV 1 hts (tg_V wl_Mo_51 wm_Mo_fail we_Mo_fail wi_Mo wo_Mo_fail) rfl rfl rfl wq_Mo_fail ⟨Nat.le_of_ble_eq_true rfl, Nat.le_of_ble_eq_true rfl⟩) (ka_preV X9 hP hD hS 0 rfl rfl) rfl rfl hl.1 rfl (lv_room (Nat.le_of_ble_eq_true rfl)) d_Mo_makeSegment_29 ⟨Nat.le_of_ble_eq_true rfl, Nat.le_of_ble_eq_true rfl⟩) X9 hD hS rfl (fun H locs hP hD hS => ?_)
    cases h
    exact W.iret hx hb hr (fun t ht hW => ⟨⟨_, (), rfl, rfl, ka_at ht hP⟩, hS.F ht⟩) hS.2.2 d_Mo_makeSegment_32 hlk
  replace h := zo_f c5 h
  refine lv_aload_n hx hb d_Mo_makeSegment_19 rfl (lv_at hl 0 rfl) ?_
  refine lv_iload_n hx hb d_Mo_makeSegment_20 rfl (lv_at hl 3 rfl) ?_
  obtain ⟨v7, e9, h⟩ := zo_b h
  refine ka_i (va_runV (As := [.int x3]) (rest := []) S9 (c_Mo_starless l hl9 D A r _ σ x3 _ e9) (cwV 1 hts (tg_V wl_Mo_81 wm_Mo_starless we_Mo_starless wi_Mo wo_Mo_starless) rfl rfl rfl wq_Mo_starless ⟨Nat.le_of_ble_eq_true rfl, Nat.le_of_ble_eq_true rfl⟩) (ka_preV X9 hP hD hS 0 rfl rfl) rfl rfl hl.1 rfl (lv_room (Nat.le_of_ble_eq_true rfl)) d_Mo_makeSegment_21 ⟨Nat.le_of_ble_eq_true rfl, Nat.le_of_ble_eq_true rfl⟩) X9 hD hS rfl (fun H locs hP hD hS => ?_)
  refine lv_if_ne (tgt := 33) hx hb d_Mo_makeSegment_24 (by decide) (fun c8 => ?_) (fun c8 => ?_)
  · replace h := zo_f c8 h
    refine lv_aload_n hx hb d_Mo_makeSegment_33 rfl (lv_at hl 0 rfl) ?_
    refine lv_iload_n hx hb d_Mo_makeSegment_34 rfl (lv_at hl 1 rfl) ?_
    refine lv_iload_n hx hb d_Mo_makeSegment_35 rfl (lv_at hl 2 rfl) ?_
    refine lv_iload_n hx hb d_Mo_makeSegment_36 rfl (lv_at hl 3 rfl) ?_
    refine lv_iconst (v := 1) hx hb d_Mo_makeSegment_37 (by decide) ?_
    refine lv_iload hx hb d_Mo_makeSegment_38 (lv_at hl 4 rfl) ?_
    refine lv_iadd hx hb d_Mo_makeSegment_40 ?_
    refine lv_iconst (v := 1) hx hb d_Mo_makeSegment_41 (by decide) ?_
    refine lv_iconst (v := 0) hx hb d_Mo_makeSegment_42 (by decide) ?_
    obtain ⟨v9, e9, h⟩ := zo_b h
    refine ka_i (va_runV (As := [.int x1, .int x2, .int x3, .int (1 + x4), .int 1, .int 0]) (rest := []) S9 (c_Mo_make l hl9 D A r _ σ x1 x2 x3 (1 + x4) 1 0 _ e9) (cwV 6 hts (tg_V wl_Mo_84 wm_Mo_make we_Mo_make wi_Mo wo_Mo_make) rfl rfl rfl wq_Mo_make ⟨Nat.le_of_ble_eq_true rfl, Nat.le_of_ble_eq_true rfl⟩) (ka_preV X9 hP hD hS 0 rfl rfl) rfl rfl hl.1 rfl (lv_room (Nat.le_of_ble_eq_true rfl)) d_Mo_makeSegment_43 ⟨Nat.le_of_ble_eq_true rfl, Nat.le_of_ble_eq_true rfl⟩) X9 hD hS rfl (fun H locs hP hD hS => ?_)
    refine lv_istore (lv' := [(5, .int v9.1), (0, .ref (A 60)), (1, .int x1), (2, .int x2), (3, .int x3), (4, .int x4)]) hx hb d_Mo_makeSegment_46 hl (by decide) rfl (fun ls hl => ?_)
    refine lv_iload hx hb d_Mo_makeSegment_48 (lv_at hl 0 rfl) ?_
    refine lv_if_le (tgt := 68) hx hb d_Mo_makeSegment_50 (by decide) (fun c10 => ?_) (fun c10 => ?_)
    · replace h := zo_t c10 h
      refine lv_iload hx hb d_Mo_makeSegment_68 (lv_at hl 0 rfl) ?_
      cases h
      exact W.iret hx hb hr (fun t ht hW => ⟨⟨_, (), rfl, rfl, ka_at ht hP⟩, hS.F ht⟩) hS.2.2 d_Mo_makeSegment_70 hlk
    replace h := zo_f c10 h
    refine lv_aload_n hx hb d_Mo_makeSegment_53 rfl (lv_at hl 1 rfl) ?_
    refine va_get (D := D) (ci := 5) (v := .ref (A 61)) (C := R_Mo) (T := T_Mo) (N := 3) hx hb hts wu_Mo hown hK hP 0 rfl rfl 0 (by decide) (hts _ wf_Mo_7) (fun _ h9 => h9) rfl d_Mo_makeSegment_54 ?_
    refine lv_bipush (v := 17) hx hb d_Mo_makeSegment_57 (by decide) ?_
    refine lv_iload hx hb d_Mo_makeSegment_59 (lv_at hl 0 rfl) ?_
    refine lv_imul hx hb d_Mo_makeSegment_61 ?_
    refine lv_bipush (v := 8) hx hb d_Mo_makeSegment_62 (by decide) ?_
    refine lv_iadd hx hb d_Mo_makeSegment_64 ?_
    refine lv_iload hx hb d_Mo_makeSegment_65 (lv_at hl 5 rfl) ?_
    obtain ⟨i9, h⟩ := zo_i h
    obtain ⟨u11, hu9, h⟩ := zo_l h
    refine va_iast hx hb hK hP hD hS 1 0 rfl rfl i9 d_Mo_makeSegment_67 (fun H locs hP hD hS => ?_)
    replace hP : va_P D vwCl (MW A u11 r) H := by rw [hu9]; exact hP
    replace hD : va_D A9 (MW A u11 r) := by rw [hu9]; exact hD
    refine lv_iload hx hb d_Mo_makeSegment_68 (lv_at hl 0 rfl) ?_
    cases h
    exact W.iret hx hb hr (fun t ht hW => ⟨⟨_, (), rfl, rfl, ka_at ht hP⟩, hS.F ht⟩) hS.2.2 d_Mo_makeSegment_70 hlk
  replace h := zo_t c8 h
  refine lv_aload_n hx hb d_Mo_makeSegment_27 rfl (lv_at hl 0 rfl) ?_
  refine lv_iconst (v := 1) hx hb d_Mo_makeSegment_28 (by decide) ?_
  obtain ⟨v12, e9, h⟩ := zo_b h
  refine ka_i (va_runV (As := [.int 1]) (rest := []) S9 (c_Mo_fail l hl9 D A r _ σ 1 _ e9) (cwV 1 hts (tg_V wl_Mo_51 wm_Mo_fail we_Mo_fail wi_Mo wo_Mo_fail) rfl rfl rfl wq_Mo_fail ⟨Nat.le_of_ble_eq_true rfl, Nat.le_of_ble_eq_true rfl⟩) (ka_preV X9 hP hD hS 0 rfl rfl) rfl rfl hl.1 rfl (lv_room (Nat.le_of_ble_eq_true rfl)) d_Mo_makeSegment_29 ⟨Nat.le_of_ble_eq_true rfl, Nat.le_of_ble_eq_true rfl⟩) X9 hD hS rfl (fun H locs hP hD hS => ?_)
  cases h
  exact W.iret hx hb hr (fun t ht hW => ⟨⟨_, (), rfl, rfl, ka_at ht hP⟩, hS.F ht⟩) hS.2.2 d_Mo_makeSegment_32 hlk
def f_Mo_segment (σ : RS) (x1 x2 x3 x4 : Int32) : Option (Int32 × RS) := zl (sM_code σ 0) fun u1 => (f_Mo_makeSegment u1 x1 x2 x3 x4).bind fun v2 => some (v2.1, v2.2)
set_option maxRecDepth 100000 in
set_option maxHeartbeats 4000000 in
theorem c_Mo_segment (l : Launch) (hl9 : l.stackTraces = false) (D : va_G) (A : Nat → Nat) (r : va_W) (sz : Nat) (σ : RS) (x1 x2 x3 x4 : Int32) (z : Int32 × RS) (h : f_Mo_segment σ x1 x2 x3 x4 = some z) : Met l y_Mo_segment (Cond.code y_Mo_segment b_Mo_segment 5 (some .int) :: T0) ({ frames := 6, cells := 0, slots := 0, locals := 145 } : Room) (va_Pc [.ref (A 60), .int x1, .int x2, .int x3, .int x4] (ka_Wd D A (MW A σ r) sz)) (ka_Ri D z.1 (MW A z.2 r) (va_A (MW A σ r) sz)) 0 0 (va_A (MW A σ r) sz) := by
  unfold f_Mo_segment at h
  refine ka_of (own := R_Mo) (fun A9 => ka_Ri D z.1 (MW A z.2 r) A9) (by decide) rfl (Nat.le_of_ble_eq_true rfl) ?_
  intro p e s m below meth c A9 ls S9 hr hlk hex X9 hP hD hl
  obtain ⟨hx, hb, hml, hown, hts⟩ := id S9
  have hK := X9.2.1
  have hS : va_S A9 s.heap s.heap [] := va_S.rf
  replace hl : lv_has ls 5 [(0, .ref (A 60)), (1, .int x1), (2, .int x2), (3, .int x3), (4, .int x4)] := hl
  refine lv_aload_n hx hb d_Mo_segment_0 rfl (lv_at hl 0 rfl) ?_
  refine lv_iconst (v := 0) hx hb d_Mo_segment_1 (by decide) ?_
  obtain ⟨u1, hu9, h⟩ := zo_l h
  refine va_put (D := D) (ci := 5) (v := .int 0) (ty := .int) (C := R_Mo) (T := T_Mo) (N := 3) hx hb hts wu_Mo ft_Mo fk_Mo nm_Mo hown hK hP hD hS 0 rfl rfl 2 (by decide) (hts _ wf_Mo_16) (fun _ h9 => h9) rfl (by decide +kernel) rfl rfl (Nat.le_of_ble_eq_true rfl) d_Mo_segment_2 (fun H locs hP hD hS => ?_)
  replace hP : va_P D vwCl (MW A u1 r) H := by rw [hu9]; exact hP
  replace hD : va_D A9 (MW A u1 r) := by rw [hu9]; exact hD
  refine lv_aload_n hx hb d_Mo_segment_5 rfl (lv_at hl 0 rfl) ?_
  refine lv_iload_n hx hb d_Mo_segment_6 rfl (lv_at hl 1 rfl) ?_
  refine lv_iload_n hx hb d_Mo_segment_7 rfl (lv_at hl 2 rfl) ?_
  refine lv_iload_n hx hb d_Mo_segment_8 rfl (lv_at hl 3 rfl) ?_
  refine lv_iload hx hb d_Mo_segment_9 (lv_at hl 4 rfl) ?_
  obtain ⟨v2, e9, h⟩ := zo_b h
  refine ka_i (va_runV (As := [.int x1, .int x2, .int x3, .int x4]) (rest := []) S9 (c_Mo_makeSegment l hl9 D A r _ u1 x1 x2 x3 x4 _ e9) (cwV 4 hts (tg_V wl_Mo_92 wm_Mo_makeSegment we_Mo_makeSegment wi_Mo wo_Mo_makeSegment) rfl rfl rfl wq_Mo_makeSegment ⟨Nat.le_of_ble_eq_true rfl, Nat.le_of_ble_eq_true rfl⟩) (ka_preV X9 hP hD hS 0 rfl rfl) rfl rfl hl.1 rfl (lv_room (Nat.le_of_ble_eq_true rfl)) d_Mo_segment_11 ⟨Nat.le_of_ble_eq_true rfl, Nat.le_of_ble_eq_true rfl⟩) X9 hD hS rfl (fun H locs hP hD hS => ?_)
  cases h
  exact W.iret hx hb hr (fun t ht hW => ⟨⟨_, (), rfl, rfl, ka_at ht hP⟩, hS.F ht⟩) hS.2.2 d_Mo_segment_14 hlk
def f_Mo_makeGate (σ : RS) (x1 x2 x3 x4 x5 : Int32) : Option (Int32 × RS) := (f_Mo_isLabel σ x3).bind fun v1 => if v1 = 0 then ((f_Mo_fail σ 1).bind fun v3 => some (v3.1, v3.2)) else ((f_Mo_isLabel σ x4).bind fun v4 => if v4 = 0 then ((f_Mo_fail σ 1).bind fun v6 => some (v6.1, v6.2)) else ((f_Mo_starless σ x4).bind fun v7 => if v7 = 0 then ((f_Mo_fail σ 1).bind fun v13 => some (v13.1, v13.2)) else ((f_Mo_make σ x1 x2 x3 2 2 0).bind fun v9 => if v9.1 = 0 then (some (0, v9.2)) else (if ((17 * v9.1) + 5) < 0 ∨ 1552 ≤ ((17 * v9.1) + 5).toNatClampNeg then none else zl (sM_row v9.2 (upd (gM_row v9.2) ((17 * v9.1) + 5).toNatClampNeg x4)) fun u11 => if ((17 * v9.1) + 7) < 0 ∨ 1552 ≤ ((17 * v9.1) + 7).toNatClampNeg then none else zl (sM_row u11 (upd (gM_row u11) ((17 * v9.1) + 7).toNatClampNeg x5)) fun u12 => some (v9.1, u12)))))
set_option maxRecDepth 100000 in
set_option maxHeartbeats 4000000 in
theorem c_Mo_makeGate (l : Launch) (hl9 : l.stackTraces = false) (D : va_G) (A : Nat → Nat) (r : va_W) (sz : Nat) (σ : RS) (x1 x2 x3 x4 x5 : Int32) (z : Int32 × RS) (h : f_Mo_makeGate σ x1 x2 x3 x4 x5 = some z) : Met l y_Mo_makeGate (Cond.code y_Mo_makeGate b_Mo_makeGate 7 (some .int) :: T0) ({ frames := 5, cells := 0, slots := 0, locals := 120 } : Room) (va_Pc [.ref (A 60), .int x1, .int x2, .int x3, .int x4, .int x5] (ka_Wd D A (MW A σ r) sz)) (ka_Ri D z.1 (MW A z.2 r) (va_A (MW A σ r) sz)) 0 0 (va_A (MW A σ r) sz) := by
  unfold f_Mo_makeGate at h
  refine ka_of (own := R_Mo) (fun A9 => ka_Ri D z.1 (MW A z.2 r) A9) (by decide) rfl (Nat.le_of_ble_eq_true rfl) ?_
  intro p e s m below meth c A9 ls S9 hr hlk hex X9 hP hD hl
  obtain ⟨hx, hb, hml, hown, hts⟩ := id S9
  have hK := X9.2.1
  have hS : va_S A9 s.heap s.heap [] := va_S.rf
  replace hl : lv_has ls 7 [(0, .ref (A 60)), (1, .int x1), (2, .int x2), (3, .int x3), (4, .int x4), (5, .int x5)] := hl
  refine lv_aload_n hx hb d_Mo_makeGate_0 rfl (lv_at hl 0 rfl) ?_
  refine lv_iload_n hx hb d_Mo_makeGate_1 rfl (lv_at hl 3 rfl) ?_
  obtain ⟨v1, e9, h⟩ := zo_b h
  refine ka_i (va_runV (As := [.int x3]) (rest := []) S9 (c_Mo_isLabel l hl9 D A r _ σ x3 _ e9) (cwV 1 hts (tg_V wl_Mo_54 wm_Mo_isLabel we_Mo_isLabel wi_Mo wo_Mo_isLabel) rfl rfl rfl wq_Mo_isLabel ⟨Nat.le_of_ble_eq_true rfl, Nat.le_of_ble_eq_true rfl⟩) (ka_preV X9 hP hD hS 0 rfl rfl) rfl rfl hl.1 rfl (lv_room (Nat.le_of_ble_eq_true rfl)) d_Mo_makeGate_2 ⟨Nat.le_of_ble_eq_true rfl, Nat.le_of_ble_eq_true rfl⟩) X9 hD hS rfl (fun H locs hP hD hS => ?_)
  refine lv_if_eq (tgt := 26) hx hb d_Mo_makeGate_5 (by decide) (fun c2 => ?_) (fun c2 => ?_)
  · replace h := zo_t c2 h
    refine lv_aload_n hx hb d_Mo_makeGate_26 rfl (lv_at hl 0 rfl) ?_
    refine lv_iconst (v := 1) hx hb d_Mo_makeGate_27 (by decide) ?_
    obtain ⟨v3, e9, h⟩ := zo_b h
    refine ka_i (va_runV (As := [.int 1]) (rest := []) S9 (c_Mo_fail l hl9 D A r _ σ 1 _ e9) (cwV 1 hts (tg_V wl_Mo_51 wm_Mo_fail we_Mo_fail wi_Mo wo_Mo_fail) rfl rfl rfl wq_Mo_fail ⟨Nat.le_of_ble_eq_true rfl, Nat.le_of_ble_eq_true rfl⟩) (ka_preV X9 hP hD hS 0 rfl rfl) rfl rfl hl.1 rfl (lv_room (Nat.le_of_ble_eq_true rfl)) d_Mo_makeGate_28 ⟨Nat.le_of_ble_eq_true rfl, Nat.le_of_ble_eq_true rfl⟩) X9 hD hS rfl (fun H locs hP hD hS => ?_)
    cases h
    exact W.iret hx hb hr (fun t ht hW => ⟨⟨_, (), rfl, rfl, ka_at ht hP⟩, hS.F ht⟩) hS.2.2 d_Mo_makeGate_31 hlk
  replace h := zo_f c2 h
  refine lv_aload_n hx hb d_Mo_makeGate_8 rfl (lv_at hl 0 rfl) ?_
  refine lv_iload hx hb d_Mo_makeGate_9 (lv_at hl 4 rfl) ?_
  obtain ⟨v4, e9, h⟩ := zo_b h
  refine ka_i (va_runV (As := [.int x4]) (rest := []) S9 (c_Mo_isLabel l hl9 D A r _ σ x4 _ e9) (cwV 1 hts (tg_V wl_Mo_54 wm_Mo_isLabel we_Mo_isLabel wi_Mo wo_Mo_isLabel) rfl rfl rfl wq_Mo_isLabel ⟨Nat.le_of_ble_eq_true rfl, Nat.le_of_ble_eq_true rfl⟩) (ka_preV X9 hP hD hS 0 rfl rfl) rfl rfl hl.1 rfl (lv_room (Nat.le_of_ble_eq_true rfl)) d_Mo_makeGate_11 ⟨Nat.le_of_ble_eq_true rfl, Nat.le_of_ble_eq_true rfl⟩) X9 hD hS rfl (fun H locs hP hD hS => ?_)
  refine lv_if_eq (tgt := 26) hx hb d_Mo_makeGate_14 (by decide) (fun c5 => ?_) (fun c5 => ?_)
  · replace h := zo_t c5 h
    refine lv_aload_n hx hb d_Mo_makeGate_26 rfl (lv_at hl 0 rfl) ?_
    refine lv_iconst (v := 1) hx hb d_Mo_makeGate_27 (by decide) ?_
    obtain ⟨v6, e9, h⟩ := zo_b h
    refine ka_i (va_runV (As := [.int 1]) (rest := []) S9 (c_Mo_fail l hl9 D A r _ σ 1 _ e9) (cwV 1 hts (tg_V wl_Mo_51 wm_Mo_fail we_Mo_fail wi_Mo wo_Mo_fail) rfl rfl rfl wq_Mo_fail ⟨Nat.le_of_ble_eq_true rfl, Nat.le_of_ble_eq_true rfl⟩) (ka_preV X9 hP hD hS 0 rfl rfl) rfl rfl hl.1 rfl (lv_room (Nat.le_of_ble_eq_true rfl)) d_Mo_makeGate_28 ⟨Nat.le_of_ble_eq_true rfl, Nat.le_of_ble_eq_true rfl⟩) X9 hD hS rfl (fun H locs hP hD hS => ?_)
    cases h
    exact W.iret hx hb hr (fun t ht hW => ⟨⟨_, (), rfl, rfl, ka_at ht hP⟩, hS.F ht⟩) hS.2.2 d_Mo_makeGate_31 hlk
  replace h := zo_f c5 h
  refine lv_aload_n hx hb d_Mo_makeGate_17 rfl (lv_at hl 0 rfl) ?_
  refine lv_iload hx hb d_Mo_makeGate_18 (lv_at hl 4 rfl) ?_
  obtain ⟨v7, e9, h⟩ := zo_b h
  refine ka_i (va_runV (As := [.int x4]) (rest := []) S9 (c_Mo_starless l hl9 D A r _ σ x4 _ e9) (cwV 1 hts (tg_V wl_Mo_81 wm_Mo_starless we_Mo_starless wi_Mo wo_Mo_starless) rfl rfl rfl wq_Mo_starless ⟨Nat.le_of_ble_eq_true rfl, Nat.le_of_ble_eq_true rfl⟩) (ka_preV X9 hP hD hS 0 rfl rfl) rfl rfl hl.1 rfl (lv_room (Nat.le_of_ble_eq_true rfl)) d_Mo_makeGate_20 ⟨Nat.le_of_ble_eq_true rfl, Nat.le_of_ble_eq_true rfl⟩) X9 hD hS rfl (fun H locs hP hD hS => ?_)
  refine lv_if_ne (tgt := 32) hx hb d_Mo_makeGate_23 (by decide) (fun c8 => ?_) (fun c8 => ?_)
  · replace h := zo_f c8 h
    refine lv_aload_n hx hb d_Mo_makeGate_32 rfl (lv_at hl 0 rfl) ?_
    refine lv_iload_n hx hb d_Mo_makeGate_33 rfl (lv_at hl 1 rfl) ?_
    refine lv_iload_n hx hb d_Mo_makeGate_34 rfl (lv_at hl 2 rfl) ?_
    refine lv_iload_n hx hb d_Mo_makeGate_35 rfl (lv_at hl 3 rfl) ?_
    refine lv_iconst (v := 2) hx hb d_Mo_makeGate_36 (by decide) ?_
    refine lv_iconst (v := 2) hx hb d_Mo_makeGate_37 (by decide) ?_
    refine lv_iconst (v := 0) hx hb d_Mo_makeGate_38 (by decide) ?_
    obtain ⟨v9, e9, h⟩ := zo_b h
    refine ka_i (va_runV (As := [.int x1, .int x2, .int x3, .int 2, .int 2, .int 0]) (rest := []) S9 (c_Mo_make l hl9 D A r _ σ x1 x2 x3 2 2 0 _ e9) (cwV 6 hts (tg_V wl_Mo_84 wm_Mo_make we_Mo_make wi_Mo wo_Mo_make) rfl rfl rfl wq_Mo_make ⟨Nat.le_of_ble_eq_true rfl, Nat.le_of_ble_eq_true rfl⟩) (ka_preV X9 hP hD hS 0 rfl rfl) rfl rfl hl.1 rfl (lv_room (Nat.le_of_ble_eq_true rfl)) d_Mo_makeGate_39 ⟨Nat.le_of_ble_eq_true rfl, Nat.le_of_ble_eq_true rfl⟩) X9 hD hS rfl (fun H locs hP hD hS => ?_)
    refine lv_istore (lv' := [(6, .int v9.1), (0, .ref (A 60)), (1, .int x1), (2, .int x2), (3, .int x3), (4, .int x4), (5, .int x5)]) hx hb d_Mo_makeGate_42 hl (by decide) rfl (fun ls hl => ?_)
    refine lv_iload hx hb d_Mo_makeGate_44 (lv_at hl 0 rfl) ?_
    refine lv_if_ne (tgt := 51) hx hb d_Mo_makeGate_46 (by decide) (fun c10 => ?_) (fun c10 => ?_)
    · replace h := zo_f c10 h
      refine lv_aload_n hx hb d_Mo_makeGate_51 rfl (lv_at hl 1 rfl) ?_
      refine va_get (D := D) (ci := 5) (v := .ref (A 61)) (C := R_Mo) (T := T_Mo) (N := 3) hx hb hts wu_Mo hown hK hP 0 rfl rfl 0 (by decide) (hts _ wf_Mo_7) (fun _ h9 => h9) rfl d_Mo_makeGate_52 ?_
      refine lv_bipush (v := 17) hx hb d_Mo_makeGate_55 (by decide) ?_
      refine lv_iload hx hb d_Mo_makeGate_57 (lv_at hl 0 rfl) ?_
      refine lv_imul hx hb d_Mo_makeGate_59 ?_
      refine lv_iconst (v := 5) hx hb d_Mo_makeGate_60 (by decide) ?_
      refine lv_iadd hx hb d_Mo_makeGate_61 ?_
      refine lv_iload hx hb d_Mo_makeGate_62 (lv_at hl 5 rfl) ?_
      obtain ⟨i9, h⟩ := zo_i h
      obtain ⟨u11, hu9, h⟩ := zo_l h
      refine va_iast hx hb hK hP hD hS 1 0 rfl rfl i9 d_Mo_makeGate_64 (fun H locs hP hD hS => ?_)
      replace hP : va_P D vwCl (MW A u11 r) H := by rw [hu9]; exact hP
      replace hD : va_D A9 (MW A u11 r) := by rw [hu9]; exact hD
      refine lv_aload_n hx hb d_Mo_makeGate_65 rfl (lv_at hl 1 rfl) ?_
      refine va_get (D := D) (ci := 5) (v := .ref (A 61)) (C := R_Mo) (T := T_Mo) (N := 3) hx hb hts wu_Mo hown hK hP 0 rfl rfl 0 (by decide) (hts _ wf_Mo_7) (fun _ h9 => h9) rfl d_Mo_makeGate_66 ?_
      refine lv_bipush (v := 17) hx hb d_Mo_makeGate_69 (by decide) ?_
      refine lv_iload hx hb d_Mo_makeGate_71 (lv_at hl 0 rfl) ?_
      refine lv_imul hx hb d_Mo_makeGate_73 ?_
      refine lv_bipush (v := 7) hx hb d_Mo_makeGate_74 (by decide) ?_
      refine lv_iadd hx hb d_Mo_makeGate_76 ?_
      refine lv_iload hx hb d_Mo_makeGate_77 (lv_at hl 6 rfl) ?_
      obtain ⟨i9, h⟩ := zo_i h
      obtain ⟨u12, hu9, h⟩ := zo_l h
      refine va_iast hx hb hK hP hD hS 1 0 rfl rfl i9 d_Mo_makeGate_79 (fun H locs hP hD hS => ?_)
      replace hP : va_P D vwCl (MW A u12 r) H := by rw [hu9]; exact hP
      replace hD : va_D A9 (MW A u12 r) := by rw [hu9]; exact hD
      refine lv_iload hx hb d_Mo_makeGate_80 (lv_at hl 0 rfl) ?_
      cases h
      exact W.iret hx hb hr (fun t ht hW => ⟨⟨_, (), rfl, rfl, ka_at ht hP⟩, hS.F ht⟩) hS.2.2 d_Mo_makeGate_82 hlk
    replace h := zo_t c10 h
    refine lv_iconst (v := 0) hx hb d_Mo_makeGate_49 (by decide) ?_
    cases h
    exact W.iret hx hb hr (fun t ht hW => ⟨⟨_, (), rfl, rfl, ka_at ht hP⟩, hS.F ht⟩) hS.2.2 d_Mo_makeGate_50 hlk
  replace h := zo_t c8 h
  refine lv_aload_n hx hb d_Mo_makeGate_26 rfl (lv_at hl 0 rfl) ?_
  refine lv_iconst (v := 1) hx hb d_Mo_makeGate_27 (by decide) ?_
  obtain ⟨v13, e9, h⟩ := zo_b h
  refine ka_i (va_runV (As := [.int 1]) (rest := []) S9 (c_Mo_fail l hl9 D A r _ σ 1 _ e9) (cwV 1 hts (tg_V wl_Mo_51 wm_Mo_fail we_Mo_fail wi_Mo wo_Mo_fail) rfl rfl rfl wq_Mo_fail ⟨Nat.le_of_ble_eq_true rfl, Nat.le_of_ble_eq_true rfl⟩) (ka_preV X9 hP hD hS 0 rfl rfl) rfl rfl hl.1 rfl (lv_room (Nat.le_of_ble_eq_true rfl)) d_Mo_makeGate_28 ⟨Nat.le_of_ble_eq_true rfl, Nat.le_of_ble_eq_true rfl⟩) X9 hD hS rfl (fun H locs hP hD hS => ?_)
  cases h
  exact W.iret hx hb hr (fun t ht hW => ⟨⟨_, (), rfl, rfl, ka_at ht hP⟩, hS.F ht⟩) hS.2.2 d_Mo_makeGate_31 hlk
def f_Mo_gate (σ : RS) (x1 x2 x3 x4 x5 : Int32) : Option (Int32 × RS) := zl (sM_code σ 0) fun u1 => (f_Mo_makeGate u1 x1 x2 x3 x4 x5).bind fun v2 => some (v2.1, v2.2)
set_option maxRecDepth 100000 in
set_option maxHeartbeats 4000000 in
theorem c_Mo_gate (l : Launch) (hl9 : l.stackTraces = false) (D : va_G) (A : Nat → Nat) (r : va_W) (sz : Nat) (σ : RS) (x1 x2 x3 x4 x5 : Int32) (z : Int32 × RS) (h : f_Mo_gate σ x1 x2 x3 x4 x5 = some z) : Met l y_Mo_gate (Cond.code y_Mo_gate b_Mo_gate 6 (some .int) :: T0) ({ frames := 6, cells := 0, slots := 0, locals := 146 } : Room) (va_Pc [.ref (A 60), .int x1, .int x2, .int x3, .int x4, .int x5] (ka_Wd D A (MW A σ r) sz)) (ka_Ri D z.1 (MW A z.2 r) (va_A (MW A σ r) sz)) 0 0 (va_A (MW A σ r) sz) := by
  unfold f_Mo_gate at h
  refine ka_of (own := R_Mo) (fun A9 => ka_Ri D z.1 (MW A z.2 r) A9) (by decide) rfl (Nat.le_of_ble_eq_true rfl) ?_
  intro p e s m below meth c A9 ls S9 hr hlk hex X9 hP hD hl
  obtain ⟨hx, hb, hml, hown, hts⟩ := id S9
  have hK := X9.2.1
  have hS : va_S A9 s.heap s.heap [] := va_S.rf
  replace hl : lv_has ls 6 [(0, .ref (A 60)), (1, .int x1), (2, .int x2), (3, .int x3), (4, .int x4), (5, .int x5)] := hl
  refine lv_aload_n hx hb d_Mo_gate_0 rfl (lv_at hl 0 rfl) ?_
  refine lv_iconst (v := 0) hx hb d_Mo_gate_1 (by decide) ?_
  obtain ⟨u1, hu9, h⟩ := zo_l h
  refine va_put (D := D) (ci := 5) (v := .int 0) (ty := .int) (C := R_Mo) (T := T_Mo) (N := 3) hx hb hts wu_Mo ft_Mo fk_Mo nm_Mo hown hK hP hD hS 0 rfl rfl 2 (by decide) (hts _ wf_Mo_16) (fun _ h9 => h9) rfl (by decide +kernel) rfl rfl (Nat.le_of_ble_eq_true rfl) d_Mo_gate_2 (fun H locs hP hD hS => ?_)
  replace hP : va_P D vwCl (MW A u1 r) H := by rw [hu9]; exact hP
  replace hD : va_D A9 (MW A u1 r) := by rw [hu9]; exact hD
  refine lv_aload_n hx hb d_Mo_gate_5 rfl (lv_at hl 0 rfl) ?_
  refine lv_iload_n hx hb d_Mo_gate_6 rfl (lv_at hl 1 rfl) ?_
  refine lv_iload_n hx hb d_Mo_gate_7 rfl (lv_at hl 2 rfl) ?_
  refine lv_iload_n hx hb d_Mo_gate_8 rfl (lv_at hl 3 rfl) ?_
  refine lv_iload hx hb d_Mo_gate_9 (lv_at hl 4 rfl) ?_
  refine lv_iload hx hb d_Mo_gate_11 (lv_at hl 5 rfl) ?_
  obtain ⟨v2, e9, h⟩ := zo_b h
  refine ka_i (va_runV (As := [.int x1, .int x2, .int x3, .int x4, .int x5]) (rest := []) S9 (c_Mo_makeGate l hl9 D A r _ u1 x1 x2 x3 x4 x5 _ e9) (cwV 5 hts (tg_V wl_Mo_95 wm_Mo_makeGate we_Mo_makeGate wi_Mo wo_Mo_makeGate) rfl rfl rfl wq_Mo_makeGate ⟨Nat.le_of_ble_eq_true rfl, Nat.le_of_ble_eq_true rfl⟩) (ka_preV X9 hP hD hS 0 rfl rfl) rfl rfl hl.1 rfl (lv_room (Nat.le_of_ble_eq_true rfl)) d_Mo_gate_13 ⟨Nat.le_of_ble_eq_true rfl, Nat.le_of_ble_eq_true rfl⟩) X9 hD hS rfl (fun H locs hP hD hS => ?_)
  cases h
  exact W.iret hx hb hr (fun t ht hW => ⟨⟨_, (), rfl, rfl, ka_at ht hP⟩, hS.F ht⟩) hS.2.2 d_Mo_gate_16 hlk
def f_Mo_thread (σ : RS) (x1 x2 x3 x4 : Int32) : Option (Int32 × RS) := zl (sM_code σ 0) fun u1 => (f_Mo_isLabel u1 x3).bind fun v2 => if v2 = 0 then ((f_Mo_fail u1 1).bind fun v4 => some (v4.1, v4.2)) else ((f_Mo_isLabel u1 x4).bind fun v5 => if v5 = 0 then ((f_Mo_fail u1 1).bind fun v7 => some (v7.1, v7.2)) else ((f_Mo_starless u1 x4).bind fun v8 => if v8 = 0 then ((f_Mo_fail u1 1).bind fun v11 => some (v11.1, v11.2)) else ((f_Mo_make u1 x1 x2 x3 2 3 x4).bind fun v10 => some (v10.1, v10.2))))
set_option maxRecDepth 100000 in
set_option maxHeartbeats 4000000 in
theorem c_Mo_thread (l : Launch) (hl9 : l.stackTraces = false) (D : va_G) (A : Nat → Nat) (r : va_W) (sz : Nat) (σ : RS) (x1 x2 x3 x4 : Int32) (z : Int32 × RS) (h : f_Mo_thread σ x1 x2 x3 x4 = some z) : Met l y_Mo_thread (Cond.code y_Mo_thread b_Mo_thread 5 (some .int) :: T0) ({ frames := 5, cells := 0, slots := 0, locals := 120 } : Room) (va_Pc [.ref (A 60), .int x1, .int x2, .int x3, .int x4] (ka_Wd D A (MW A σ r) sz)) (ka_Ri D z.1 (MW A z.2 r) (va_A (MW A σ r) sz)) 0 0 (va_A (MW A σ r) sz) := by
  unfold f_Mo_thread at h
  refine ka_of (own := R_Mo) (fun A9 => ka_Ri D z.1 (MW A z.2 r) A9) (by decide) rfl (Nat.le_of_ble_eq_true rfl) ?_
  intro p e s m below meth c A9 ls S9 hr hlk hex X9 hP hD hl
  obtain ⟨hx, hb, hml, hown, hts⟩ := id S9
  have hK := X9.2.1
  have hS : va_S A9 s.heap s.heap [] := va_S.rf
  replace hl : lv_has ls 5 [(0, .ref (A 60)), (1, .int x1), (2, .int x2), (3, .int x3), (4, .int x4)] := hl
  refine lv_aload_n hx hb d_Mo_thread_0 rfl (lv_at hl 0 rfl) ?_
  refine lv_iconst (v := 0) hx hb d_Mo_thread_1 (by decide) ?_
  obtain ⟨u1, hu9, h⟩ := zo_l h
  refine va_put (D := D) (ci := 5) (v := .int 0) (ty := .int) (C := R_Mo) (T := T_Mo) (N := 3) hx hb hts wu_Mo ft_Mo fk_Mo nm_Mo hown hK hP hD hS 0 rfl rfl 2 (by decide) (hts _ wf_Mo_16) (fun _ h9 => h9) rfl (by decide +kernel) rfl rfl (Nat.le_of_ble_eq_true rfl) d_Mo_thread_2 (fun H locs hP hD hS => ?_)
  replace hP : va_P D vwCl (MW A u1 r) H := by rw [hu9]; exact hP
  replace hD : va_D A9 (MW A u1 r) := by rw [hu9]; exact hD
  refine lv_aload_n hx hb d_Mo_thread_5 rfl (lv_at hl 0 rfl) ?_
  refine lv_iload_n hx hb d_Mo_thread_6 rfl (lv_at hl 3 rfl) ?_
  obtain ⟨v2, e9, h⟩ := zo_b h
  refine ka_i (va_runV (As := [.int x3]) (rest := []) S9 (c_Mo_isLabel l hl9 D A r _ u1 x3 _ e9) (cwV 1 hts (tg_V wl_Mo_54 wm_Mo_isLabel we_Mo_isLabel wi_Mo wo_Mo_isLabel) rfl rfl rfl wq_Mo_isLabel ⟨Nat.le_of_ble_eq_true rfl, Nat.le_of_ble_eq_true rfl⟩) (ka_preV X9 hP hD hS 0 rfl rfl) rfl rfl hl.1 rfl (lv_room (Nat.le_of_ble_eq_true rfl)) d_Mo_thread_7 ⟨Nat.le_of_ble_eq_true rfl, Nat.le_of_ble_eq_true rfl⟩) X9 hD hS rfl (fun H locs hP hD hS => ?_)
  refine lv_if_eq (tgt := 31) hx hb d_Mo_thread_10 (by decide) (fun c3 => ?_) (fun c3 => ?_)
  · replace h := zo_t c3 h
    refine lv_aload_n hx hb d_Mo_thread_31 rfl (lv_at hl 0 rfl) ?_
    refine lv_iconst (v := 1) hx hb d_Mo_thread_32 (by decide) ?_
    obtain ⟨v4, e9, h⟩ := zo_b h
    refine ka_i (va_runV (As := [.int 1]) (rest := []) S9 (c_Mo_fail l hl9 D A r _ u1 1 _ e9) (cwV 1 hts (tg_V wl_Mo_51 wm_Mo_fail we_Mo_fail wi_Mo wo_Mo_fail) rfl rfl rfl wq_Mo_fail ⟨Nat.le_of_ble_eq_true rfl, Nat.le_of_ble_eq_true rfl⟩) (ka_preV X9 hP hD hS 0 rfl rfl) rfl rfl hl.1 rfl (lv_room (Nat.le_of_ble_eq_true rfl)) d_Mo_thread_33 ⟨Nat.le_of_ble_eq_true rfl, Nat.le_of_ble_eq_true rfl⟩) X9 hD hS rfl (fun H locs hP hD hS => ?_)
    cases h
    exact W.iret hx hb hr (fun t ht hW => ⟨⟨_, (), rfl, rfl, ka_at ht hP⟩, hS.F ht⟩) hS.2.2 d_Mo_thread_36 hlk
  replace h := zo_f c3 h
  refine lv_aload_n hx hb d_Mo_thread_13 rfl (lv_at hl 0 rfl) ?_
  refine lv_iload hx hb d_Mo_thread_14 (lv_at hl 4 rfl) ?_
  obtain ⟨v5, e9, h⟩ := zo_b h
  refine ka_i (va_runV (As := [.int x4]) (rest := []) S9 (c_Mo_isLabel l hl9 D A r _ u1 x4 _ e9) (cwV 1 hts (tg_V wl_Mo_54 wm_Mo_isLabel we_Mo_isLabel wi_Mo wo_Mo_isLabel) rfl rfl rfl wq_Mo_isLabel ⟨Nat.le_of_ble_eq_true rfl, Nat.le_of_ble_eq_true rfl⟩) (ka_preV X9 hP hD hS 0 rfl rfl) rfl rfl hl.1 rfl (lv_room (Nat.le_of_ble_eq_true rfl)) d_Mo_thread_16 ⟨Nat.le_of_ble_eq_true rfl, Nat.le_of_ble_eq_true rfl⟩) X9 hD hS rfl (fun H locs hP hD hS => ?_)
  refine lv_if_eq (tgt := 31) hx hb d_Mo_thread_19 (by decide) (fun c6 => ?_) (fun c6 => ?_)
  · replace h := zo_t c6 h
    refine lv_aload_n hx hb d_Mo_thread_31 rfl (lv_at hl 0 rfl) ?_
    refine lv_iconst (v := 1) hx hb d_Mo_thread_32 (by decide) ?_
    obtain ⟨v7, e9, h⟩ := zo_b h
    refine ka_i (va_runV (As := [.int 1]) (rest := []) S9 (c_Mo_fail l hl9 D A r _ u1 1 _ e9) (cwV 1 hts (tg_V wl_Mo_51 wm_Mo_fail we_Mo_fail wi_Mo wo_Mo_fail) rfl rfl rfl wq_Mo_fail ⟨Nat.le_of_ble_eq_true rfl, Nat.le_of_ble_eq_true rfl⟩) (ka_preV X9 hP hD hS 0 rfl rfl) rfl rfl hl.1 rfl (lv_room (Nat.le_of_ble_eq_true rfl)) d_Mo_thread_33 ⟨Nat.le_of_ble_eq_true rfl, Nat.le_of_ble_eq_true rfl⟩) X9 hD hS rfl (fun H locs hP hD hS => ?_)
    cases h
    exact W.iret hx hb hr (fun t ht hW => ⟨⟨_, (), rfl, rfl, ka_at ht hP⟩, hS.F ht⟩) hS.2.2 d_Mo_thread_36 hlk
  replace h := zo_f c6 h
  refine lv_aload_n hx hb d_Mo_thread_22 rfl (lv_at hl 0 rfl) ?_
  refine lv_iload hx hb d_Mo_thread_23 (lv_at hl 4 rfl) ?_
  obtain ⟨v8, e9, h⟩ := zo_b h
  refine ka_i (va_runV (As := [.int x4]) (rest := []) S9 (c_Mo_starless l hl9 D A r _ u1 x4 _ e9) (cwV 1 hts (tg_V wl_Mo_81 wm_Mo_starless we_Mo_starless wi_Mo wo_Mo_starless) rfl rfl rfl wq_Mo_starless ⟨Nat.le_of_ble_eq_true rfl, Nat.le_of_ble_eq_true rfl⟩) (ka_preV X9 hP hD hS 0 rfl rfl) rfl rfl hl.1 rfl (lv_room (Nat.le_of_ble_eq_true rfl)) d_Mo_thread_25 ⟨Nat.le_of_ble_eq_true rfl, Nat.le_of_ble_eq_true rfl⟩) X9 hD hS rfl (fun H locs hP hD hS => ?_)
  refine lv_if_ne (tgt := 37) hx hb d_Mo_thread_28 (by decide) (fun c9 => ?_) (fun c9 => ?_)
  · replace h := zo_f c9 h
    refine lv_aload_n hx hb d_Mo_thread_37 rfl (lv_at hl 0 rfl) ?_
    refine lv_iload_n hx hb d_Mo_thread_38 rfl (lv_at hl 1 rfl) ?_
    refine lv_iload_n hx hb d_Mo_thread_39 rfl (lv_at hl 2 rfl) ?_
    refine lv_iload_n hx hb d_Mo_thread_40 rfl (lv_at hl 3 rfl) ?_
    refine lv_iconst (v := 2) hx hb d_Mo_thread_41 (by decide) ?_
    refine lv_iconst (v := 3) hx hb d_Mo_thread_42 (by decide) ?_
    refine lv_iload hx hb d_Mo_thread_43 (lv_at hl 4 rfl) ?_
    obtain ⟨v10, e9, h⟩ := zo_b h
    refine ka_i (va_runV (As := [.int x1, .int x2, .int x3, .int 2, .int 3, .int x4]) (rest := []) S9 (c_Mo_make l hl9 D A r _ u1 x1 x2 x3 2 3 x4 _ e9) (cwV 6 hts (tg_V wl_Mo_84 wm_Mo_make we_Mo_make wi_Mo wo_Mo_make) rfl rfl rfl wq_Mo_make ⟨Nat.le_of_ble_eq_true rfl, Nat.le_of_ble_eq_true rfl⟩) (ka_preV X9 hP hD hS 0 rfl rfl) rfl rfl hl.1 rfl (lv_room (Nat.le_of_ble_eq_true rfl)) d_Mo_thread_45 ⟨Nat.le_of_ble_eq_true rfl, Nat.le_of_ble_eq_true rfl⟩) X9 hD hS rfl (fun H locs hP hD hS => ?_)
    cases h
    exact W.iret hx hb hr (fun t ht hW => ⟨⟨_, (), rfl, rfl, ka_at ht hP⟩, hS.F ht⟩) hS.2.2 d_Mo_thread_48 hlk
  replace h := zo_t c9 h
  refine lv_aload_n hx hb d_Mo_thread_31 rfl (lv_at hl 0 rfl) ?_
  refine lv_iconst (v := 1) hx hb d_Mo_thread_32 (by decide) ?_
  obtain ⟨v11, e9, h⟩ := zo_b h
  refine ka_i (va_runV (As := [.int 1]) (rest := []) S9 (c_Mo_fail l hl9 D A r _ u1 1 _ e9) (cwV 1 hts (tg_V wl_Mo_51 wm_Mo_fail we_Mo_fail wi_Mo wo_Mo_fail) rfl rfl rfl wq_Mo_fail ⟨Nat.le_of_ble_eq_true rfl, Nat.le_of_ble_eq_true rfl⟩) (ka_preV X9 hP hD hS 0 rfl rfl) rfl rfl hl.1 rfl (lv_room (Nat.le_of_ble_eq_true rfl)) d_Mo_thread_33 ⟨Nat.le_of_ble_eq_true rfl, Nat.le_of_ble_eq_true rfl⟩) X9 hD hS rfl (fun H locs hP hD hS => ?_)
  cases h
  exact W.iret hx hb hr (fun t ht hW => ⟨⟨_, (), rfl, rfl, ka_at ht hP⟩, hS.F ht⟩) hS.2.2 d_Mo_thread_36 hlk
