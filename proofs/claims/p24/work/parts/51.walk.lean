set_option maxRecDepth 100000 in
set_option maxHeartbeats 8000000 in
theorem zs_start {p : Program} {e : Env} {s : State} {m : MethodId} {below : List Frame} {meth : Method} {c : Code} (l : Launch) (hl9 : l.stackTraces = false) {b L : Nat} {xs : Nat → Int32} (hL : L ≤ 3584) (C0 : lw_At p s m meth c b L xs) : W p l e room_1 s m #[Value.ref b] below meth c s.heap [] 0 0 (lw_Z below #[Value.ref b] s) (entryFrame m ([Value.ref b] : List Value).toArray 7) := by
  obtain ⟨hx, hb, hr, hml, hown, hts0, hX, hbl, hlocks, hgv⟩ := id C0
  have hts : ∀ w ∈ T0, w.before #[Value.ref b] s = true := fun w h => hts0 w (List.mem_filter.mp h).1
  obtain ⟨D, A0, hK⟩ := zs_K hts
  have hN := zs_N hts0
  have hM := zs_M hts0
  have hC := zs_C hgv
  have hZ := zs_Z hts0 hgv
  have hA : ∀ q : Nat, s.heap.size ≤ q → (fun q : Nat => s.heap.size ≤ q) q := fun _ h => h
  have X9 : ka_X D A0 (fun q : Nat => s.heap.size ≤ q) s := ⟨hA, hK, hZ.1, hZ.2, hN⟩
  have S9 : CallFix p m c code 7 s #[Value.ref b] T0 R_La := ⟨hx, hb, hml, hown, hts⟩
  have hS : va_S (fun q : Nat => s.heap.size ≤ q) s.heap s.heap [] := va_S.rf
  have hP : va_P D vwCl [] s.heap := fun k q h => by simp at h
  have hD : va_D (fun q : Nat => s.heap.size ≤ q) [] := ⟨fun i j p q h => by simp at h, fun k q h => by simp at h⟩
  have hl := lv_entry ([.ref b]) (n := 7) (Nat.le_of_ble_eq_true rfl)
  rw [lg_entry_eq]
  generalize (lg_sl ([.ref b]) ++ List.replicate (7 - (lg_sl ([.ref b])).length) Slot.unset).toArray = ls at hl ⊢
  have hl : lv_has ls 7 [(0, .ref b)] := hl
  refine va_new (ci := 4) (fs := [.null, .null, .null, .null, .null]) (C := R_Ke) (T := T_Ke) (N := 5) hx hb hts wu_Ke ft_Ke fk_Ke hown (hts _ wc_La_8) (hts _ wn_Ke) (hts _ wi_Ke) hK hP hD hS hA rfl (by decide) (Nat.le_of_ble_eq_true rfl) (Nat.le_of_ble_eq_true rfl) d_La_law_0 (fun q0 H hP hD hS => ?_)
  have hP : va_P D vwCl [(q0, .inr (4, [.null, .null, .null, .null, .null]))] H := hP
  have hD : va_D (fun q : Nat => s.heap.size ≤ q) [(q0, .inr (4, [.null, .null, .null, .null, .null]))] := hD
  refine lv_dup hx hb d_La_law_3 rfl ?_
  have hFc := va_free (wc := [(q0, .inr (4, [.null, .null, .null, .null, .null]))]) hD hS hA [0] rfl
  refine va_callv (va_runI (As := []) (rest := [.ref q0]) S9 (k_Ke l hl9 D A0 q0 H.size (zq_zT, k0) zq_zp_initT) (cwI 0 hts (tg_I wo_Ke_init) rfl rfl rfl (hts _ wi_Ke) (hts _ wl_La_87) (hts _ wm_Ke_init) rfl (by decide +kernel) ⟨Nat.le_of_ble_eq_true rfl, Nat.le_of_ble_eq_true rfl⟩) (ka_preM X9 hM hP hD hS) rfl rfl hl.1 rfl (lv_room (Nat.le_of_ble_eq_true rfl)) d_La_law_4 ⟨Nat.le_of_ble_eq_true rfl, Nat.le_of_ble_eq_true rfl⟩) hS (fun q _ h => hFc q h) hFc (fun u t H1 locs ht hvm hw hB hz1 hk1 hS => ?_)
  obtain ⟨hP1, hD1⟩ := hB
  rw [ht] at hP1
  obtain ⟨a, rfl⟩ : ∃ z, z = u := ⟨_, rfl⟩
  obtain ⟨g0, g1⟩ := hw
  obtain ⟨hP, hD⟩ := va_join (wr := []) (w1 := GL a (i_S (zq_zT, k0), i_S (zq_zT, k0))) hP hD [0] [] rfl rfl (by decide) (by decide) hk1 hFc hP1 hD1
  generalize H1 = H at hP hS ⊢
  have hP : va_P D vwCl (GL a (i_S (zq_zT, k0), i_S (zq_zT, k0))) H := hP
  have hD : va_D (fun q : Nat => s.heap.size ≤ q) (GL a (i_S (zq_zT, k0), i_S (zq_zT, k0))) := hD
  have hKa : va_K D vwCl (ka_ty a) s := by
    show va_K D vwCl [(a 900, .int), (a 901, .boolean), (a 902, .long)] s
    rw [g1 900 (by omega), g1 901 (by omega), g1 902 (by omega)]
    exact hK
  have Xa : ka_X D a (fun q : Nat => s.heap.size ≤ q) s := ⟨hA, hKa, hZ.1, hZ.2, hN⟩
  refine lv_astore_n (lv' := [(1, .ref q0), (0, .ref b)]) hx hb d_La_law_7 rfl hl (by decide) rfl (fun ls hl => ?_)
  refine va_new (ci := 5) (fs := [.null, .null, .int 0]) (C := R_Mo) (T := T_Mo) (N := 3) hx hb hts wu_Mo ft_Mo fk_Mo hown (hts _ wc_La_88) (hts _ wn_Mo) (hts _ wi_Mo) hKa hP hD hS hA rfl (by decide) (Nat.le_of_ble_eq_true rfl) (Nat.le_of_ble_eq_true rfl) d_La_law_8 (fun q1 H hP hD hS => ?_)
  refine lv_dup hx hb d_La_law_11 rfl ?_
  have hPc := hP.sub (ws' := [(q1, .inr (5, [.null, .null, .int 0]))]) [47] rfl
  have hDc := hD.sub (ws' := [(q1, .inr (5, [.null, .null, .int 0]))]) [47] (by decide) rfl
  have hFc := va_free (wc := [(q1, .inr (5, [.null, .null, .int 0]))]) hD hS hA [47] rfl
  refine va_callv (va_runI (As := []) (rest := [.ref q1]) S9 (k_Mo l hl9 D a q1 H.size _ zq_zp_initM) (cwI 0 hts (tg_I wo_Mo_init) rfl rfl rfl (hts _ wi_Mo) (hts _ wl_La_90) (hts _ wm_Mo_init) rfl (by decide +kernel) ⟨Nat.le_of_ble_eq_true rfl, Nat.le_of_ble_eq_true rfl⟩) (ka_preS Xa hPc hDc hS) rfl rfl hl.1 rfl (lv_room (Nat.le_of_ble_eq_true rfl)) d_La_law_12 ⟨Nat.le_of_ble_eq_true rfl, Nat.le_of_ble_eq_true rfl⟩) hS (fun q _ h => hFc q h) hFc (fun u t H1 locs ht hvm hw hB hz1 hk1 hS => ?_)
  obtain ⟨hP1, hD1⟩ := hB
  rw [ht] at hP1
  obtain ⟨a2, rfl⟩ : ∃ z, z = u := ⟨_, rfl⟩
  obtain ⟨g2, g3⟩ := hw
  obtain ⟨hP, hD⟩ := va_join (wr := GL a (i_S (zq_zT, k0), i_S (zq_zT, k0))) (w1 := MW a2 (sM_kept (sM_row r0 zq_rI) (zq_rwK zq_rI (fun _ => 0) 1552)) []) hP hD [47] [0, 1, 2, 3, 4, 5, 6, 7, 8, 9, 10, 11, 12, 13, 14, 15, 16, 17, 18, 19, 20, 21, 22, 23, 24, 25, 26, 27, 28, 29, 30, 31, 32, 33, 34, 35, 36, 37, 38, 39, 40, 41, 42, 43, 44, 45, 46] rfl rfl (by decide) (by decide) hk1 hFc hP1 hD1
  generalize H1 = H at hP hS ⊢
  refine lv_astore_n (lv' := [(2, .ref q1), (1, .ref q0), (0, .ref b)]) hx hb d_La_law_15 rfl hl (by decide) rfl (fun ls hl => ?_)
  refine lv_iconst (v := 1) hx hb d_La_law_16 (by decide) ?_
  refine va_newa (atype := .long) (ty := .long) (n := 1) (N' := 1) (a0 := (1, .inr (.inl (fun _ => 0)))) hx hb (hts _ wa_long) rfl hKa hP hD hS hA (fun _ => rfl) (by decide) (by decide) (by decide) (Nat.le_of_ble_eq_true rfl) (Nat.le_of_ble_eq_true rfl) d_La_law_17 (fun q3 cA H hK9 hP hD hS => ?_)
  have hcA := ka_caJ hK9
  refine lv_astore_n (lv' := [(3, .ref q3), (2, .ref q1), (1, .ref q0), (0, .ref b)]) hx hb d_La_law_19 rfl hl (by decide) rfl (fun ls hl => ?_)
  refine lv_iconst (v := 0) hx hb d_La_law_20 (by decide) ?_
  refine lv_istore (lv' := [(4, .int 0), (3, .ref q3), (2, .ref q1), (1, .ref q0), (0, .ref b)]) hx hb d_La_law_21 hl (by decide) rfl (fun ls hl => ?_)
  obtain ⟨A, hA3⟩ : ∃ A : Nat → Nat, A = fun n => if n < 47 then a n else if n < 63 then a2 n else if n = 63 then q3 else a n := ⟨_, rfl⟩
  have eG : GL a (i_S (zq_zT, k0), i_S (zq_zT, k0)) = GL A (i_S (zq_zT, k0), i_S (zq_zT, k0)) := by rw [hA3]; rfl
  have eM : MW a2 (sM_kept (sM_row r0 zq_rI) (zq_rwK zq_rI (fun _ => 0) 1552)) [] = MW A (sM_kept (sM_row r0 zq_rI) (zq_rwK zq_rI (fun _ => 0) 1552)) [] := by
    have e9 : a2 900 = A 900 := by rw [g3 900 (by omega), hA3]; rfl
    have e0 : a2 60 = A 60 := by rw [hA3]; rfl
    have e1 : a2 61 = A 61 := by rw [hA3]; rfl
    have e2 : a2 62 = A 62 := by rw [hA3]; rfl
    unfold MW ML
    rw [e9, e0, e1, e2]
  have eO : ((q3, .inl (cA, 1, .inr (.inl (fun _ => 0)))) : Nat × va_E) = ka_oc A (fun _ => 0) := by
    have e1 : q3 = A 63 := by rw [hA3]; rfl
    have e2 : cA = A 902 := by rw [hcA, hA3]; rfl
    rw [e1, e2]
  have eQ0 : q0 = A 0 := by rw [← g0, hA3]; rfl
  have eQ1 : q1 = A 60 := by rw [← g2, hA3]; rfl
  have eQ3 : q3 = A 63 := by rw [hA3]; rfl
  have hKA : va_K D vwCl (ka_ty A) s := by
    have e0 : A 900 = a 900 := by rw [hA3]; rfl
    have e1 : A 901 = a 901 := by rw [hA3]; rfl
    have e2 : A 902 = a 902 := by rw [hA3]; rfl
    show va_K D vwCl [(A 900, .int), (A 901, .boolean), (A 902, .long)] s
    rw [e0, e1, e2]
    exact hKa
  have XA : ka_X D A (fun q : Nat => s.heap.size ≤ q) s := ⟨hA, hKA, hZ.1, hZ.2, hN⟩
  have hp := zs_perm (GL A (i_S (zq_zT, k0), i_S (zq_zT, k0))) (MW A (sM_kept (sM_row r0 zq_rI) (zq_rwK zq_rI (fun _ => 0) 1552)) []) (ka_oc A (fun _ => 0))
  rw [eG, eM, eO] at hP hD
  have hP := kp_P hp hP
  have hD := kp_D hp hD
  rw [eQ0, eQ1, eQ3] at hl
  refine W.widen (k := 51) (n := 5535) (by omega) (by omega) ?_
  exact law_loop zq_II zq_sm_II hL ⟨hl9, S9, hX, hbl, hlocks, hr, hC, XA⟩ (L + 1) 0 0 rfl (by omega) (by omega) _ _ (fun _ => 0) _ _ ls (zq_II_start zq_zp_initT zq_zp_initM) hP hD hS (lv_sub hl [4, 3, 2, 1, 0] rfl)
