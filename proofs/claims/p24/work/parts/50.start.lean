theorem zs_perm (G M : va_W) (x : Nat × va_E) : ((G ++ M) ++ [x]).Perm (G ++ (x :: M)) := by
  rw [List.append_assoc]
  exact List.Perm.append_left G (List.perm_append_singleton x M)
theorem zs_ar {s : State} {args : Array Value} {ty : FieldType} (h : (Cond.arrayClass ty).before args s = true) : ∃ cA : ClassId, ArrOfT s cA ty ∧ s.vm.findClass ("[" ++ ty.toString) = some cA := by
  obtain ⟨cA, kA, comp, h1, h2, h3⟩ := Cond.arrayClass_spec h
  exact ⟨cA, fun n z => ⟨fun k h => (by cases h), kA, h2, comp, h3⟩, h1⟩
set_option maxRecDepth 100000 in
theorem zs_N {s : State} {args : Array Value} (hts : ∀ w ∈ lw_tbl, w.before args s = true) : ka_N s := by
  intro w hw
  simp only [ka_NB, List.mem_cons, List.not_mem_nil, or_false] at hw
  rcases hw with rfl | rfl | rfl | rfl | rfl | rfl | rfl
  · exact va_Nw.of rfl (hts _ (by decide +kernel))
  · exact va_Nw.of rfl (hts _ (by decide +kernel))
  · exact va_Nw.of rfl (hts _ (by decide +kernel))
  · exact va_Nw.of rfl (hts _ (by decide +kernel))
  · exact va_Nw.of rfl (hts _ (by decide +kernel))
  · exact va_Nw.of rfl (hts _ (by decide +kernel))
  · exact va_Nw.of rfl (hts _ (by decide +kernel))
set_option maxRecDepth 100000 in
theorem zs_M {s : State} {args : Array Value} (hts : ∀ w ∈ lw_tbl, w.before args s = true) : ka_M s :=
  ⟨va_Nw.of rfl (hts _ (by decide +kernel)), va_Nw.of rfl (hts _ (by decide +kernel))⟩
set_option maxRecDepth 100000 in
theorem zs_C {s : State} {args : Array Value} (hgv : (Jvm.Cond.and given_1 narrow_1).before args s = true) : ka_C s := by
  have hs := flat_of_before _ hgv
  exact ⟨va_Nc.of (hs _ (by decide +kernel)), va_Nc.of (hs _ (by decide +kernel)), va_Nc.of (hs _ (by decide +kernel)), va_Nc.of (hs _ (by decide +kernel)), va_Nc.of (hs _ (by decide +kernel)), va_Nc.of (hs _ (by decide +kernel))⟩
set_option maxRecDepth 100000 in
theorem zs_Z {s : State} {args : Array Value} (hts : ∀ w ∈ lw_tbl, w.before args s = true) (hgv : (Jvm.Cond.and given_1 narrow_1).before args s = true) : vx_Zq Bundle.tN "UNASSIGNED_STACK" Bundle.steD (fun q : Nat => s.heap.size ≤ q) s s.heap ∧ vx_Zq Bundle.tN "SUPPRESSED_SENTINEL" Bundle.listD (fun q : Nat => s.heap.size ≤ q) s s.heap := by
  have hs := flat_of_before _ hgv
  exact ⟨vx_Zqof (hts _ (by decide +kernel)) (hts _ (by decide +kernel)) (hs _ (by decide +kernel)) (fun a h => Nat.not_le.mpr h), vx_Zqof (hts _ (by decide +kernel)) (hts _ (by decide +kernel)) (hs _ (by decide +kernel)) (fun a h => Nat.not_le.mpr h)⟩
set_option maxRecDepth 100000 in
theorem zs_K {s : State} {args : Array Value} (hts : ∀ w ∈ T0, w.before args s = true) : ∃ (D : va_G) (A : Nat → Nat), va_K D vwCl (ka_ty A) s := by
  obtain ⟨c0, i0, k0⟩ := u_known (C := R_Lb) (T := T_Lb) (N := 2) (n := 2) hts wu_Lb (hts _ wn_Lb)
  obtain ⟨c1, i1, k1⟩ := u_known (C := R_Sn) (T := T_Sn) (N := 4) (n := 4) hts wu_Sn (hts _ wn_Sn)
  obtain ⟨c2, i2, k2⟩ := u_known (C := R_Tg) (T := T_Tg) (N := 12) (n := 12) hts wu_Tg (hts _ wn_Tg)
  obtain ⟨c3, i3, k3⟩ := u_known (C := R_Us) (T := T_Us) (N := 7) (n := 7) hts wu_Us (hts _ wn_Us)
  obtain ⟨c4, i4, k4⟩ := u_known (C := R_Ke) (T := T_Ke) (N := 5) (n := 5) hts wu_Ke (hts _ wn_Ke)
  obtain ⟨c5, i5, k5⟩ := u_known (C := R_Mo) (T := T_Mo) (N := 3) (n := 3) hts wu_Mo (hts _ wn_Mo)
  obtain ⟨aI, rI, fI⟩ := zs_ar (hts _ wa_int)
  obtain ⟨aZ, rZ, fZ⟩ := zs_ar (hts _ wa_boolean)
  obtain ⟨aJ, rJ, fJ⟩ := zs_ar (hts _ wa_long)
  refine ⟨(fun k => if k = 0 then c0 else if k = 1 then c1 else if k = 2 then c2 else if k = 3 then c3 else if k = 4 then c4 else c5, fun k => if k = 0 then i0 else if k = 1 then i1 else if k = 2 then i2 else if k = 3 then i3 else if k = 4 then i4 else i5), fun n => if n = 900 then aI else if n = 901 then aZ else aJ, ?_, ?_⟩
  · intro k q hq
    match k, hq with
    | 0, hq => cases hq; exact k0
    | 1, hq => cases hq; exact k1
    | 2, hq => cases hq; exact k2
    | 3, hq => cases hq; exact k3
    | 4, hq => cases hq; exact k4
    | 5, hq => cases hq; exact k5
    | k + 6, hq => simp [vwCl] at hq
  · intro k q hq
    match k, hq with
    | 0, hq => cases hq; exact ⟨rI, fI⟩
    | 1, hq => cases hq; exact ⟨rZ, fZ⟩
    | 2, hq => cases hq; exact ⟨rJ, fJ⟩
    | k + 3, hq => simp [ka_ty] at hq
