/-! THE CLAIM OUT OF ONE WALK OF THE LAW'S BODY. Your part is whole_start (and what it stands on); all else here is the same for every law, but numbers. -/
def R_law : String := "LabelKernelLaw"
def lw_P (b : Addr) (xs : List Int32) (args : Array Value) (s : State) : Prop := args = #[.ref b] ∧ s.IntsAt b xs ∧ xs.length ≤ 3584 ∧ (Jvm.Cond.and given_1 narrow_1).before args s = true
def lw_Q (_ : Array Value) (s : State) (o : Outcome) (t : State) : Prop := o = .returned (some (.int 1)) ∧ Framed s o t [] 1079 13751
def lw_Z (below : List Frame) (a : Array Value) (s : State) : State → Prop := fun t => ∃ o, t.status = .running ∧ Ended t below o ∧ lw_Q a s o t
/-- the law's own end, with 1 on the stack, nothing written that was there before, its room as the claim has it -/
theorem lw_ret {p : Program} {l : Launch} {e : Env} {s : State} {m : MethodId} {below : List Frame} {meth : Method} {c : Code} {b : Nat} (hx : p.tables.exec = Jvm.exec) (hb : c.code = code) (hr : meth.sig.returnType = ret) (hlocks : meth.locks = false) {pc : Nat} {H : Heap} {ls : Array Slot} (hdg : decode code pc = .ok (.ireturn, 1)) : W p l e room_1 s m #[Value.ref b] below meth c H [] 1079 13751 (lw_Z below #[Value.ref b] s) (F0 m pc ls [.int 1]) := by
  intro T hT X
  obtain ⟨fs, hret, hrun, hended, hW, hframe⟩ := X.leave (v := some (.int 1)) (hlocks := hlocks) (fun h => by rw [hr] at h; cases h)
  have hmeth' : T.vm.method? m = some meth := X.method'
  refine ⟨T.setFrames fs, ?_, .returned (some (.int 1)), hrun, hended, rfl, ⟨_, rfl⟩, hW, hframe⟩
  jvm_step X.here [X.here.top, hx, hb, hdg, hmeth', hr, ret, narrow_b1]
  (try refine ⟨rfl, ?_⟩); (try refine ⟨rfl, ?_⟩)
  first | (intro acts; rw [hret _ acts rfl rfl rfl]) | rw [hret _ _ rfl rfl rfl]
  exact Steps.refl _
/-- what holds at the law's entry: the machine, the code, the tables' words (any of lw_tbl by 'hts w (by decide +kernel)'), the script of L ints xs at the cell b, what the Statement gives of the start (any of its parts by flat_of_before) -/
def lw_At (p : Program) (s : State) (m : MethodId) (meth : Method) (c : Code) (b L : Nat) (xs : Nat → Int32) : Prop :=
  p.tables.exec = Jvm.exec ∧ c.code = code ∧ meth.sig.returnType = ret ∧ c.maxLocals = 7 ∧ s.vm.findClass R_law = some m.cls ∧ (∀ w ∈ lw_tbl, w.before #[Value.ref b] s = true) ∧ va_X b L xs s s.heap ∧ b < s.heap.size ∧ meth.locks = false ∧ (Jvm.Cond.and given_1 narrow_1).before #[Value.ref b] s = true
theorem kp_cmp {x y : Int64} (h : x = y) : lg_cmp x y = 0 := by
  subst h
  simp [lg_cmp]
/-- what holds all through the law -/
def lx_ (p : Program) (l : Launch) (s : State) (m : MethodId) (meth : Method) (c : Code) (b L : Nat) (xs : Nat → Int32) (D : va_G) (A : Nat → Nat) : Prop :=
  l.stackTraces = false ∧ CallFix p m c code 7 s #[Value.ref b] T0 R_La ∧ va_X b L xs s s.heap ∧ b < s.heap.size ∧ meth.locks = false ∧ meth.sig.returnType = ret ∧ ka_C s ∧ ka_X D A (fun q : Nat => s.heap.size ≤ q) s
set_option maxRecDepth 100000 in
set_option maxHeartbeats 4000000 in
theorem lc_0 {p : Program} {l : Launch} {e : Env} {s : State} {m : MethodId} {below : List Frame} {meth : Method} {c : Code} {b L : Nat} {xs : Nat → Int32} {D : va_G} {A : Nat → Nat} (I : KS → RS → Prop) (X : lx_ p l s m meth c b L xs D A) {cells slots : Nat} (hc : cells + 1 ≤ room_1.cells) (hsl : slots + 6 ≤ room_1.slots) (x4 : Int32) (h1 : vp_in (x4 + 1) L) (h2 : vp_in (x4 + 2) L) (h3 : vp_in (x4 + 3) L) (σ : KS) (ρ : RS) (f : Nat → Int64) (sim : ∀ x1 x2 x3 : Int32, (∃ (v : Int32) (u : KS) (z : Int32 × RS), f_Ke_label σ x1 x2 x3 = some (.ok v, u) ∧ f_Mo_label ρ x1 x2 x3 = some z ∧ I u z.2) ∨ (∃ (k : Nat) (u : KS) (z : Int32 × RS), (k = 1 ∨ k = 2 ∨ k = 3 ∨ k = 4) ∧ f_Ke_label σ x1 x2 x3 = some (.error k, u) ∧ f_Mo_label ρ x1 x2 x3 = some z ∧ I u z.2)) {H : Heap} {locs : List Loc} {ls : Array Slot} (hP : va_P D vwCl (kp_C A σ ρ f) H) (hD : va_D (fun q : Nat => s.heap.size ≤ q) (kp_C A σ ρ f)) (hS : va_S (fun q : Nat => s.heap.size ≤ q) s.heap H locs) (hl : lv_has ls 7 [(0, .ref b), (1, .ref (A 0)), (2, .ref (A 60)), (3, .ref (A 63)), (4, .int x4)])
    (kk : ∀ (u : KS) (ρ1 : RS) (f1 : Nat → Int64) (H : Heap) (locs : List Loc) (ls : Array Slot), I u ρ1 → va_P D vwCl (kp_C A u ρ1 f1) H → va_D (fun q : Nat => s.heap.size ≤ q) (kp_C A u ρ1 f1) → va_S (fun q : Nat => s.heap.size ≤ q) s.heap H locs → lv_has ls 7 [(0, .ref b), (1, .ref (A 0)), (2, .ref (A 60)), (3, .ref (A 63)), (4, .int x4)] → W p l e room_1 s m #[Value.ref b] below meth c H locs (cells + 1) (slots + 6) (lw_Z below #[Value.ref b] s) (F0 m 1453 ls [])) : W p l e room_1 s m #[Value.ref b] below meth c H locs cells slots (lw_Z below #[Value.ref b] s) (F0 m 152 ls []) := by
  obtain ⟨hl9, S9, hX, hbl, hlk, hr, hC, X9⟩ := X
  obtain ⟨hx, hb, hml, hown, hts⟩ := id S9
  have hK := X9.2.1
  have hbA : ¬ (fun q : Nat => s.heap.size ≤ q) b := Nat.not_le.mpr hbl
  rcases sim (xs (x4 + 1).toNatClampNeg) (xs (x4 + 2).toNatClampNeg) (xs (x4 + 3).toNatClampNeg) with ⟨v, u, z, e1, e2, hI⟩ | ⟨k, u, z, hk, e1, e2, hI⟩
  · refine lv_aload_n hx hb d_La_law_152 rfl (lv_at hl 1 rfl) ?_
    refine lv_aload_n hx hb d_La_law_153 rfl (lv_at hl 0 rfl) ?_
    refine lv_iload hx hb d_La_law_154 (lv_at hl 4 rfl) ?_
    refine lv_iconst (v := 1) hx hb d_La_law_156 (by decide) ?_
    refine lv_iadd hx hb d_La_law_157 ?_
    refine va_sld hx hb hX hbl hbA hS h1 d_La_law_158 ?_
    refine lv_aload_n hx hb d_La_law_159 rfl (lv_at hl 0 rfl) ?_
    refine lv_iload hx hb d_La_law_160 (lv_at hl 4 rfl) ?_
    refine lv_iconst (v := 2) hx hb d_La_law_162 (by decide) ?_
    refine lv_iadd hx hb d_La_law_163 ?_
    refine va_sld hx hb hX hbl hbA hS h2 d_La_law_164 ?_
    refine lv_aload_n hx hb d_La_law_165 rfl (lv_at hl 0 rfl) ?_
    refine lv_iload hx hb d_La_law_166 (lv_at hl 4 rfl) ?_
    refine lv_iconst (v := 3) hx hb d_La_law_168 (by decide) ?_
    refine lv_iadd hx hb d_La_law_169 ?_
    refine va_sld hx hb hX hbl hbA hS h3 d_La_law_170 ?_
    refine lv_aload_n hx hb d_La_law_171 rfl (lv_at hl 3 rfl) ?_
    refine ka_i (vx_runSW (As := [.ref (A 0), .int (xs (x4 + 1).toNatClampNeg), .int (xs (x4 + 2).toNatClampNeg), .int (xs (x4 + 3).toNatClampNeg), .ref (A 63)]) (rest := []) S9 (c_La_label_ok l hl9 D A (MW A ρ []) f _ σ (xs (x4 + 1).toNatClampNeg) (xs (x4 + 2).toNatClampNeg) (xs (x4 + 3).toNatClampNeg) v u e1) (vx_cwSW 5 hts (tg_SW wl_La_91 ws_La_label wi_La wo_La_label) rfl rfl rfl wq_La_label.2 ⟨Nat.le_of_ble_eq_true rfl, Nat.le_of_ble_eq_true rfl⟩) (ka_preC X9 hC hP hD hS) rfl rfl hl.1 rfl (lv_room (Nat.le_of_ble_eq_true rfl)) d_La_law_172 ⟨Nat.le_trans (Nat.le_succ _) hc, Nat.le_trans (Nat.le_add_right _ 6) hsl⟩) X9 hD hS rfl (fun H locs hP hD hS => ?_)
    refine lv_istore (lv' := (5, .int 0) :: [(0, .ref b), (1, .ref (A 0)), (2, .ref (A 60)), (3, .ref (A 63)), (4, .int x4)]) hx hb d_La_law_175 hl (by decide) rfl (fun ls hl => ?_)
    refine lv_aload_n hx hb d_La_law_177 rfl (lv_at hl 3 rfl) ?_
    refine lv_aload_n hx hb d_La_law_178 rfl (lv_at hl 1 rfl) ?_
    refine lv_iload hx hb d_La_law_179 (lv_at hl 5 rfl) ?_
    refine lv_iconst (v := 1) hx hb d_La_law_181 (by decide) ?_
    refine lv_iadd hx hb d_La_law_182 ?_
    refine va_sld hx hb hX hbl hbA hS h1 d_La_law_183 ?_
    refine lv_aload_n hx hb d_La_law_184 rfl (lv_at hl 1 rfl) ?_
    refine lv_iload hx hb d_La_law_185 (lv_at hl 5 rfl) ?_
    refine lv_iconst (v := 2) hx hb d_La_law_187 (by decide) ?_
    refine lv_iadd hx hb d_La_law_188 ?_
    refine va_sld hx hb hX hbl hbA hS h2 d_La_law_189 ?_
    refine lv_aload_n hx hb d_La_law_190 rfl (lv_at hl 1 rfl) ?_
    refine lv_iload hx hb d_La_law_191 (lv_at hl 5 rfl) ?_
    refine lv_iconst (v := 3) hx hb d_La_law_193 (by decide) ?_
    refine lv_iadd hx hb d_La_law_194 ?_
    refine va_sld hx hb hX hbl hbA hS h3 d_La_law_195 ?_
    replace hP := kp_P (kp_perm A u ρ (vp_updL f 0 v.toInt64)) hP
    replace hD := kp_D (kp_perm A u ρ (vp_updL f 0 v.toInt64)) hD
    refine ka_i (va_runV (As := [.int (xs (x4 + 1).toNatClampNeg), .int (xs (x4 + 2).toNatClampNeg), .int (xs (x4 + 3).toNatClampNeg)]) (rest := []) S9 (c_Mo_label l hl9 D A (GW A u [ka_oc A (vp_updL f 0 v.toInt64)]) _ ρ (xs (x4 + 1).toNatClampNeg) (xs (x4 + 2).toNatClampNeg) (xs (x4 + 3).toNatClampNeg) z e2) (cwV 3 hts (tg_V wl_La_96 wm_Mo_label we_Mo_label wi_Mo wo_Mo_label) rfl rfl rfl wq_Mo_label ⟨Nat.le_of_ble_eq_true rfl, Nat.le_of_ble_eq_true rfl⟩) (ka_preV X9 hP hD hS 0 rfl rfl) rfl rfl hl.1 rfl (lv_room (Nat.le_of_ble_eq_true rfl)) d_La_law_196 ⟨Nat.le_trans (Nat.le_succ _) hc, Nat.le_trans (Nat.le_add_right _ 6) hsl⟩) X9 hD hS rfl (fun H locs hP hD hS => ?_)
    refine lv_istore (lv' := (6, .int z.1) :: (5, .int 0) :: [(0, .ref b), (1, .ref (A 0)), (2, .ref (A 60)), (3, .ref (A 63)), (4, .int x4)]) hx hb d_La_law_199 hl (by decide) rfl (fun ls hl => ?_)
    replace hP := kp_P (kp_perm A u z.2 (vp_updL f 0 v.toInt64)).symm hP
    replace hD := kp_D (kp_perm A u z.2 (vp_updL f 0 v.toInt64)).symm hD
    refine lv_goto (tgt := 1453) hx hb d_La_law_201 (by decide) ?_
    refine W.widen (k := cells + 1) (n := slots + 6) (by omega) (by omega) ?_
    exact kk u z.2 (vp_updL f 0 v.toInt64) _ _ _ hI hP hD hS (lv_sub hl [2, 3, 4, 5, 6] rfl)
  refine lv_aload_n hx hb d_La_law_152 rfl (lv_at hl 1 rfl) ?_
  refine lv_aload_n hx hb d_La_law_153 rfl (lv_at hl 0 rfl) ?_
  refine lv_iload hx hb d_La_law_154 (lv_at hl 4 rfl) ?_
  refine lv_iconst (v := 1) hx hb d_La_law_156 (by decide) ?_
  refine lv_iadd hx hb d_La_law_157 ?_
  refine va_sld hx hb hX hbl hbA hS h1 d_La_law_158 ?_
  refine lv_aload_n hx hb d_La_law_159 rfl (lv_at hl 0 rfl) ?_
  refine lv_iload hx hb d_La_law_160 (lv_at hl 4 rfl) ?_
  refine lv_iconst (v := 2) hx hb d_La_law_162 (by decide) ?_
  refine lv_iadd hx hb d_La_law_163 ?_
  refine va_sld hx hb hX hbl hbA hS h2 d_La_law_164 ?_
  refine lv_aload_n hx hb d_La_law_165 rfl (lv_at hl 0 rfl) ?_
  refine lv_iload hx hb d_La_law_166 (lv_at hl 4 rfl) ?_
  refine lv_iconst (v := 3) hx hb d_La_law_168 (by decide) ?_
  refine lv_iadd hx hb d_La_law_169 ?_
  refine va_sld hx hb hX hbl hbA hS h3 d_La_law_170 ?_
  refine lv_aload_n hx hb d_La_law_171 rfl (lv_at hl 3 rfl) ?_
  refine ka_i (vx_runSW (As := [.ref (A 0), .int (xs (x4 + 1).toNatClampNeg), .int (xs (x4 + 2).toNatClampNeg), .int (xs (x4 + 3).toNatClampNeg), .ref (A 63)]) (rest := []) S9 (c_La_label_err l hl9 D A (MW A ρ []) f _ σ (xs (x4 + 1).toNatClampNeg) (xs (x4 + 2).toNatClampNeg) (xs (x4 + 3).toNatClampNeg) k hk u e1) (vx_cwSW 5 hts (tg_SW wl_La_91 ws_La_label wi_La wo_La_label) rfl rfl rfl wq_La_label.2 ⟨Nat.le_of_ble_eq_true rfl, Nat.le_of_ble_eq_true rfl⟩) (ka_preC X9 hC hP hD hS) rfl rfl hl.1 rfl (lv_room (Nat.le_of_ble_eq_true rfl)) d_La_law_172 ⟨hc, hsl⟩) X9 hD hS rfl (fun H locs hP hD hS => ?_)
  refine lv_istore (lv' := (5, .int (nI k)) :: [(0, .ref b), (1, .ref (A 0)), (2, .ref (A 60)), (3, .ref (A 63)), (4, .int x4)]) hx hb d_La_law_175 hl (by decide) rfl (fun ls hl => ?_)
  refine lv_aload_n hx hb d_La_law_177 rfl (lv_at hl 3 rfl) ?_
  refine lv_aload_n hx hb d_La_law_178 rfl (lv_at hl 1 rfl) ?_
  refine lv_iload hx hb d_La_law_179 (lv_at hl 5 rfl) ?_
  refine lv_iconst (v := 1) hx hb d_La_law_181 (by decide) ?_
  refine lv_iadd hx hb d_La_law_182 ?_
  refine va_sld hx hb hX hbl hbA hS h1 d_La_law_183 ?_
  refine lv_aload_n hx hb d_La_law_184 rfl (lv_at hl 1 rfl) ?_
  refine lv_iload hx hb d_La_law_185 (lv_at hl 5 rfl) ?_
  refine lv_iconst (v := 2) hx hb d_La_law_187 (by decide) ?_
  refine lv_iadd hx hb d_La_law_188 ?_
  refine va_sld hx hb hX hbl hbA hS h2 d_La_law_189 ?_
  refine lv_aload_n hx hb d_La_law_190 rfl (lv_at hl 1 rfl) ?_
  refine lv_iload hx hb d_La_law_191 (lv_at hl 5 rfl) ?_
  refine lv_iconst (v := 3) hx hb d_La_law_193 (by decide) ?_
  refine lv_iadd hx hb d_La_law_194 ?_
  refine va_sld hx hb hX hbl hbA hS h3 d_La_law_195 ?_
  replace hP := kp_P (kp_perm A u ρ f) hP
  replace hD := kp_D (kp_perm A u ρ f) hD
  refine ka_i (va_runV (As := [.int (xs (x4 + 1).toNatClampNeg), .int (xs (x4 + 2).toNatClampNeg), .int (xs (x4 + 3).toNatClampNeg)]) (rest := []) S9 (c_Mo_label l hl9 D A (GW A u [ka_oc A f]) _ ρ (xs (x4 + 1).toNatClampNeg) (xs (x4 + 2).toNatClampNeg) (xs (x4 + 3).toNatClampNeg) z e2) (cwV 3 hts (tg_V wl_La_96 wm_Mo_label we_Mo_label wi_Mo wo_Mo_label) rfl rfl rfl wq_Mo_label ⟨Nat.le_of_ble_eq_true rfl, Nat.le_of_ble_eq_true rfl⟩) (ka_preV X9 hP hD hS 0 rfl rfl) rfl rfl hl.1 rfl (lv_room (Nat.le_of_ble_eq_true rfl)) d_La_law_196 ⟨hc, hsl⟩) X9 hD hS rfl (fun H locs hP hD hS => ?_)
  refine lv_istore (lv' := (6, .int z.1) :: (5, .int (nI k)) :: [(0, .ref b), (1, .ref (A 0)), (2, .ref (A 60)), (3, .ref (A 63)), (4, .int x4)]) hx hb d_La_law_199 hl (by decide) rfl (fun ls hl => ?_)
  replace hP := kp_P (kp_perm A u z.2 f).symm hP
  replace hD := kp_D (kp_perm A u z.2 f).symm hD
  refine lv_goto (tgt := 1453) hx hb d_La_law_201 (by decide) ?_
  refine W.widen (k := cells + 1) (n := slots + 6) (by omega) (by omega) ?_
  exact kk u z.2 f _ _ _ hI hP hD hS (lv_sub hl [2, 3, 4, 5, 6] rfl)
set_option maxRecDepth 100000 in
set_option maxHeartbeats 4000000 in
theorem lc_1 {p : Program} {l : Launch} {e : Env} {s : State} {m : MethodId} {below : List Frame} {meth : Method} {c : Code} {b L : Nat} {xs : Nat → Int32} {D : va_G} {A : Nat → Nat} (I : KS → RS → Prop) (X : lx_ p l s m meth c b L xs D A) {cells slots : Nat} (hc : cells + 1 ≤ room_1.cells) (hsl : slots + 6 ≤ room_1.slots) (x4 : Int32) (h1 : vp_in (x4 + 1) L) (h2 : vp_in (x4 + 2) L) (σ : KS) (ρ : RS) (f : Nat → Int64) (sim : ∀ x1 x2 : Int32, (∃ (v : Int32) (u : KS) (z : Int32 × RS), f_Ke_level σ x1 x2 = some (.ok v, u) ∧ f_Mo_level ρ x1 x2 = some z ∧ I u z.2) ∨ (∃ (k : Nat) (u : KS) (z : Int32 × RS), (k = 1 ∨ k = 2 ∨ k = 3 ∨ k = 4) ∧ f_Ke_level σ x1 x2 = some (.error k, u) ∧ f_Mo_level ρ x1 x2 = some z ∧ I u z.2)) {H : Heap} {locs : List Loc} {ls : Array Slot} (hP : va_P D vwCl (kp_C A σ ρ f) H) (hD : va_D (fun q : Nat => s.heap.size ≤ q) (kp_C A σ ρ f)) (hS : va_S (fun q : Nat => s.heap.size ≤ q) s.heap H locs) (hl : lv_has ls 7 [(0, .ref b), (1, .ref (A 0)), (2, .ref (A 60)), (3, .ref (A 63)), (4, .int x4)])
    (kk : ∀ (u : KS) (ρ1 : RS) (f1 : Nat → Int64) (H : Heap) (locs : List Loc) (ls : Array Slot), I u ρ1 → va_P D vwCl (kp_C A u ρ1 f1) H → va_D (fun q : Nat => s.heap.size ≤ q) (kp_C A u ρ1 f1) → va_S (fun q : Nat => s.heap.size ≤ q) s.heap H locs → lv_has ls 7 [(0, .ref b), (1, .ref (A 0)), (2, .ref (A 60)), (3, .ref (A 63)), (4, .int x4)] → W p l e room_1 s m #[Value.ref b] below meth c H locs (cells + 1) (slots + 6) (lw_Z below #[Value.ref b] s) (F0 m 1453 ls [])) : W p l e room_1 s m #[Value.ref b] below meth c H locs cells slots (lw_Z below #[Value.ref b] s) (F0 m 204 ls []) := by
  obtain ⟨hl9, S9, hX, hbl, hlk, hr, hC, X9⟩ := X
  obtain ⟨hx, hb, hml, hown, hts⟩ := id S9
  have hK := X9.2.1
  have hbA : ¬ (fun q : Nat => s.heap.size ≤ q) b := Nat.not_le.mpr hbl
  rcases sim (xs (x4 + 1).toNatClampNeg) (xs (x4 + 2).toNatClampNeg) with ⟨v, u, z, e1, e2, hI⟩ | ⟨k, u, z, hk, e1, e2, hI⟩
  · refine lv_aload_n hx hb d_La_law_204 rfl (lv_at hl 1 rfl) ?_
    refine lv_aload_n hx hb d_La_law_205 rfl (lv_at hl 0 rfl) ?_
    refine lv_iload hx hb d_La_law_206 (lv_at hl 4 rfl) ?_
    refine lv_iconst (v := 1) hx hb d_La_law_208 (by decide) ?_
    refine lv_iadd hx hb d_La_law_209 ?_
    refine va_sld hx hb hX hbl hbA hS h1 d_La_law_210 ?_
    refine lv_aload_n hx hb d_La_law_211 rfl (lv_at hl 0 rfl) ?_
    refine lv_iload hx hb d_La_law_212 (lv_at hl 4 rfl) ?_
    refine lv_iconst (v := 2) hx hb d_La_law_214 (by decide) ?_
    refine lv_iadd hx hb d_La_law_215 ?_
    refine va_sld hx hb hX hbl hbA hS h2 d_La_law_216 ?_
    refine lv_aload_n hx hb d_La_law_217 rfl (lv_at hl 3 rfl) ?_
    refine ka_i (vx_runSW (As := [.ref (A 0), .int (xs (x4 + 1).toNatClampNeg), .int (xs (x4 + 2).toNatClampNeg), .ref (A 63)]) (rest := []) S9 (c_La_level_ok l hl9 D A (MW A ρ []) f _ σ (xs (x4 + 1).toNatClampNeg) (xs (x4 + 2).toNatClampNeg) v u e1) (vx_cwSW 4 hts (tg_SW wl_La_97 ws_La_level wi_La wo_La_level) rfl rfl rfl wq_La_level.2 ⟨Nat.le_of_ble_eq_true rfl, Nat.le_of_ble_eq_true rfl⟩) (ka_preC X9 hC hP hD hS) rfl rfl hl.1 rfl (lv_room (Nat.le_of_ble_eq_true rfl)) d_La_law_218 ⟨Nat.le_trans (Nat.le_succ _) hc, Nat.le_trans (Nat.le_add_right _ 6) hsl⟩) X9 hD hS rfl (fun H locs hP hD hS => ?_)
    refine lv_istore (lv' := (5, .int 0) :: [(0, .ref b), (1, .ref (A 0)), (2, .ref (A 60)), (3, .ref (A 63)), (4, .int x4)]) hx hb d_La_law_221 hl (by decide) rfl (fun ls hl => ?_)
    refine lv_aload_n hx hb d_La_law_223 rfl (lv_at hl 3 rfl) ?_
    refine lv_aload_n hx hb d_La_law_224 rfl (lv_at hl 1 rfl) ?_
    refine lv_iload hx hb d_La_law_225 (lv_at hl 5 rfl) ?_
    refine lv_iconst (v := 1) hx hb d_La_law_227 (by decide) ?_
    refine lv_iadd hx hb d_La_law_228 ?_
    refine va_sld hx hb hX hbl hbA hS h1 d_La_law_229 ?_
    refine lv_aload_n hx hb d_La_law_230 rfl (lv_at hl 1 rfl) ?_
    refine lv_iload hx hb d_La_law_231 (lv_at hl 5 rfl) ?_
    refine lv_iconst (v := 2) hx hb d_La_law_233 (by decide) ?_
    refine lv_iadd hx hb d_La_law_234 ?_
    refine va_sld hx hb hX hbl hbA hS h2 d_La_law_235 ?_
    replace hP := kp_P (kp_perm A u ρ (vp_updL f 0 v.toInt64)) hP
    replace hD := kp_D (kp_perm A u ρ (vp_updL f 0 v.toInt64)) hD
    refine ka_i (va_runV (As := [.int (xs (x4 + 1).toNatClampNeg), .int (xs (x4 + 2).toNatClampNeg)]) (rest := []) S9 (c_Mo_level l hl9 D A (GW A u [ka_oc A (vp_updL f 0 v.toInt64)]) _ ρ (xs (x4 + 1).toNatClampNeg) (xs (x4 + 2).toNatClampNeg) z e2) (cwV 2 hts (tg_V wl_La_100 wm_Mo_level we_Mo_level wi_Mo wo_Mo_level) rfl rfl rfl wq_Mo_level ⟨Nat.le_of_ble_eq_true rfl, Nat.le_of_ble_eq_true rfl⟩) (ka_preV X9 hP hD hS 0 rfl rfl) rfl rfl hl.1 rfl (lv_room (Nat.le_of_ble_eq_true rfl)) d_La_law_236 ⟨Nat.le_trans (Nat.le_succ _) hc, Nat.le_trans (Nat.le_add_right _ 6) hsl⟩) X9 hD hS rfl (fun H locs hP hD hS => ?_)
    refine lv_istore (lv' := (6, .int z.1) :: (5, .int 0) :: [(0, .ref b), (1, .ref (A 0)), (2, .ref (A 60)), (3, .ref (A 63)), (4, .int x4)]) hx hb d_La_law_239 hl (by decide) rfl (fun ls hl => ?_)
    replace hP := kp_P (kp_perm A u z.2 (vp_updL f 0 v.toInt64)).symm hP
    replace hD := kp_D (kp_perm A u z.2 (vp_updL f 0 v.toInt64)).symm hD
    refine lv_goto (tgt := 1453) hx hb d_La_law_241 (by decide) ?_
    refine W.widen (k := cells + 1) (n := slots + 6) (by omega) (by omega) ?_
    exact kk u z.2 (vp_updL f 0 v.toInt64) _ _ _ hI hP hD hS (lv_sub hl [2, 3, 4, 5, 6] rfl)
  refine lv_aload_n hx hb d_La_law_204 rfl (lv_at hl 1 rfl) ?_
  refine lv_aload_n hx hb d_La_law_205 rfl (lv_at hl 0 rfl) ?_
  refine lv_iload hx hb d_La_law_206 (lv_at hl 4 rfl) ?_
  refine lv_iconst (v := 1) hx hb d_La_law_208 (by decide) ?_
  refine lv_iadd hx hb d_La_law_209 ?_
  refine va_sld hx hb hX hbl hbA hS h1 d_La_law_210 ?_
  refine lv_aload_n hx hb d_La_law_211 rfl (lv_at hl 0 rfl) ?_
  refine lv_iload hx hb d_La_law_212 (lv_at hl 4 rfl) ?_
  refine lv_iconst (v := 2) hx hb d_La_law_214 (by decide) ?_
  refine lv_iadd hx hb d_La_law_215 ?_
  refine va_sld hx hb hX hbl hbA hS h2 d_La_law_216 ?_
  refine lv_aload_n hx hb d_La_law_217 rfl (lv_at hl 3 rfl) ?_
  refine ka_i (vx_runSW (As := [.ref (A 0), .int (xs (x4 + 1).toNatClampNeg), .int (xs (x4 + 2).toNatClampNeg), .ref (A 63)]) (rest := []) S9 (c_La_level_err l hl9 D A (MW A ρ []) f _ σ (xs (x4 + 1).toNatClampNeg) (xs (x4 + 2).toNatClampNeg) k hk u e1) (vx_cwSW 4 hts (tg_SW wl_La_97 ws_La_level wi_La wo_La_level) rfl rfl rfl wq_La_level.2 ⟨Nat.le_of_ble_eq_true rfl, Nat.le_of_ble_eq_true rfl⟩) (ka_preC X9 hC hP hD hS) rfl rfl hl.1 rfl (lv_room (Nat.le_of_ble_eq_true rfl)) d_La_law_218 ⟨hc, hsl⟩) X9 hD hS rfl (fun H locs hP hD hS => ?_)
  refine lv_istore (lv' := (5, .int (nI k)) :: [(0, .ref b), (1, .ref (A 0)), (2, .ref (A 60)), (3, .ref (A 63)), (4, .int x4)]) hx hb d_La_law_221 hl (by decide) rfl (fun ls hl => ?_)
  refine lv_aload_n hx hb d_La_law_223 rfl (lv_at hl 3 rfl) ?_
  refine lv_aload_n hx hb d_La_law_224 rfl (lv_at hl 1 rfl) ?_
  refine lv_iload hx hb d_La_law_225 (lv_at hl 5 rfl) ?_
  refine lv_iconst (v := 1) hx hb d_La_law_227 (by decide) ?_
  refine lv_iadd hx hb d_La_law_228 ?_
  refine va_sld hx hb hX hbl hbA hS h1 d_La_law_229 ?_
  refine lv_aload_n hx hb d_La_law_230 rfl (lv_at hl 1 rfl) ?_
  refine lv_iload hx hb d_La_law_231 (lv_at hl 5 rfl) ?_
  refine lv_iconst (v := 2) hx hb d_La_law_233 (by decide) ?_
  refine lv_iadd hx hb d_La_law_234 ?_
  refine va_sld hx hb hX hbl hbA hS h2 d_La_law_235 ?_
  replace hP := kp_P (kp_perm A u ρ f) hP
  replace hD := kp_D (kp_perm A u ρ f) hD
  refine ka_i (va_runV (As := [.int (xs (x4 + 1).toNatClampNeg), .int (xs (x4 + 2).toNatClampNeg)]) (rest := []) S9 (c_Mo_level l hl9 D A (GW A u [ka_oc A f]) _ ρ (xs (x4 + 1).toNatClampNeg) (xs (x4 + 2).toNatClampNeg) z e2) (cwV 2 hts (tg_V wl_La_100 wm_Mo_level we_Mo_level wi_Mo wo_Mo_level) rfl rfl rfl wq_Mo_level ⟨Nat.le_of_ble_eq_true rfl, Nat.le_of_ble_eq_true rfl⟩) (ka_preV X9 hP hD hS 0 rfl rfl) rfl rfl hl.1 rfl (lv_room (Nat.le_of_ble_eq_true rfl)) d_La_law_236 ⟨hc, hsl⟩) X9 hD hS rfl (fun H locs hP hD hS => ?_)
  refine lv_istore (lv' := (6, .int z.1) :: (5, .int (nI k)) :: [(0, .ref b), (1, .ref (A 0)), (2, .ref (A 60)), (3, .ref (A 63)), (4, .int x4)]) hx hb d_La_law_239 hl (by decide) rfl (fun ls hl => ?_)
  replace hP := kp_P (kp_perm A u z.2 f).symm hP
  replace hD := kp_D (kp_perm A u z.2 f).symm hD
  refine lv_goto (tgt := 1453) hx hb d_La_law_241 (by decide) ?_
  refine W.widen (k := cells + 1) (n := slots + 6) (by omega) (by omega) ?_
  exact kk u z.2 f _ _ _ hI hP hD hS (lv_sub hl [2, 3, 4, 5, 6] rfl)
set_option maxRecDepth 100000 in
set_option maxHeartbeats 4000000 in
theorem lc_2 {p : Program} {l : Launch} {e : Env} {s : State} {m : MethodId} {below : List Frame} {meth : Method} {c : Code} {b L : Nat} {xs : Nat → Int32} {D : va_G} {A : Nat → Nat} (I : KS → RS → Prop) (X : lx_ p l s m meth c b L xs D A) {cells slots : Nat} (hc : cells + 1 ≤ room_1.cells) (hsl : slots + 6 ≤ room_1.slots) (x4 : Int32) (h1 : vp_in (x4 + 1) L) (h2 : vp_in (x4 + 2) L) (h3 : vp_in (x4 + 3) L) (σ : KS) (ρ : RS) (f : Nat → Int64) (sim : ∀ x1 x2 x3 : Int32, (∃ (v : Int32) (u : KS) (z : Int32 × RS), f_Ke_fits σ x1 x2 x3 = some (.ok v, u) ∧ f_Mo_fits ρ x1 x2 x3 = some z ∧ I u z.2) ∨ (∃ (k : Nat) (u : KS) (z : Int32 × RS), (k = 1 ∨ k = 2 ∨ k = 3 ∨ k = 4) ∧ f_Ke_fits σ x1 x2 x3 = some (.error k, u) ∧ f_Mo_fits ρ x1 x2 x3 = some z ∧ I u z.2)) {H : Heap} {locs : List Loc} {ls : Array Slot} (hP : va_P D vwCl (kp_C A σ ρ f) H) (hD : va_D (fun q : Nat => s.heap.size ≤ q) (kp_C A σ ρ f)) (hS : va_S (fun q : Nat => s.heap.size ≤ q) s.heap H locs) (hl : lv_has ls 7 [(0, .ref b), (1, .ref (A 0)), (2, .ref (A 60)), (3, .ref (A 63)), (4, .int x4)])
    (kk : ∀ (u : KS) (ρ1 : RS) (f1 : Nat → Int64) (H : Heap) (locs : List Loc) (ls : Array Slot), I u ρ1 → va_P D vwCl (kp_C A u ρ1 f1) H → va_D (fun q : Nat => s.heap.size ≤ q) (kp_C A u ρ1 f1) → va_S (fun q : Nat => s.heap.size ≤ q) s.heap H locs → lv_has ls 7 [(0, .ref b), (1, .ref (A 0)), (2, .ref (A 60)), (3, .ref (A 63)), (4, .int x4)] → W p l e room_1 s m #[Value.ref b] below meth c H locs (cells + 1) (slots + 6) (lw_Z below #[Value.ref b] s) (F0 m 1453 ls [])) : W p l e room_1 s m #[Value.ref b] below meth c H locs cells slots (lw_Z below #[Value.ref b] s) (F0 m 244 ls []) := by
  obtain ⟨hl9, S9, hX, hbl, hlk, hr, hC, X9⟩ := X
  obtain ⟨hx, hb, hml, hown, hts⟩ := id S9
  have hK := X9.2.1
  have hbA : ¬ (fun q : Nat => s.heap.size ≤ q) b := Nat.not_le.mpr hbl
  by_cases cb : xs (x4 + 3).toNatClampNeg = 0
  · rcases sim (xs (x4 + 1).toNatClampNeg) (xs (x4 + 2).toNatClampNeg) 0 with ⟨v, u, z, e1, e2, hI⟩ | ⟨k, u, z, hk, e1, e2, hI⟩
    · refine lv_aload_n hx hb d_La_law_244 rfl (lv_at hl 1 rfl) ?_
      refine lv_aload_n hx hb d_La_law_245 rfl (lv_at hl 0 rfl) ?_
      refine lv_iload hx hb d_La_law_246 (lv_at hl 4 rfl) ?_
      refine lv_iconst (v := 1) hx hb d_La_law_248 (by decide) ?_
      refine lv_iadd hx hb d_La_law_249 ?_
      refine va_sld hx hb hX hbl hbA hS h1 d_La_law_250 ?_
      refine lv_aload_n hx hb d_La_law_251 rfl (lv_at hl 0 rfl) ?_
      refine lv_iload hx hb d_La_law_252 (lv_at hl 4 rfl) ?_
      refine lv_iconst (v := 2) hx hb d_La_law_254 (by decide) ?_
      refine lv_iadd hx hb d_La_law_255 ?_
      refine va_sld hx hb hX hbl hbA hS h2 d_La_law_256 ?_
      refine lv_aload_n hx hb d_La_law_257 rfl (lv_at hl 0 rfl) ?_
      refine lv_iload hx hb d_La_law_258 (lv_at hl 4 rfl) ?_
      refine lv_iconst (v := 3) hx hb d_La_law_260 (by decide) ?_
      refine lv_iadd hx hb d_La_law_261 ?_
      refine va_sld hx hb hX hbl hbA hS h3 d_La_law_262 ?_
      refine lv_if_eq (tgt := 270) hx hb d_La_law_263 (by decide) (fun _ => ?_) (fun c9 => absurd cb c9)
      refine lv_iconst (v := 0) hx hb d_La_law_270 (by decide) ?_
      refine lv_aload_n hx hb d_La_law_271 rfl (lv_at hl 3 rfl) ?_
      refine ka_i (vx_runSW (As := [.ref (A 0), .int (xs (x4 + 1).toNatClampNeg), .int (xs (x4 + 2).toNatClampNeg), .int 0, .ref (A 63)]) (rest := []) S9 (c_La_fits_ok l hl9 D A (MW A ρ []) f _ σ (xs (x4 + 1).toNatClampNeg) (xs (x4 + 2).toNatClampNeg) 0 v u e1) (vx_cwSW 5 hts (tg_SW wl_La_101 ws_La_fits wi_La wo_La_fits) rfl rfl rfl wq_La_fits.2 ⟨Nat.le_of_ble_eq_true rfl, Nat.le_of_ble_eq_true rfl⟩) (ka_preC X9 hC hP hD hS) rfl rfl hl.1 rfl (lv_room (Nat.le_of_ble_eq_true rfl)) d_La_law_272 ⟨Nat.le_trans (Nat.le_succ _) hc, Nat.le_trans (Nat.le_add_right _ 6) hsl⟩) X9 hD hS rfl (fun H locs hP hD hS => ?_)
      refine lv_istore (lv' := (5, .int 0) :: [(0, .ref b), (1, .ref (A 0)), (2, .ref (A 60)), (3, .ref (A 63)), (4, .int x4)]) hx hb d_La_law_275 hl (by decide) rfl (fun ls hl => ?_)
      refine lv_aload_n hx hb d_La_law_277 rfl (lv_at hl 3 rfl) ?_
      refine lv_aload_n hx hb d_La_law_278 rfl (lv_at hl 1 rfl) ?_
      refine lv_iload hx hb d_La_law_279 (lv_at hl 5 rfl) ?_
      refine lv_iconst (v := 1) hx hb d_La_law_281 (by decide) ?_
      refine lv_iadd hx hb d_La_law_282 ?_
      refine va_sld hx hb hX hbl hbA hS h1 d_La_law_283 ?_
      refine lv_aload_n hx hb d_La_law_284 rfl (lv_at hl 1 rfl) ?_
      refine lv_iload hx hb d_La_law_285 (lv_at hl 5 rfl) ?_
      refine lv_iconst (v := 2) hx hb d_La_law_287 (by decide) ?_
      refine lv_iadd hx hb d_La_law_288 ?_
      refine va_sld hx hb hX hbl hbA hS h2 d_La_law_289 ?_
      refine lv_aload_n hx hb d_La_law_290 rfl (lv_at hl 1 rfl) ?_
      refine lv_iload hx hb d_La_law_291 (lv_at hl 5 rfl) ?_
      refine lv_iconst (v := 3) hx hb d_La_law_293 (by decide) ?_
      refine lv_iadd hx hb d_La_law_294 ?_
      refine va_sld hx hb hX hbl hbA hS h3 d_La_law_295 ?_
      refine lv_if_eq (tgt := 303) hx hb d_La_law_296 (by decide) (fun _ => ?_) (fun c9 => absurd cb c9)
      refine lv_iconst (v := 0) hx hb d_La_law_303 (by decide) ?_
      replace hP := kp_P (kp_perm A u ρ (vp_updL f 0 (if v = 0 then 0 else 1))) hP
      replace hD := kp_D (kp_perm A u ρ (vp_updL f 0 (if v = 0 then 0 else 1))) hD
      refine ka_i (va_runV (As := [.int (xs (x4 + 1).toNatClampNeg), .int (xs (x4 + 2).toNatClampNeg), .int 0]) (rest := []) S9 (c_Mo_fits l hl9 D A (GW A u [ka_oc A (vp_updL f 0 (if v = 0 then 0 else 1))]) _ ρ (xs (x4 + 1).toNatClampNeg) (xs (x4 + 2).toNatClampNeg) 0 z e2) (cwV 3 hts (tg_V wl_La_104 wm_Mo_fits we_Mo_fits wi_Mo wo_Mo_fits) rfl rfl rfl wq_Mo_fits ⟨Nat.le_of_ble_eq_true rfl, Nat.le_of_ble_eq_true rfl⟩) (ka_preV X9 hP hD hS 0 rfl rfl) rfl rfl hl.1 rfl (lv_room (Nat.le_of_ble_eq_true rfl)) d_La_law_304 ⟨Nat.le_trans (Nat.le_succ _) hc, Nat.le_trans (Nat.le_add_right _ 6) hsl⟩) X9 hD hS rfl (fun H locs hP hD hS => ?_)
      refine lv_istore (lv' := (6, .int z.1) :: (5, .int 0) :: [(0, .ref b), (1, .ref (A 0)), (2, .ref (A 60)), (3, .ref (A 63)), (4, .int x4)]) hx hb d_La_law_307 hl (by decide) rfl (fun ls hl => ?_)
      replace hP := kp_P (kp_perm A u z.2 (vp_updL f 0 (if v = 0 then 0 else 1))).symm hP
      replace hD := kp_D (kp_perm A u z.2 (vp_updL f 0 (if v = 0 then 0 else 1))).symm hD
      refine lv_goto (tgt := 1453) hx hb d_La_law_309 (by decide) ?_
      refine W.widen (k := cells + 1) (n := slots + 6) (by omega) (by omega) ?_
      exact kk u z.2 (vp_updL f 0 (if v = 0 then 0 else 1)) _ _ _ hI hP hD hS (lv_sub hl [2, 3, 4, 5, 6] rfl)
    refine lv_aload_n hx hb d_La_law_244 rfl (lv_at hl 1 rfl) ?_
    refine lv_aload_n hx hb d_La_law_245 rfl (lv_at hl 0 rfl) ?_
    refine lv_iload hx hb d_La_law_246 (lv_at hl 4 rfl) ?_
    refine lv_iconst (v := 1) hx hb d_La_law_248 (by decide) ?_
    refine lv_iadd hx hb d_La_law_249 ?_
    refine va_sld hx hb hX hbl hbA hS h1 d_La_law_250 ?_
    refine lv_aload_n hx hb d_La_law_251 rfl (lv_at hl 0 rfl) ?_
    refine lv_iload hx hb d_La_law_252 (lv_at hl 4 rfl) ?_
    refine lv_iconst (v := 2) hx hb d_La_law_254 (by decide) ?_
    refine lv_iadd hx hb d_La_law_255 ?_
    refine va_sld hx hb hX hbl hbA hS h2 d_La_law_256 ?_
    refine lv_aload_n hx hb d_La_law_257 rfl (lv_at hl 0 rfl) ?_
    refine lv_iload hx hb d_La_law_258 (lv_at hl 4 rfl) ?_
    refine lv_iconst (v := 3) hx hb d_La_law_260 (by decide) ?_
    refine lv_iadd hx hb d_La_law_261 ?_
    refine va_sld hx hb hX hbl hbA hS h3 d_La_law_262 ?_
    refine lv_if_eq (tgt := 270) hx hb d_La_law_263 (by decide) (fun _ => ?_) (fun c9 => absurd cb c9)
    refine lv_iconst (v := 0) hx hb d_La_law_270 (by decide) ?_
    refine lv_aload_n hx hb d_La_law_271 rfl (lv_at hl 3 rfl) ?_
    refine ka_i (vx_runSW (As := [.ref (A 0), .int (xs (x4 + 1).toNatClampNeg), .int (xs (x4 + 2).toNatClampNeg), .int 0, .ref (A 63)]) (rest := []) S9 (c_La_fits_err l hl9 D A (MW A ρ []) f _ σ (xs (x4 + 1).toNatClampNeg) (xs (x4 + 2).toNatClampNeg) 0 k hk u e1) (vx_cwSW 5 hts (tg_SW wl_La_101 ws_La_fits wi_La wo_La_fits) rfl rfl rfl wq_La_fits.2 ⟨Nat.le_of_ble_eq_true rfl, Nat.le_of_ble_eq_true rfl⟩) (ka_preC X9 hC hP hD hS) rfl rfl hl.1 rfl (lv_room (Nat.le_of_ble_eq_true rfl)) d_La_law_272 ⟨hc, hsl⟩) X9 hD hS rfl (fun H locs hP hD hS => ?_)
    refine lv_istore (lv' := (5, .int (nI k)) :: [(0, .ref b), (1, .ref (A 0)), (2, .ref (A 60)), (3, .ref (A 63)), (4, .int x4)]) hx hb d_La_law_275 hl (by decide) rfl (fun ls hl => ?_)
    refine lv_aload_n hx hb d_La_law_277 rfl (lv_at hl 3 rfl) ?_
    refine lv_aload_n hx hb d_La_law_278 rfl (lv_at hl 1 rfl) ?_
    refine lv_iload hx hb d_La_law_279 (lv_at hl 5 rfl) ?_
    refine lv_iconst (v := 1) hx hb d_La_law_281 (by decide) ?_
    refine lv_iadd hx hb d_La_law_282 ?_
    refine va_sld hx hb hX hbl hbA hS h1 d_La_law_283 ?_
    refine lv_aload_n hx hb d_La_law_284 rfl (lv_at hl 1 rfl) ?_
    refine lv_iload hx hb d_La_law_285 (lv_at hl 5 rfl) ?_
    refine lv_iconst (v := 2) hx hb d_La_law_287 (by decide) ?_
    refine lv_iadd hx hb d_La_law_288 ?_
    refine va_sld hx hb hX hbl hbA hS h2 d_La_law_289 ?_
    refine lv_aload_n hx hb d_La_law_290 rfl (lv_at hl 1 rfl) ?_
    refine lv_iload hx hb d_La_law_291 (lv_at hl 5 rfl) ?_
    refine lv_iconst (v := 3) hx hb d_La_law_293 (by decide) ?_
    refine lv_iadd hx hb d_La_law_294 ?_
    refine va_sld hx hb hX hbl hbA hS h3 d_La_law_295 ?_
    refine lv_if_eq (tgt := 303) hx hb d_La_law_296 (by decide) (fun _ => ?_) (fun c9 => absurd cb c9)
    refine lv_iconst (v := 0) hx hb d_La_law_303 (by decide) ?_
    replace hP := kp_P (kp_perm A u ρ f) hP
    replace hD := kp_D (kp_perm A u ρ f) hD
    refine ka_i (va_runV (As := [.int (xs (x4 + 1).toNatClampNeg), .int (xs (x4 + 2).toNatClampNeg), .int 0]) (rest := []) S9 (c_Mo_fits l hl9 D A (GW A u [ka_oc A f]) _ ρ (xs (x4 + 1).toNatClampNeg) (xs (x4 + 2).toNatClampNeg) 0 z e2) (cwV 3 hts (tg_V wl_La_104 wm_Mo_fits we_Mo_fits wi_Mo wo_Mo_fits) rfl rfl rfl wq_Mo_fits ⟨Nat.le_of_ble_eq_true rfl, Nat.le_of_ble_eq_true rfl⟩) (ka_preV X9 hP hD hS 0 rfl rfl) rfl rfl hl.1 rfl (lv_room (Nat.le_of_ble_eq_true rfl)) d_La_law_304 ⟨hc, hsl⟩) X9 hD hS rfl (fun H locs hP hD hS => ?_)
    refine lv_istore (lv' := (6, .int z.1) :: (5, .int (nI k)) :: [(0, .ref b), (1, .ref (A 0)), (2, .ref (A 60)), (3, .ref (A 63)), (4, .int x4)]) hx hb d_La_law_307 hl (by decide) rfl (fun ls hl => ?_)
    replace hP := kp_P (kp_perm A u z.2 f).symm hP
    replace hD := kp_D (kp_perm A u z.2 f).symm hD
    refine lv_goto (tgt := 1453) hx hb d_La_law_309 (by decide) ?_
    refine W.widen (k := cells + 1) (n := slots + 6) (by omega) (by omega) ?_
    exact kk u z.2 f _ _ _ hI hP hD hS (lv_sub hl [2, 3, 4, 5, 6] rfl)
  rcases sim (xs (x4 + 1).toNatClampNeg) (xs (x4 + 2).toNatClampNeg) 1 with ⟨v, u, z, e1, e2, hI⟩ | ⟨k, u, z, hk, e1, e2, hI⟩
  · refine lv_aload_n hx hb d_La_law_244 rfl (lv_at hl 1 rfl) ?_
    refine lv_aload_n hx hb d_La_law_245 rfl (lv_at hl 0 rfl) ?_
    refine lv_iload hx hb d_La_law_246 (lv_at hl 4 rfl) ?_
    refine lv_iconst (v := 1) hx hb d_La_law_248 (by decide) ?_
    refine lv_iadd hx hb d_La_law_249 ?_
    refine va_sld hx hb hX hbl hbA hS h1 d_La_law_250 ?_
    refine lv_aload_n hx hb d_La_law_251 rfl (lv_at hl 0 rfl) ?_
    refine lv_iload hx hb d_La_law_252 (lv_at hl 4 rfl) ?_
    refine lv_iconst (v := 2) hx hb d_La_law_254 (by decide) ?_
    refine lv_iadd hx hb d_La_law_255 ?_
    refine va_sld hx hb hX hbl hbA hS h2 d_La_law_256 ?_
    refine lv_aload_n hx hb d_La_law_257 rfl (lv_at hl 0 rfl) ?_
    refine lv_iload hx hb d_La_law_258 (lv_at hl 4 rfl) ?_
    refine lv_iconst (v := 3) hx hb d_La_law_260 (by decide) ?_
    refine lv_iadd hx hb d_La_law_261 ?_
    refine va_sld hx hb hX hbl hbA hS h3 d_La_law_262 ?_
    refine lv_if_eq (tgt := 270) hx hb d_La_law_263 (by decide) (fun c9 => absurd c9 cb) (fun _ => ?_)
    refine lv_iconst (v := 1) hx hb d_La_law_266 (by decide) ?_
    refine lv_goto (tgt := 271) hx hb d_La_law_267 (by decide) ?_
    refine lv_aload_n hx hb d_La_law_271 rfl (lv_at hl 3 rfl) ?_
    refine ka_i (vx_runSW (As := [.ref (A 0), .int (xs (x4 + 1).toNatClampNeg), .int (xs (x4 + 2).toNatClampNeg), .int 1, .ref (A 63)]) (rest := []) S9 (c_La_fits_ok l hl9 D A (MW A ρ []) f _ σ (xs (x4 + 1).toNatClampNeg) (xs (x4 + 2).toNatClampNeg) 1 v u e1) (vx_cwSW 5 hts (tg_SW wl_La_101 ws_La_fits wi_La wo_La_fits) rfl rfl rfl wq_La_fits.2 ⟨Nat.le_of_ble_eq_true rfl, Nat.le_of_ble_eq_true rfl⟩) (ka_preC X9 hC hP hD hS) rfl rfl hl.1 rfl (lv_room (Nat.le_of_ble_eq_true rfl)) d_La_law_272 ⟨Nat.le_trans (Nat.le_succ _) hc, Nat.le_trans (Nat.le_add_right _ 6) hsl⟩) X9 hD hS rfl (fun H locs hP hD hS => ?_)
    refine lv_istore (lv' := (5, .int 0) :: [(0, .ref b), (1, .ref (A 0)), (2, .ref (A 60)), (3, .ref (A 63)), (4, .int x4)]) hx hb d_La_law_275 hl (by decide) rfl (fun ls hl => ?_)
    refine lv_aload_n hx hb d_La_law_277 rfl (lv_at hl 3 rfl) ?_
    refine lv_aload_n hx hb d_La_law_278 rfl (lv_at hl 1 rfl) ?_
    refine lv_iload hx hb d_La_law_279 (lv_at hl 5 rfl) ?_
    refine lv_iconst (v := 1) hx hb d_La_law_281 (by decide) ?_
    refine lv_iadd hx hb d_La_law_282 ?_
    refine va_sld hx hb hX hbl hbA hS h1 d_La_law_283 ?_
    refine lv_aload_n hx hb d_La_law_284 rfl (lv_at hl 1 rfl) ?_
    refine lv_iload hx hb d_La_law_285 (lv_at hl 5 rfl) ?_
    refine lv_iconst (v := 2) hx hb d_La_law_287 (by decide) ?_
    refine lv_iadd hx hb d_La_law_288 ?_
    refine va_sld hx hb hX hbl hbA hS h2 d_La_law_289 ?_
    refine lv_aload_n hx hb d_La_law_290 rfl (lv_at hl 1 rfl) ?_
    refine lv_iload hx hb d_La_law_291 (lv_at hl 5 rfl) ?_
    refine lv_iconst (v := 3) hx hb d_La_law_293 (by decide) ?_
    refine lv_iadd hx hb d_La_law_294 ?_
    refine va_sld hx hb hX hbl hbA hS h3 d_La_law_295 ?_
    refine lv_if_eq (tgt := 303) hx hb d_La_law_296 (by decide) (fun c9 => absurd c9 cb) (fun _ => ?_)
    refine lv_iconst (v := 1) hx hb d_La_law_299 (by decide) ?_
    refine lv_goto (tgt := 304) hx hb d_La_law_300 (by decide) ?_
    replace hP := kp_P (kp_perm A u ρ (vp_updL f 0 (if v = 0 then 0 else 1))) hP
    replace hD := kp_D (kp_perm A u ρ (vp_updL f 0 (if v = 0 then 0 else 1))) hD
    refine ka_i (va_runV (As := [.int (xs (x4 + 1).toNatClampNeg), .int (xs (x4 + 2).toNatClampNeg), .int 1]) (rest := []) S9 (c_Mo_fits l hl9 D A (GW A u [ka_oc A (vp_updL f 0 (if v = 0 then 0 else 1))]) _ ρ (xs (x4 + 1).toNatClampNeg) (xs (x4 + 2).toNatClampNeg) 1 z e2) (cwV 3 hts (tg_V wl_La_104 wm_Mo_fits we_Mo_fits wi_Mo wo_Mo_fits) rfl rfl rfl wq_Mo_fits ⟨Nat.le_of_ble_eq_true rfl, Nat.le_of_ble_eq_true rfl⟩) (ka_preV X9 hP hD hS 0 rfl rfl) rfl rfl hl.1 rfl (lv_room (Nat.le_of_ble_eq_true rfl)) d_La_law_304 ⟨Nat.le_trans (Nat.le_succ _) hc, Nat.le_trans (Nat.le_add_right _ 6) hsl⟩) X9 hD hS rfl (fun H locs hP hD hS => ?_)
    refine lv_istore (lv' := (6, .int z.1) :: (5, .int 0) :: [(0, .ref b), (1, .ref (A 0)), (2, .ref (A 60)), (3, .ref (A 63)), (4, .int x4)]) hx hb d_La_law_307 hl (by decide) rfl (fun ls hl => ?_)
    replace hP := kp_P (kp_perm A u z.2 (vp_updL f 0 (if v = 0 then 0 else 1))).symm hP
    replace hD := kp_D (kp_perm A u z.2 (vp_updL f 0 (if v = 0 then 0 else 1))).symm hD
    refine lv_goto (tgt := 1453) hx hb d_La_law_309 (by decide) ?_
    refine W.widen (k := cells + 1) (n := slots + 6) (by omega) (by omega) ?_
    exact kk u z.2 (vp_updL f 0 (if v = 0 then 0 else 1)) _ _ _ hI hP hD hS (lv_sub hl [2, 3, 4, 5, 6] rfl)
  refine lv_aload_n hx hb d_La_law_244 rfl (lv_at hl 1 rfl) ?_
  refine lv_aload_n hx hb d_La_law_245 rfl (lv_at hl 0 rfl) ?_
  refine lv_iload hx hb d_La_law_246 (lv_at hl 4 rfl) ?_
  refine lv_iconst (v := 1) hx hb d_La_law_248 (by decide) ?_
  refine lv_iadd hx hb d_La_law_249 ?_
  refine va_sld hx hb hX hbl hbA hS h1 d_La_law_250 ?_
  refine lv_aload_n hx hb d_La_law_251 rfl (lv_at hl 0 rfl) ?_
  refine lv_iload hx hb d_La_law_252 (lv_at hl 4 rfl) ?_
  refine lv_iconst (v := 2) hx hb d_La_law_254 (by decide) ?_
  refine lv_iadd hx hb d_La_law_255 ?_
  refine va_sld hx hb hX hbl hbA hS h2 d_La_law_256 ?_
  refine lv_aload_n hx hb d_La_law_257 rfl (lv_at hl 0 rfl) ?_
  refine lv_iload hx hb d_La_law_258 (lv_at hl 4 rfl) ?_
  refine lv_iconst (v := 3) hx hb d_La_law_260 (by decide) ?_
  refine lv_iadd hx hb d_La_law_261 ?_
  refine va_sld hx hb hX hbl hbA hS h3 d_La_law_262 ?_
  refine lv_if_eq (tgt := 270) hx hb d_La_law_263 (by decide) (fun c9 => absurd c9 cb) (fun _ => ?_)
  refine lv_iconst (v := 1) hx hb d_La_law_266 (by decide) ?_
  refine lv_goto (tgt := 271) hx hb d_La_law_267 (by decide) ?_
  refine lv_aload_n hx hb d_La_law_271 rfl (lv_at hl 3 rfl) ?_
  refine ka_i (vx_runSW (As := [.ref (A 0), .int (xs (x4 + 1).toNatClampNeg), .int (xs (x4 + 2).toNatClampNeg), .int 1, .ref (A 63)]) (rest := []) S9 (c_La_fits_err l hl9 D A (MW A ρ []) f _ σ (xs (x4 + 1).toNatClampNeg) (xs (x4 + 2).toNatClampNeg) 1 k hk u e1) (vx_cwSW 5 hts (tg_SW wl_La_101 ws_La_fits wi_La wo_La_fits) rfl rfl rfl wq_La_fits.2 ⟨Nat.le_of_ble_eq_true rfl, Nat.le_of_ble_eq_true rfl⟩) (ka_preC X9 hC hP hD hS) rfl rfl hl.1 rfl (lv_room (Nat.le_of_ble_eq_true rfl)) d_La_law_272 ⟨hc, hsl⟩) X9 hD hS rfl (fun H locs hP hD hS => ?_)
  refine lv_istore (lv' := (5, .int (nI k)) :: [(0, .ref b), (1, .ref (A 0)), (2, .ref (A 60)), (3, .ref (A 63)), (4, .int x4)]) hx hb d_La_law_275 hl (by decide) rfl (fun ls hl => ?_)
  refine lv_aload_n hx hb d_La_law_277 rfl (lv_at hl 3 rfl) ?_
  refine lv_aload_n hx hb d_La_law_278 rfl (lv_at hl 1 rfl) ?_
  refine lv_iload hx hb d_La_law_279 (lv_at hl 5 rfl) ?_
  refine lv_iconst (v := 1) hx hb d_La_law_281 (by decide) ?_
  refine lv_iadd hx hb d_La_law_282 ?_
  refine va_sld hx hb hX hbl hbA hS h1 d_La_law_283 ?_
  refine lv_aload_n hx hb d_La_law_284 rfl (lv_at hl 1 rfl) ?_
  refine lv_iload hx hb d_La_law_285 (lv_at hl 5 rfl) ?_
  refine lv_iconst (v := 2) hx hb d_La_law_287 (by decide) ?_
  refine lv_iadd hx hb d_La_law_288 ?_
  refine va_sld hx hb hX hbl hbA hS h2 d_La_law_289 ?_
  refine lv_aload_n hx hb d_La_law_290 rfl (lv_at hl 1 rfl) ?_
  refine lv_iload hx hb d_La_law_291 (lv_at hl 5 rfl) ?_
  refine lv_iconst (v := 3) hx hb d_La_law_293 (by decide) ?_
  refine lv_iadd hx hb d_La_law_294 ?_
  refine va_sld hx hb hX hbl hbA hS h3 d_La_law_295 ?_
  refine lv_if_eq (tgt := 303) hx hb d_La_law_296 (by decide) (fun c9 => absurd c9 cb) (fun _ => ?_)
  refine lv_iconst (v := 1) hx hb d_La_law_299 (by decide) ?_
  refine lv_goto (tgt := 304) hx hb d_La_law_300 (by decide) ?_
  replace hP := kp_P (kp_perm A u ρ f) hP
  replace hD := kp_D (kp_perm A u ρ f) hD
  refine ka_i (va_runV (As := [.int (xs (x4 + 1).toNatClampNeg), .int (xs (x4 + 2).toNatClampNeg), .int 1]) (rest := []) S9 (c_Mo_fits l hl9 D A (GW A u [ka_oc A f]) _ ρ (xs (x4 + 1).toNatClampNeg) (xs (x4 + 2).toNatClampNeg) 1 z e2) (cwV 3 hts (tg_V wl_La_104 wm_Mo_fits we_Mo_fits wi_Mo wo_Mo_fits) rfl rfl rfl wq_Mo_fits ⟨Nat.le_of_ble_eq_true rfl, Nat.le_of_ble_eq_true rfl⟩) (ka_preV X9 hP hD hS 0 rfl rfl) rfl rfl hl.1 rfl (lv_room (Nat.le_of_ble_eq_true rfl)) d_La_law_304 ⟨hc, hsl⟩) X9 hD hS rfl (fun H locs hP hD hS => ?_)
  refine lv_istore (lv' := (6, .int z.1) :: (5, .int (nI k)) :: [(0, .ref b), (1, .ref (A 0)), (2, .ref (A 60)), (3, .ref (A 63)), (4, .int x4)]) hx hb d_La_law_307 hl (by decide) rfl (fun ls hl => ?_)
  replace hP := kp_P (kp_perm A u z.2 f).symm hP
  replace hD := kp_D (kp_perm A u z.2 f).symm hD
  refine lv_goto (tgt := 1453) hx hb d_La_law_309 (by decide) ?_
  refine W.widen (k := cells + 1) (n := slots + 6) (by omega) (by omega) ?_
  exact kk u z.2 f _ _ _ hI hP hD hS (lv_sub hl [2, 3, 4, 5, 6] rfl)
set_option maxRecDepth 100000 in
set_option maxHeartbeats 4000000 in
theorem lc_3 {p : Program} {l : Launch} {e : Env} {s : State} {m : MethodId} {below : List Frame} {meth : Method} {c : Code} {b L : Nat} {xs : Nat → Int32} {D : va_G} {A : Nat → Nat} (I : KS → RS → Prop) (X : lx_ p l s m meth c b L xs D A) {cells slots : Nat} (hc : cells + 1 ≤ room_1.cells) (hsl : slots + 6 ≤ room_1.slots) (x4 : Int32) (h1 : vp_in (x4 + 1) L) (σ : KS) (ρ : RS) (f : Nat → Int64) (sim : ∀ x1 : Int32, (∃ (v : Int32) (u : KS) (z : Int32 × RS), f_Ke_category σ x1 = some (.ok v, u) ∧ f_Mo_category ρ x1 = some z ∧ I u z.2) ∨ (∃ (k : Nat) (u : KS) (z : Int32 × RS), (k = 1 ∨ k = 2 ∨ k = 3 ∨ k = 4) ∧ f_Ke_category σ x1 = some (.error k, u) ∧ f_Mo_category ρ x1 = some z ∧ I u z.2)) {H : Heap} {locs : List Loc} {ls : Array Slot} (hP : va_P D vwCl (kp_C A σ ρ f) H) (hD : va_D (fun q : Nat => s.heap.size ≤ q) (kp_C A σ ρ f)) (hS : va_S (fun q : Nat => s.heap.size ≤ q) s.heap H locs) (hl : lv_has ls 7 [(0, .ref b), (1, .ref (A 0)), (2, .ref (A 60)), (3, .ref (A 63)), (4, .int x4)])
    (kk : ∀ (u : KS) (ρ1 : RS) (f1 : Nat → Int64) (H : Heap) (locs : List Loc) (ls : Array Slot), I u ρ1 → va_P D vwCl (kp_C A u ρ1 f1) H → va_D (fun q : Nat => s.heap.size ≤ q) (kp_C A u ρ1 f1) → va_S (fun q : Nat => s.heap.size ≤ q) s.heap H locs → lv_has ls 7 [(0, .ref b), (1, .ref (A 0)), (2, .ref (A 60)), (3, .ref (A 63)), (4, .int x4)] → W p l e room_1 s m #[Value.ref b] below meth c H locs (cells + 1) (slots + 6) (lw_Z below #[Value.ref b] s) (F0 m 1453 ls [])) : W p l e room_1 s m #[Value.ref b] below meth c H locs cells slots (lw_Z below #[Value.ref b] s) (F0 m 312 ls []) := by
  obtain ⟨hl9, S9, hX, hbl, hlk, hr, hC, X9⟩ := X
  obtain ⟨hx, hb, hml, hown, hts⟩ := id S9
  have hK := X9.2.1
  have hbA : ¬ (fun q : Nat => s.heap.size ≤ q) b := Nat.not_le.mpr hbl
  rcases sim (xs (x4 + 1).toNatClampNeg) with ⟨v, u, z, e1, e2, hI⟩ | ⟨k, u, z, hk, e1, e2, hI⟩
  · refine lv_aload_n hx hb d_La_law_312 rfl (lv_at hl 1 rfl) ?_
    refine lv_aload_n hx hb d_La_law_313 rfl (lv_at hl 0 rfl) ?_
    refine lv_iload hx hb d_La_law_314 (lv_at hl 4 rfl) ?_
    refine lv_iconst (v := 1) hx hb d_La_law_316 (by decide) ?_
    refine lv_iadd hx hb d_La_law_317 ?_
    refine va_sld hx hb hX hbl hbA hS h1 d_La_law_318 ?_
    refine lv_aload_n hx hb d_La_law_319 rfl (lv_at hl 3 rfl) ?_
    refine ka_i (vx_runSW (As := [.ref (A 0), .int (xs (x4 + 1).toNatClampNeg), .ref (A 63)]) (rest := []) S9 (c_La_category_ok l hl9 D A (MW A ρ []) f _ σ (xs (x4 + 1).toNatClampNeg) v u e1) (vx_cwSW 3 hts (tg_SW wl_La_105 ws_La_category wi_La wo_La_category) rfl rfl rfl wq_La_category.2 ⟨Nat.le_of_ble_eq_true rfl, Nat.le_of_ble_eq_true rfl⟩) (ka_preC X9 hC hP hD hS) rfl rfl hl.1 rfl (lv_room (Nat.le_of_ble_eq_true rfl)) d_La_law_320 ⟨Nat.le_trans (Nat.le_succ _) hc, Nat.le_trans (Nat.le_add_right _ 6) hsl⟩) X9 hD hS rfl (fun H locs hP hD hS => ?_)
    refine lv_istore (lv' := (5, .int 0) :: [(0, .ref b), (1, .ref (A 0)), (2, .ref (A 60)), (3, .ref (A 63)), (4, .int x4)]) hx hb d_La_law_323 hl (by decide) rfl (fun ls hl => ?_)
    refine lv_aload_n hx hb d_La_law_325 rfl (lv_at hl 3 rfl) ?_
    refine lv_aload_n hx hb d_La_law_326 rfl (lv_at hl 1 rfl) ?_
    refine lv_iload hx hb d_La_law_327 (lv_at hl 5 rfl) ?_
    refine lv_iconst (v := 1) hx hb d_La_law_329 (by decide) ?_
    refine lv_iadd hx hb d_La_law_330 ?_
    refine va_sld hx hb hX hbl hbA hS h1 d_La_law_331 ?_
    replace hP := kp_P (kp_perm A u ρ (vp_updL f 0 v.toInt64)) hP
    replace hD := kp_D (kp_perm A u ρ (vp_updL f 0 v.toInt64)) hD
    refine ka_i (va_runV (As := [.int (xs (x4 + 1).toNatClampNeg)]) (rest := []) S9 (c_Mo_category l hl9 D A (GW A u [ka_oc A (vp_updL f 0 v.toInt64)]) _ ρ (xs (x4 + 1).toNatClampNeg) z e2) (cwV 1 hts (tg_V wl_La_108 wm_Mo_category we_Mo_category wi_Mo wo_Mo_category) rfl rfl rfl wq_Mo_category ⟨Nat.le_of_ble_eq_true rfl, Nat.le_of_ble_eq_true rfl⟩) (ka_preV X9 hP hD hS 0 rfl rfl) rfl rfl hl.1 rfl (lv_room (Nat.le_of_ble_eq_true rfl)) d_La_law_332 ⟨Nat.le_trans (Nat.le_succ _) hc, Nat.le_trans (Nat.le_add_right _ 6) hsl⟩) X9 hD hS rfl (fun H locs hP hD hS => ?_)
    refine lv_istore (lv' := (6, .int z.1) :: (5, .int 0) :: [(0, .ref b), (1, .ref (A 0)), (2, .ref (A 60)), (3, .ref (A 63)), (4, .int x4)]) hx hb d_La_law_335 hl (by decide) rfl (fun ls hl => ?_)
    replace hP := kp_P (kp_perm A u z.2 (vp_updL f 0 v.toInt64)).symm hP
    replace hD := kp_D (kp_perm A u z.2 (vp_updL f 0 v.toInt64)).symm hD
    refine lv_goto (tgt := 1453) hx hb d_La_law_337 (by decide) ?_
    refine W.widen (k := cells + 1) (n := slots + 6) (by omega) (by omega) ?_
    exact kk u z.2 (vp_updL f 0 v.toInt64) _ _ _ hI hP hD hS (lv_sub hl [2, 3, 4, 5, 6] rfl)
  refine lv_aload_n hx hb d_La_law_312 rfl (lv_at hl 1 rfl) ?_
  refine lv_aload_n hx hb d_La_law_313 rfl (lv_at hl 0 rfl) ?_
  refine lv_iload hx hb d_La_law_314 (lv_at hl 4 rfl) ?_
  refine lv_iconst (v := 1) hx hb d_La_law_316 (by decide) ?_
  refine lv_iadd hx hb d_La_law_317 ?_
  refine va_sld hx hb hX hbl hbA hS h1 d_La_law_318 ?_
  refine lv_aload_n hx hb d_La_law_319 rfl (lv_at hl 3 rfl) ?_
  refine ka_i (vx_runSW (As := [.ref (A 0), .int (xs (x4 + 1).toNatClampNeg), .ref (A 63)]) (rest := []) S9 (c_La_category_err l hl9 D A (MW A ρ []) f _ σ (xs (x4 + 1).toNatClampNeg) k hk u e1) (vx_cwSW 3 hts (tg_SW wl_La_105 ws_La_category wi_La wo_La_category) rfl rfl rfl wq_La_category.2 ⟨Nat.le_of_ble_eq_true rfl, Nat.le_of_ble_eq_true rfl⟩) (ka_preC X9 hC hP hD hS) rfl rfl hl.1 rfl (lv_room (Nat.le_of_ble_eq_true rfl)) d_La_law_320 ⟨hc, hsl⟩) X9 hD hS rfl (fun H locs hP hD hS => ?_)
  refine lv_istore (lv' := (5, .int (nI k)) :: [(0, .ref b), (1, .ref (A 0)), (2, .ref (A 60)), (3, .ref (A 63)), (4, .int x4)]) hx hb d_La_law_323 hl (by decide) rfl (fun ls hl => ?_)
  refine lv_aload_n hx hb d_La_law_325 rfl (lv_at hl 3 rfl) ?_
  refine lv_aload_n hx hb d_La_law_326 rfl (lv_at hl 1 rfl) ?_
  refine lv_iload hx hb d_La_law_327 (lv_at hl 5 rfl) ?_
  refine lv_iconst (v := 1) hx hb d_La_law_329 (by decide) ?_
  refine lv_iadd hx hb d_La_law_330 ?_
  refine va_sld hx hb hX hbl hbA hS h1 d_La_law_331 ?_
  replace hP := kp_P (kp_perm A u ρ f) hP
  replace hD := kp_D (kp_perm A u ρ f) hD
  refine ka_i (va_runV (As := [.int (xs (x4 + 1).toNatClampNeg)]) (rest := []) S9 (c_Mo_category l hl9 D A (GW A u [ka_oc A f]) _ ρ (xs (x4 + 1).toNatClampNeg) z e2) (cwV 1 hts (tg_V wl_La_108 wm_Mo_category we_Mo_category wi_Mo wo_Mo_category) rfl rfl rfl wq_Mo_category ⟨Nat.le_of_ble_eq_true rfl, Nat.le_of_ble_eq_true rfl⟩) (ka_preV X9 hP hD hS 0 rfl rfl) rfl rfl hl.1 rfl (lv_room (Nat.le_of_ble_eq_true rfl)) d_La_law_332 ⟨hc, hsl⟩) X9 hD hS rfl (fun H locs hP hD hS => ?_)
  refine lv_istore (lv' := (6, .int z.1) :: (5, .int (nI k)) :: [(0, .ref b), (1, .ref (A 0)), (2, .ref (A 60)), (3, .ref (A 63)), (4, .int x4)]) hx hb d_La_law_335 hl (by decide) rfl (fun ls hl => ?_)
  replace hP := kp_P (kp_perm A u z.2 f).symm hP
  replace hD := kp_D (kp_perm A u z.2 f).symm hD
  refine lv_goto (tgt := 1453) hx hb d_La_law_337 (by decide) ?_
  refine W.widen (k := cells + 1) (n := slots + 6) (by omega) (by omega) ?_
  exact kk u z.2 f _ _ _ hI hP hD hS (lv_sub hl [2, 3, 4, 5, 6] rfl)
set_option maxRecDepth 100000 in
set_option maxHeartbeats 4000000 in
theorem lc_4 {p : Program} {l : Launch} {e : Env} {s : State} {m : MethodId} {below : List Frame} {meth : Method} {c : Code} {b L : Nat} {xs : Nat → Int32} {D : va_G} {A : Nat → Nat} (I : KS → RS → Prop) (X : lx_ p l s m meth c b L xs D A) {cells slots : Nat} (hc : cells + 1 ≤ room_1.cells) (hsl : slots + 6 ≤ room_1.slots) (x4 : Int32) (h1 : vp_in (x4 + 1) L) (h2 : vp_in (x4 + 2) L) (h3 : vp_in (x4 + 3) L) (h4 : vp_in (x4 + 4) L) (σ : KS) (ρ : RS) (f : Nat → Int64) (sim : ∀ x1 x2 x3 x4 : Int32, (∃ (v : Int32) (u : KS) (z : Int32 × RS), f_Ke_container σ x1 x2 x3 x4 = some (.ok v, u) ∧ f_Mo_container ρ x1 x2 x3 x4 = some z ∧ I u z.2) ∨ (∃ (k : Nat) (u : KS) (z : Int32 × RS), (k = 1 ∨ k = 2 ∨ k = 3 ∨ k = 4) ∧ f_Ke_container σ x1 x2 x3 x4 = some (.error k, u) ∧ f_Mo_container ρ x1 x2 x3 x4 = some z ∧ I u z.2)) {H : Heap} {locs : List Loc} {ls : Array Slot} (hP : va_P D vwCl (kp_C A σ ρ f) H) (hD : va_D (fun q : Nat => s.heap.size ≤ q) (kp_C A σ ρ f)) (hS : va_S (fun q : Nat => s.heap.size ≤ q) s.heap H locs) (hl : lv_has ls 7 [(0, .ref b), (1, .ref (A 0)), (2, .ref (A 60)), (3, .ref (A 63)), (4, .int x4)])
    (kk : ∀ (u : KS) (ρ1 : RS) (f1 : Nat → Int64) (H : Heap) (locs : List Loc) (ls : Array Slot), I u ρ1 → va_P D vwCl (kp_C A u ρ1 f1) H → va_D (fun q : Nat => s.heap.size ≤ q) (kp_C A u ρ1 f1) → va_S (fun q : Nat => s.heap.size ≤ q) s.heap H locs → lv_has ls 7 [(0, .ref b), (1, .ref (A 0)), (2, .ref (A 60)), (3, .ref (A 63)), (4, .int x4)] → W p l e room_1 s m #[Value.ref b] below meth c H locs (cells + 1) (slots + 6) (lw_Z below #[Value.ref b] s) (F0 m 1453 ls [])) : W p l e room_1 s m #[Value.ref b] below meth c H locs cells slots (lw_Z below #[Value.ref b] s) (F0 m 340 ls []) := by
  obtain ⟨hl9, S9, hX, hbl, hlk, hr, hC, X9⟩ := X
  obtain ⟨hx, hb, hml, hown, hts⟩ := id S9
  have hK := X9.2.1
  have hbA : ¬ (fun q : Nat => s.heap.size ≤ q) b := Nat.not_le.mpr hbl
  rcases sim (xs (x4 + 1).toNatClampNeg) (xs (x4 + 2).toNatClampNeg) (xs (x4 + 3).toNatClampNeg) (xs (x4 + 4).toNatClampNeg) with ⟨v, u, z, e1, e2, hI⟩ | ⟨k, u, z, hk, e1, e2, hI⟩
  · refine lv_aload_n hx hb d_La_law_340 rfl (lv_at hl 1 rfl) ?_
    refine lv_aload_n hx hb d_La_law_341 rfl (lv_at hl 0 rfl) ?_
    refine lv_iload hx hb d_La_law_342 (lv_at hl 4 rfl) ?_
    refine lv_iconst (v := 1) hx hb d_La_law_344 (by decide) ?_
    refine lv_iadd hx hb d_La_law_345 ?_
    refine va_sld hx hb hX hbl hbA hS h1 d_La_law_346 ?_
    refine lv_aload_n hx hb d_La_law_347 rfl (lv_at hl 0 rfl) ?_
    refine lv_iload hx hb d_La_law_348 (lv_at hl 4 rfl) ?_
    refine lv_iconst (v := 2) hx hb d_La_law_350 (by decide) ?_
    refine lv_iadd hx hb d_La_law_351 ?_
    refine va_sld hx hb hX hbl hbA hS h2 d_La_law_352 ?_
    refine lv_aload_n hx hb d_La_law_353 rfl (lv_at hl 0 rfl) ?_
    refine lv_iload hx hb d_La_law_354 (lv_at hl 4 rfl) ?_
    refine lv_iconst (v := 3) hx hb d_La_law_356 (by decide) ?_
    refine lv_iadd hx hb d_La_law_357 ?_
    refine va_sld hx hb hX hbl hbA hS h3 d_La_law_358 ?_
    refine lv_aload_n hx hb d_La_law_359 rfl (lv_at hl 0 rfl) ?_
    refine lv_iload hx hb d_La_law_360 (lv_at hl 4 rfl) ?_
    refine lv_iconst (v := 4) hx hb d_La_law_362 (by decide) ?_
    refine lv_iadd hx hb d_La_law_363 ?_
    refine va_sld hx hb hX hbl hbA hS h4 d_La_law_364 ?_
    refine lv_aload_n hx hb d_La_law_365 rfl (lv_at hl 3 rfl) ?_
    refine ka_i (vx_runSW (As := [.ref (A 0), .int (xs (x4 + 1).toNatClampNeg), .int (xs (x4 + 2).toNatClampNeg), .int (xs (x4 + 3).toNatClampNeg), .int (xs (x4 + 4).toNatClampNeg), .ref (A 63)]) (rest := []) S9 (c_La_container_ok l hl9 D A (MW A ρ []) f _ σ (xs (x4 + 1).toNatClampNeg) (xs (x4 + 2).toNatClampNeg) (xs (x4 + 3).toNatClampNeg) (xs (x4 + 4).toNatClampNeg) v u e1) (vx_cwSW 6 hts (tg_SW wl_La_109 ws_La_container wi_La wo_La_container) rfl rfl rfl wq_La_container.2 ⟨Nat.le_of_ble_eq_true rfl, Nat.le_of_ble_eq_true rfl⟩) (ka_preC X9 hC hP hD hS) rfl rfl hl.1 rfl (lv_room (Nat.le_of_ble_eq_true rfl)) d_La_law_366 ⟨Nat.le_trans (Nat.le_succ _) hc, Nat.le_trans (Nat.le_add_right _ 6) hsl⟩) X9 hD hS rfl (fun H locs hP hD hS => ?_)
    refine lv_istore (lv' := (5, .int 0) :: [(0, .ref b), (1, .ref (A 0)), (2, .ref (A 60)), (3, .ref (A 63)), (4, .int x4)]) hx hb d_La_law_369 hl (by decide) rfl (fun ls hl => ?_)
    refine lv_aload_n hx hb d_La_law_371 rfl (lv_at hl 3 rfl) ?_
    refine lv_aload_n hx hb d_La_law_372 rfl (lv_at hl 1 rfl) ?_
    refine lv_iload hx hb d_La_law_373 (lv_at hl 5 rfl) ?_
    refine lv_iconst (v := 1) hx hb d_La_law_375 (by decide) ?_
    refine lv_iadd hx hb d_La_law_376 ?_
    refine va_sld hx hb hX hbl hbA hS h1 d_La_law_377 ?_
    refine lv_aload_n hx hb d_La_law_378 rfl (lv_at hl 1 rfl) ?_
    refine lv_iload hx hb d_La_law_379 (lv_at hl 5 rfl) ?_
    refine lv_iconst (v := 2) hx hb d_La_law_381 (by decide) ?_
    refine lv_iadd hx hb d_La_law_382 ?_
    refine va_sld hx hb hX hbl hbA hS h2 d_La_law_383 ?_
    refine lv_aload_n hx hb d_La_law_384 rfl (lv_at hl 1 rfl) ?_
    refine lv_iload hx hb d_La_law_385 (lv_at hl 5 rfl) ?_
    refine lv_iconst (v := 3) hx hb d_La_law_387 (by decide) ?_
    refine lv_iadd hx hb d_La_law_388 ?_
    refine va_sld hx hb hX hbl hbA hS h3 d_La_law_389 ?_
    refine lv_aload_n hx hb d_La_law_390 rfl (lv_at hl 1 rfl) ?_
    refine lv_iload hx hb d_La_law_391 (lv_at hl 5 rfl) ?_
    refine lv_iconst (v := 4) hx hb d_La_law_393 (by decide) ?_
    refine lv_iadd hx hb d_La_law_394 ?_
    refine va_sld hx hb hX hbl hbA hS h4 d_La_law_395 ?_
    replace hP := kp_P (kp_perm A u ρ (vp_updL f 0 v.toInt64)) hP
    replace hD := kp_D (kp_perm A u ρ (vp_updL f 0 v.toInt64)) hD
    refine ka_i (va_runV (As := [.int (xs (x4 + 1).toNatClampNeg), .int (xs (x4 + 2).toNatClampNeg), .int (xs (x4 + 3).toNatClampNeg), .int (xs (x4 + 4).toNatClampNeg)]) (rest := []) S9 (c_Mo_container l hl9 D A (GW A u [ka_oc A (vp_updL f 0 v.toInt64)]) _ ρ (xs (x4 + 1).toNatClampNeg) (xs (x4 + 2).toNatClampNeg) (xs (x4 + 3).toNatClampNeg) (xs (x4 + 4).toNatClampNeg) z e2) (cwV 4 hts (tg_V wl_La_112 wm_Mo_container we_Mo_container wi_Mo wo_Mo_container) rfl rfl rfl wq_Mo_container ⟨Nat.le_of_ble_eq_true rfl, Nat.le_of_ble_eq_true rfl⟩) (ka_preV X9 hP hD hS 0 rfl rfl) rfl rfl hl.1 rfl (lv_room (Nat.le_of_ble_eq_true rfl)) d_La_law_396 ⟨Nat.le_trans (Nat.le_succ _) hc, Nat.le_trans (Nat.le_add_right _ 6) hsl⟩) X9 hD hS rfl (fun H locs hP hD hS => ?_)
    refine lv_istore (lv' := (6, .int z.1) :: (5, .int 0) :: [(0, .ref b), (1, .ref (A 0)), (2, .ref (A 60)), (3, .ref (A 63)), (4, .int x4)]) hx hb d_La_law_399 hl (by decide) rfl (fun ls hl => ?_)
    replace hP := kp_P (kp_perm A u z.2 (vp_updL f 0 v.toInt64)).symm hP
    replace hD := kp_D (kp_perm A u z.2 (vp_updL f 0 v.toInt64)).symm hD
    refine lv_goto (tgt := 1453) hx hb d_La_law_401 (by decide) ?_
    refine W.widen (k := cells + 1) (n := slots + 6) (by omega) (by omega) ?_
    exact kk u z.2 (vp_updL f 0 v.toInt64) _ _ _ hI hP hD hS (lv_sub hl [2, 3, 4, 5, 6] rfl)
  refine lv_aload_n hx hb d_La_law_340 rfl (lv_at hl 1 rfl) ?_
  refine lv_aload_n hx hb d_La_law_341 rfl (lv_at hl 0 rfl) ?_
  refine lv_iload hx hb d_La_law_342 (lv_at hl 4 rfl) ?_
  refine lv_iconst (v := 1) hx hb d_La_law_344 (by decide) ?_
  refine lv_iadd hx hb d_La_law_345 ?_
  refine va_sld hx hb hX hbl hbA hS h1 d_La_law_346 ?_
  refine lv_aload_n hx hb d_La_law_347 rfl (lv_at hl 0 rfl) ?_
  refine lv_iload hx hb d_La_law_348 (lv_at hl 4 rfl) ?_
  refine lv_iconst (v := 2) hx hb d_La_law_350 (by decide) ?_
  refine lv_iadd hx hb d_La_law_351 ?_
  refine va_sld hx hb hX hbl hbA hS h2 d_La_law_352 ?_
  refine lv_aload_n hx hb d_La_law_353 rfl (lv_at hl 0 rfl) ?_
  refine lv_iload hx hb d_La_law_354 (lv_at hl 4 rfl) ?_
  refine lv_iconst (v := 3) hx hb d_La_law_356 (by decide) ?_
  refine lv_iadd hx hb d_La_law_357 ?_
  refine va_sld hx hb hX hbl hbA hS h3 d_La_law_358 ?_
  refine lv_aload_n hx hb d_La_law_359 rfl (lv_at hl 0 rfl) ?_
  refine lv_iload hx hb d_La_law_360 (lv_at hl 4 rfl) ?_
  refine lv_iconst (v := 4) hx hb d_La_law_362 (by decide) ?_
  refine lv_iadd hx hb d_La_law_363 ?_
  refine va_sld hx hb hX hbl hbA hS h4 d_La_law_364 ?_
  refine lv_aload_n hx hb d_La_law_365 rfl (lv_at hl 3 rfl) ?_
  refine ka_i (vx_runSW (As := [.ref (A 0), .int (xs (x4 + 1).toNatClampNeg), .int (xs (x4 + 2).toNatClampNeg), .int (xs (x4 + 3).toNatClampNeg), .int (xs (x4 + 4).toNatClampNeg), .ref (A 63)]) (rest := []) S9 (c_La_container_err l hl9 D A (MW A ρ []) f _ σ (xs (x4 + 1).toNatClampNeg) (xs (x4 + 2).toNatClampNeg) (xs (x4 + 3).toNatClampNeg) (xs (x4 + 4).toNatClampNeg) k hk u e1) (vx_cwSW 6 hts (tg_SW wl_La_109 ws_La_container wi_La wo_La_container) rfl rfl rfl wq_La_container.2 ⟨Nat.le_of_ble_eq_true rfl, Nat.le_of_ble_eq_true rfl⟩) (ka_preC X9 hC hP hD hS) rfl rfl hl.1 rfl (lv_room (Nat.le_of_ble_eq_true rfl)) d_La_law_366 ⟨hc, hsl⟩) X9 hD hS rfl (fun H locs hP hD hS => ?_)
  refine lv_istore (lv' := (5, .int (nI k)) :: [(0, .ref b), (1, .ref (A 0)), (2, .ref (A 60)), (3, .ref (A 63)), (4, .int x4)]) hx hb d_La_law_369 hl (by decide) rfl (fun ls hl => ?_)
  refine lv_aload_n hx hb d_La_law_371 rfl (lv_at hl 3 rfl) ?_
  refine lv_aload_n hx hb d_La_law_372 rfl (lv_at hl 1 rfl) ?_
  refine lv_iload hx hb d_La_law_373 (lv_at hl 5 rfl) ?_
  refine lv_iconst (v := 1) hx hb d_La_law_375 (by decide) ?_
  refine lv_iadd hx hb d_La_law_376 ?_
  refine va_sld hx hb hX hbl hbA hS h1 d_La_law_377 ?_
  refine lv_aload_n hx hb d_La_law_378 rfl (lv_at hl 1 rfl) ?_
  refine lv_iload hx hb d_La_law_379 (lv_at hl 5 rfl) ?_
  refine lv_iconst (v := 2) hx hb d_La_law_381 (by decide) ?_
  refine lv_iadd hx hb d_La_law_382 ?_
  refine va_sld hx hb hX hbl hbA hS h2 d_La_law_383 ?_
  refine lv_aload_n hx hb d_La_law_384 rfl (lv_at hl 1 rfl) ?_
  refine lv_iload hx hb d_La_law_385 (lv_at hl 5 rfl) ?_
  refine lv_iconst (v := 3) hx hb d_La_law_387 (by decide) ?_
  refine lv_iadd hx hb d_La_law_388 ?_
  refine va_sld hx hb hX hbl hbA hS h3 d_La_law_389 ?_
  refine lv_aload_n hx hb d_La_law_390 rfl (lv_at hl 1 rfl) ?_
  refine lv_iload hx hb d_La_law_391 (lv_at hl 5 rfl) ?_
  refine lv_iconst (v := 4) hx hb d_La_law_393 (by decide) ?_
  refine lv_iadd hx hb d_La_law_394 ?_
  refine va_sld hx hb hX hbl hbA hS h4 d_La_law_395 ?_
  replace hP := kp_P (kp_perm A u ρ f) hP
  replace hD := kp_D (kp_perm A u ρ f) hD
  refine ka_i (va_runV (As := [.int (xs (x4 + 1).toNatClampNeg), .int (xs (x4 + 2).toNatClampNeg), .int (xs (x4 + 3).toNatClampNeg), .int (xs (x4 + 4).toNatClampNeg)]) (rest := []) S9 (c_Mo_container l hl9 D A (GW A u [ka_oc A f]) _ ρ (xs (x4 + 1).toNatClampNeg) (xs (x4 + 2).toNatClampNeg) (xs (x4 + 3).toNatClampNeg) (xs (x4 + 4).toNatClampNeg) z e2) (cwV 4 hts (tg_V wl_La_112 wm_Mo_container we_Mo_container wi_Mo wo_Mo_container) rfl rfl rfl wq_Mo_container ⟨Nat.le_of_ble_eq_true rfl, Nat.le_of_ble_eq_true rfl⟩) (ka_preV X9 hP hD hS 0 rfl rfl) rfl rfl hl.1 rfl (lv_room (Nat.le_of_ble_eq_true rfl)) d_La_law_396 ⟨hc, hsl⟩) X9 hD hS rfl (fun H locs hP hD hS => ?_)
  refine lv_istore (lv' := (6, .int z.1) :: (5, .int (nI k)) :: [(0, .ref b), (1, .ref (A 0)), (2, .ref (A 60)), (3, .ref (A 63)), (4, .int x4)]) hx hb d_La_law_399 hl (by decide) rfl (fun ls hl => ?_)
  replace hP := kp_P (kp_perm A u z.2 f).symm hP
  replace hD := kp_D (kp_perm A u z.2 f).symm hD
  refine lv_goto (tgt := 1453) hx hb d_La_law_401 (by decide) ?_
  refine W.widen (k := cells + 1) (n := slots + 6) (by omega) (by omega) ?_
  exact kk u z.2 f _ _ _ hI hP hD hS (lv_sub hl [2, 3, 4, 5, 6] rfl)
set_option maxRecDepth 100000 in
set_option maxHeartbeats 4000000 in
theorem lc_5 {p : Program} {l : Launch} {e : Env} {s : State} {m : MethodId} {below : List Frame} {meth : Method} {c : Code} {b L : Nat} {xs : Nat → Int32} {D : va_G} {A : Nat → Nat} (I : KS → RS → Prop) (X : lx_ p l s m meth c b L xs D A) {cells slots : Nat} (hc : cells + 1 ≤ room_1.cells) (hsl : slots + 6 ≤ room_1.slots) (x4 : Int32) (h1 : vp_in (x4 + 1) L) (h2 : vp_in (x4 + 2) L) (h3 : vp_in (x4 + 3) L) (h4 : vp_in (x4 + 4) L) (σ : KS) (ρ : RS) (f : Nat → Int64) (sim : ∀ x1 x2 x3 x4 : Int32, (∃ (v : Int32) (u : KS) (z : Int32 × RS), f_Ke_segment σ x1 x2 x3 x4 = some (.ok v, u) ∧ f_Mo_segment ρ x1 x2 x3 x4 = some z ∧ I u z.2) ∨ (∃ (k : Nat) (u : KS) (z : Int32 × RS), (k = 1 ∨ k = 2 ∨ k = 3 ∨ k = 4) ∧ f_Ke_segment σ x1 x2 x3 x4 = some (.error k, u) ∧ f_Mo_segment ρ x1 x2 x3 x4 = some z ∧ I u z.2)) {H : Heap} {locs : List Loc} {ls : Array Slot} (hP : va_P D vwCl (kp_C A σ ρ f) H) (hD : va_D (fun q : Nat => s.heap.size ≤ q) (kp_C A σ ρ f)) (hS : va_S (fun q : Nat => s.heap.size ≤ q) s.heap H locs) (hl : lv_has ls 7 [(0, .ref b), (1, .ref (A 0)), (2, .ref (A 60)), (3, .ref (A 63)), (4, .int x4)])
    (kk : ∀ (u : KS) (ρ1 : RS) (f1 : Nat → Int64) (H : Heap) (locs : List Loc) (ls : Array Slot), I u ρ1 → va_P D vwCl (kp_C A u ρ1 f1) H → va_D (fun q : Nat => s.heap.size ≤ q) (kp_C A u ρ1 f1) → va_S (fun q : Nat => s.heap.size ≤ q) s.heap H locs → lv_has ls 7 [(0, .ref b), (1, .ref (A 0)), (2, .ref (A 60)), (3, .ref (A 63)), (4, .int x4)] → W p l e room_1 s m #[Value.ref b] below meth c H locs (cells + 1) (slots + 6) (lw_Z below #[Value.ref b] s) (F0 m 1453 ls [])) : W p l e room_1 s m #[Value.ref b] below meth c H locs cells slots (lw_Z below #[Value.ref b] s) (F0 m 404 ls []) := by
  obtain ⟨hl9, S9, hX, hbl, hlk, hr, hC, X9⟩ := X
  obtain ⟨hx, hb, hml, hown, hts⟩ := id S9
  have hK := X9.2.1
  have hbA : ¬ (fun q : Nat => s.heap.size ≤ q) b := Nat.not_le.mpr hbl
  rcases sim (xs (x4 + 1).toNatClampNeg) (xs (x4 + 2).toNatClampNeg) (xs (x4 + 3).toNatClampNeg) (xs (x4 + 4).toNatClampNeg) with ⟨v, u, z, e1, e2, hI⟩ | ⟨k, u, z, hk, e1, e2, hI⟩
  · refine lv_aload_n hx hb d_La_law_404 rfl (lv_at hl 1 rfl) ?_
    refine lv_aload_n hx hb d_La_law_405 rfl (lv_at hl 0 rfl) ?_
    refine lv_iload hx hb d_La_law_406 (lv_at hl 4 rfl) ?_
    refine lv_iconst (v := 1) hx hb d_La_law_408 (by decide) ?_
    refine lv_iadd hx hb d_La_law_409 ?_
    refine va_sld hx hb hX hbl hbA hS h1 d_La_law_410 ?_
    refine lv_aload_n hx hb d_La_law_411 rfl (lv_at hl 0 rfl) ?_
    refine lv_iload hx hb d_La_law_412 (lv_at hl 4 rfl) ?_
    refine lv_iconst (v := 2) hx hb d_La_law_414 (by decide) ?_
    refine lv_iadd hx hb d_La_law_415 ?_
    refine va_sld hx hb hX hbl hbA hS h2 d_La_law_416 ?_
    refine lv_aload_n hx hb d_La_law_417 rfl (lv_at hl 0 rfl) ?_
    refine lv_iload hx hb d_La_law_418 (lv_at hl 4 rfl) ?_
    refine lv_iconst (v := 3) hx hb d_La_law_420 (by decide) ?_
    refine lv_iadd hx hb d_La_law_421 ?_
    refine va_sld hx hb hX hbl hbA hS h3 d_La_law_422 ?_
    refine lv_aload_n hx hb d_La_law_423 rfl (lv_at hl 0 rfl) ?_
    refine lv_iload hx hb d_La_law_424 (lv_at hl 4 rfl) ?_
    refine lv_iconst (v := 4) hx hb d_La_law_426 (by decide) ?_
    refine lv_iadd hx hb d_La_law_427 ?_
    refine va_sld hx hb hX hbl hbA hS h4 d_La_law_428 ?_
    refine lv_aload_n hx hb d_La_law_429 rfl (lv_at hl 3 rfl) ?_
    refine ka_i (vx_runSW (As := [.ref (A 0), .int (xs (x4 + 1).toNatClampNeg), .int (xs (x4 + 2).toNatClampNeg), .int (xs (x4 + 3).toNatClampNeg), .int (xs (x4 + 4).toNatClampNeg), .ref (A 63)]) (rest := []) S9 (c_La_segment_ok l hl9 D A (MW A ρ []) f _ σ (xs (x4 + 1).toNatClampNeg) (xs (x4 + 2).toNatClampNeg) (xs (x4 + 3).toNatClampNeg) (xs (x4 + 4).toNatClampNeg) v u e1) (vx_cwSW 6 hts (tg_SW wl_La_113 ws_La_segment wi_La wo_La_segment) rfl rfl rfl wq_La_segment.2 ⟨Nat.le_of_ble_eq_true rfl, Nat.le_of_ble_eq_true rfl⟩) (ka_preC X9 hC hP hD hS) rfl rfl hl.1 rfl (lv_room (Nat.le_of_ble_eq_true rfl)) d_La_law_430 ⟨Nat.le_trans (Nat.le_succ _) hc, Nat.le_trans (Nat.le_add_right _ 6) hsl⟩) X9 hD hS rfl (fun H locs hP hD hS => ?_)
    refine lv_istore (lv' := (5, .int 0) :: [(0, .ref b), (1, .ref (A 0)), (2, .ref (A 60)), (3, .ref (A 63)), (4, .int x4)]) hx hb d_La_law_433 hl (by decide) rfl (fun ls hl => ?_)
    refine lv_aload_n hx hb d_La_law_435 rfl (lv_at hl 3 rfl) ?_
    refine lv_aload_n hx hb d_La_law_436 rfl (lv_at hl 1 rfl) ?_
    refine lv_iload hx hb d_La_law_437 (lv_at hl 5 rfl) ?_
    refine lv_iconst (v := 1) hx hb d_La_law_439 (by decide) ?_
    refine lv_iadd hx hb d_La_law_440 ?_
    refine va_sld hx hb hX hbl hbA hS h1 d_La_law_441 ?_
    refine lv_aload_n hx hb d_La_law_442 rfl (lv_at hl 1 rfl) ?_
    refine lv_iload hx hb d_La_law_443 (lv_at hl 5 rfl) ?_
    refine lv_iconst (v := 2) hx hb d_La_law_445 (by decide) ?_
    refine lv_iadd hx hb d_La_law_446 ?_
    refine va_sld hx hb hX hbl hbA hS h2 d_La_law_447 ?_
    refine lv_aload_n hx hb d_La_law_448 rfl (lv_at hl 1 rfl) ?_
    refine lv_iload hx hb d_La_law_449 (lv_at hl 5 rfl) ?_
    refine lv_iconst (v := 3) hx hb d_La_law_451 (by decide) ?_
    refine lv_iadd hx hb d_La_law_452 ?_
    refine va_sld hx hb hX hbl hbA hS h3 d_La_law_453 ?_
    refine lv_aload_n hx hb d_La_law_454 rfl (lv_at hl 1 rfl) ?_
    refine lv_iload hx hb d_La_law_455 (lv_at hl 5 rfl) ?_
    refine lv_iconst (v := 4) hx hb d_La_law_457 (by decide) ?_
    refine lv_iadd hx hb d_La_law_458 ?_
    refine va_sld hx hb hX hbl hbA hS h4 d_La_law_459 ?_
    replace hP := kp_P (kp_perm A u ρ (vp_updL f 0 v.toInt64)) hP
    replace hD := kp_D (kp_perm A u ρ (vp_updL f 0 v.toInt64)) hD
    refine ka_i (va_runV (As := [.int (xs (x4 + 1).toNatClampNeg), .int (xs (x4 + 2).toNatClampNeg), .int (xs (x4 + 3).toNatClampNeg), .int (xs (x4 + 4).toNatClampNeg)]) (rest := []) S9 (c_Mo_segment l hl9 D A (GW A u [ka_oc A (vp_updL f 0 v.toInt64)]) _ ρ (xs (x4 + 1).toNatClampNeg) (xs (x4 + 2).toNatClampNeg) (xs (x4 + 3).toNatClampNeg) (xs (x4 + 4).toNatClampNeg) z e2) (cwV 4 hts (tg_V wl_La_115 wm_Mo_segment we_Mo_segment wi_Mo wo_Mo_segment) rfl rfl rfl wq_Mo_segment ⟨Nat.le_of_ble_eq_true rfl, Nat.le_of_ble_eq_true rfl⟩) (ka_preV X9 hP hD hS 0 rfl rfl) rfl rfl hl.1 rfl (lv_room (Nat.le_of_ble_eq_true rfl)) d_La_law_460 ⟨Nat.le_trans (Nat.le_succ _) hc, Nat.le_trans (Nat.le_add_right _ 6) hsl⟩) X9 hD hS rfl (fun H locs hP hD hS => ?_)
    refine lv_istore (lv' := (6, .int z.1) :: (5, .int 0) :: [(0, .ref b), (1, .ref (A 0)), (2, .ref (A 60)), (3, .ref (A 63)), (4, .int x4)]) hx hb d_La_law_463 hl (by decide) rfl (fun ls hl => ?_)
    replace hP := kp_P (kp_perm A u z.2 (vp_updL f 0 v.toInt64)).symm hP
    replace hD := kp_D (kp_perm A u z.2 (vp_updL f 0 v.toInt64)).symm hD
    refine lv_goto (tgt := 1453) hx hb d_La_law_465 (by decide) ?_
    refine W.widen (k := cells + 1) (n := slots + 6) (by omega) (by omega) ?_
    exact kk u z.2 (vp_updL f 0 v.toInt64) _ _ _ hI hP hD hS (lv_sub hl [2, 3, 4, 5, 6] rfl)
  refine lv_aload_n hx hb d_La_law_404 rfl (lv_at hl 1 rfl) ?_
  refine lv_aload_n hx hb d_La_law_405 rfl (lv_at hl 0 rfl) ?_
  refine lv_iload hx hb d_La_law_406 (lv_at hl 4 rfl) ?_
  refine lv_iconst (v := 1) hx hb d_La_law_408 (by decide) ?_
  refine lv_iadd hx hb d_La_law_409 ?_
  refine va_sld hx hb hX hbl hbA hS h1 d_La_law_410 ?_
  refine lv_aload_n hx hb d_La_law_411 rfl (lv_at hl 0 rfl) ?_
  refine lv_iload hx hb d_La_law_412 (lv_at hl 4 rfl) ?_
  refine lv_iconst (v := 2) hx hb d_La_law_414 (by decide) ?_
  refine lv_iadd hx hb d_La_law_415 ?_
  refine va_sld hx hb hX hbl hbA hS h2 d_La_law_416 ?_
  refine lv_aload_n hx hb d_La_law_417 rfl (lv_at hl 0 rfl) ?_
  refine lv_iload hx hb d_La_law_418 (lv_at hl 4 rfl) ?_
  refine lv_iconst (v := 3) hx hb d_La_law_420 (by decide) ?_
  refine lv_iadd hx hb d_La_law_421 ?_
  refine va_sld hx hb hX hbl hbA hS h3 d_La_law_422 ?_
  refine lv_aload_n hx hb d_La_law_423 rfl (lv_at hl 0 rfl) ?_
  refine lv_iload hx hb d_La_law_424 (lv_at hl 4 rfl) ?_
  refine lv_iconst (v := 4) hx hb d_La_law_426 (by decide) ?_
  refine lv_iadd hx hb d_La_law_427 ?_
  refine va_sld hx hb hX hbl hbA hS h4 d_La_law_428 ?_
  refine lv_aload_n hx hb d_La_law_429 rfl (lv_at hl 3 rfl) ?_
  refine ka_i (vx_runSW (As := [.ref (A 0), .int (xs (x4 + 1).toNatClampNeg), .int (xs (x4 + 2).toNatClampNeg), .int (xs (x4 + 3).toNatClampNeg), .int (xs (x4 + 4).toNatClampNeg), .ref (A 63)]) (rest := []) S9 (c_La_segment_err l hl9 D A (MW A ρ []) f _ σ (xs (x4 + 1).toNatClampNeg) (xs (x4 + 2).toNatClampNeg) (xs (x4 + 3).toNatClampNeg) (xs (x4 + 4).toNatClampNeg) k hk u e1) (vx_cwSW 6 hts (tg_SW wl_La_113 ws_La_segment wi_La wo_La_segment) rfl rfl rfl wq_La_segment.2 ⟨Nat.le_of_ble_eq_true rfl, Nat.le_of_ble_eq_true rfl⟩) (ka_preC X9 hC hP hD hS) rfl rfl hl.1 rfl (lv_room (Nat.le_of_ble_eq_true rfl)) d_La_law_430 ⟨hc, hsl⟩) X9 hD hS rfl (fun H locs hP hD hS => ?_)
  refine lv_istore (lv' := (5, .int (nI k)) :: [(0, .ref b), (1, .ref (A 0)), (2, .ref (A 60)), (3, .ref (A 63)), (4, .int x4)]) hx hb d_La_law_433 hl (by decide) rfl (fun ls hl => ?_)
  refine lv_aload_n hx hb d_La_law_435 rfl (lv_at hl 3 rfl) ?_
  refine lv_aload_n hx hb d_La_law_436 rfl (lv_at hl 1 rfl) ?_
  refine lv_iload hx hb d_La_law_437 (lv_at hl 5 rfl) ?_
  refine lv_iconst (v := 1) hx hb d_La_law_439 (by decide) ?_
  refine lv_iadd hx hb d_La_law_440 ?_
  refine va_sld hx hb hX hbl hbA hS h1 d_La_law_441 ?_
  refine lv_aload_n hx hb d_La_law_442 rfl (lv_at hl 1 rfl) ?_
  refine lv_iload hx hb d_La_law_443 (lv_at hl 5 rfl) ?_
  refine lv_iconst (v := 2) hx hb d_La_law_445 (by decide) ?_
  refine lv_iadd hx hb d_La_law_446 ?_
  refine va_sld hx hb hX hbl hbA hS h2 d_La_law_447 ?_
  refine lv_aload_n hx hb d_La_law_448 rfl (lv_at hl 1 rfl) ?_
  refine lv_iload hx hb d_La_law_449 (lv_at hl 5 rfl) ?_
  refine lv_iconst (v := 3) hx hb d_La_law_451 (by decide) ?_
  refine lv_iadd hx hb d_La_law_452 ?_
  refine va_sld hx hb hX hbl hbA hS h3 d_La_law_453 ?_
  refine lv_aload_n hx hb d_La_law_454 rfl (lv_at hl 1 rfl) ?_
  refine lv_iload hx hb d_La_law_455 (lv_at hl 5 rfl) ?_
  refine lv_iconst (v := 4) hx hb d_La_law_457 (by decide) ?_
  refine lv_iadd hx hb d_La_law_458 ?_
  refine va_sld hx hb hX hbl hbA hS h4 d_La_law_459 ?_
  replace hP := kp_P (kp_perm A u ρ f) hP
  replace hD := kp_D (kp_perm A u ρ f) hD
  refine ka_i (va_runV (As := [.int (xs (x4 + 1).toNatClampNeg), .int (xs (x4 + 2).toNatClampNeg), .int (xs (x4 + 3).toNatClampNeg), .int (xs (x4 + 4).toNatClampNeg)]) (rest := []) S9 (c_Mo_segment l hl9 D A (GW A u [ka_oc A f]) _ ρ (xs (x4 + 1).toNatClampNeg) (xs (x4 + 2).toNatClampNeg) (xs (x4 + 3).toNatClampNeg) (xs (x4 + 4).toNatClampNeg) z e2) (cwV 4 hts (tg_V wl_La_115 wm_Mo_segment we_Mo_segment wi_Mo wo_Mo_segment) rfl rfl rfl wq_Mo_segment ⟨Nat.le_of_ble_eq_true rfl, Nat.le_of_ble_eq_true rfl⟩) (ka_preV X9 hP hD hS 0 rfl rfl) rfl rfl hl.1 rfl (lv_room (Nat.le_of_ble_eq_true rfl)) d_La_law_460 ⟨hc, hsl⟩) X9 hD hS rfl (fun H locs hP hD hS => ?_)
  refine lv_istore (lv' := (6, .int z.1) :: (5, .int (nI k)) :: [(0, .ref b), (1, .ref (A 0)), (2, .ref (A 60)), (3, .ref (A 63)), (4, .int x4)]) hx hb d_La_law_463 hl (by decide) rfl (fun ls hl => ?_)
  replace hP := kp_P (kp_perm A u z.2 f).symm hP
  replace hD := kp_D (kp_perm A u z.2 f).symm hD
  refine lv_goto (tgt := 1453) hx hb d_La_law_465 (by decide) ?_
  refine W.widen (k := cells + 1) (n := slots + 6) (by omega) (by omega) ?_
  exact kk u z.2 f _ _ _ hI hP hD hS (lv_sub hl [2, 3, 4, 5, 6] rfl)
set_option maxRecDepth 100000 in
set_option maxHeartbeats 4000000 in
theorem lc_6 {p : Program} {l : Launch} {e : Env} {s : State} {m : MethodId} {below : List Frame} {meth : Method} {c : Code} {b L : Nat} {xs : Nat → Int32} {D : va_G} {A : Nat → Nat} (I : KS → RS → Prop) (X : lx_ p l s m meth c b L xs D A) {cells slots : Nat} (hc : cells + 1 ≤ room_1.cells) (hsl : slots + 6 ≤ room_1.slots) (x4 : Int32) (h1 : vp_in (x4 + 1) L) (h2 : vp_in (x4 + 2) L) (h3 : vp_in (x4 + 3) L) (h4 : vp_in (x4 + 4) L) (h5 : vp_in (x4 + 5) L) (σ : KS) (ρ : RS) (f : Nat → Int64) (sim : ∀ x1 x2 x3 x4 x5 : Int32, (∃ (v : Int32) (u : KS) (z : Int32 × RS), f_Ke_gate σ x1 x2 x3 x4 x5 = some (.ok v, u) ∧ f_Mo_gate ρ x1 x2 x3 x4 x5 = some z ∧ I u z.2) ∨ (∃ (k : Nat) (u : KS) (z : Int32 × RS), (k = 1 ∨ k = 2 ∨ k = 3 ∨ k = 4) ∧ f_Ke_gate σ x1 x2 x3 x4 x5 = some (.error k, u) ∧ f_Mo_gate ρ x1 x2 x3 x4 x5 = some z ∧ I u z.2)) {H : Heap} {locs : List Loc} {ls : Array Slot} (hP : va_P D vwCl (kp_C A σ ρ f) H) (hD : va_D (fun q : Nat => s.heap.size ≤ q) (kp_C A σ ρ f)) (hS : va_S (fun q : Nat => s.heap.size ≤ q) s.heap H locs) (hl : lv_has ls 7 [(0, .ref b), (1, .ref (A 0)), (2, .ref (A 60)), (3, .ref (A 63)), (4, .int x4)])
    (kk : ∀ (u : KS) (ρ1 : RS) (f1 : Nat → Int64) (H : Heap) (locs : List Loc) (ls : Array Slot), I u ρ1 → va_P D vwCl (kp_C A u ρ1 f1) H → va_D (fun q : Nat => s.heap.size ≤ q) (kp_C A u ρ1 f1) → va_S (fun q : Nat => s.heap.size ≤ q) s.heap H locs → lv_has ls 7 [(0, .ref b), (1, .ref (A 0)), (2, .ref (A 60)), (3, .ref (A 63)), (4, .int x4)] → W p l e room_1 s m #[Value.ref b] below meth c H locs (cells + 1) (slots + 6) (lw_Z below #[Value.ref b] s) (F0 m 1453 ls [])) : W p l e room_1 s m #[Value.ref b] below meth c H locs cells slots (lw_Z below #[Value.ref b] s) (F0 m 468 ls []) := by
  obtain ⟨hl9, S9, hX, hbl, hlk, hr, hC, X9⟩ := X
  obtain ⟨hx, hb, hml, hown, hts⟩ := id S9
  have hK := X9.2.1
  have hbA : ¬ (fun q : Nat => s.heap.size ≤ q) b := Nat.not_le.mpr hbl
  rcases sim (xs (x4 + 1).toNatClampNeg) (xs (x4 + 2).toNatClampNeg) (xs (x4 + 3).toNatClampNeg) (xs (x4 + 4).toNatClampNeg) (xs (x4 + 5).toNatClampNeg) with ⟨v, u, z, e1, e2, hI⟩ | ⟨k, u, z, hk, e1, e2, hI⟩
  · refine lv_aload_n hx hb d_La_law_468 rfl (lv_at hl 1 rfl) ?_
    refine lv_aload_n hx hb d_La_law_469 rfl (lv_at hl 0 rfl) ?_
    refine lv_iload hx hb d_La_law_470 (lv_at hl 4 rfl) ?_
    refine lv_iconst (v := 1) hx hb d_La_law_472 (by decide) ?_
    refine lv_iadd hx hb d_La_law_473 ?_
    refine va_sld hx hb hX hbl hbA hS h1 d_La_law_474 ?_
    refine lv_aload_n hx hb d_La_law_475 rfl (lv_at hl 0 rfl) ?_
    refine lv_iload hx hb d_La_law_476 (lv_at hl 4 rfl) ?_
    refine lv_iconst (v := 2) hx hb d_La_law_478 (by decide) ?_
    refine lv_iadd hx hb d_La_law_479 ?_
    refine va_sld hx hb hX hbl hbA hS h2 d_La_law_480 ?_
    refine lv_aload_n hx hb d_La_law_481 rfl (lv_at hl 0 rfl) ?_
    refine lv_iload hx hb d_La_law_482 (lv_at hl 4 rfl) ?_
    refine lv_iconst (v := 3) hx hb d_La_law_484 (by decide) ?_
    refine lv_iadd hx hb d_La_law_485 ?_
    refine va_sld hx hb hX hbl hbA hS h3 d_La_law_486 ?_
    refine lv_aload_n hx hb d_La_law_487 rfl (lv_at hl 0 rfl) ?_
    refine lv_iload hx hb d_La_law_488 (lv_at hl 4 rfl) ?_
    refine lv_iconst (v := 4) hx hb d_La_law_490 (by decide) ?_
    refine lv_iadd hx hb d_La_law_491 ?_
    refine va_sld hx hb hX hbl hbA hS h4 d_La_law_492 ?_
    refine lv_aload_n hx hb d_La_law_493 rfl (lv_at hl 0 rfl) ?_
    refine lv_iload hx hb d_La_law_494 (lv_at hl 4 rfl) ?_
    refine lv_iconst (v := 5) hx hb d_La_law_496 (by decide) ?_
    refine lv_iadd hx hb d_La_law_497 ?_
    refine va_sld hx hb hX hbl hbA hS h5 d_La_law_498 ?_
    refine lv_aload_n hx hb d_La_law_499 rfl (lv_at hl 3 rfl) ?_
    refine ka_i (vx_runSW (As := [.ref (A 0), .int (xs (x4 + 1).toNatClampNeg), .int (xs (x4 + 2).toNatClampNeg), .int (xs (x4 + 3).toNatClampNeg), .int (xs (x4 + 4).toNatClampNeg), .int (xs (x4 + 5).toNatClampNeg), .ref (A 63)]) (rest := []) S9 (c_La_gate_ok l hl9 D A (MW A ρ []) f _ σ (xs (x4 + 1).toNatClampNeg) (xs (x4 + 2).toNatClampNeg) (xs (x4 + 3).toNatClampNeg) (xs (x4 + 4).toNatClampNeg) (xs (x4 + 5).toNatClampNeg) v u e1) (vx_cwSW 7 hts (tg_SW wl_La_116 ws_La_gate wi_La wo_La_gate) rfl rfl rfl wq_La_gate.2 ⟨Nat.le_of_ble_eq_true rfl, Nat.le_of_ble_eq_true rfl⟩) (ka_preC X9 hC hP hD hS) rfl rfl hl.1 rfl (lv_room (Nat.le_of_ble_eq_true rfl)) d_La_law_500 ⟨Nat.le_trans (Nat.le_succ _) hc, Nat.le_trans (Nat.le_add_right _ 6) hsl⟩) X9 hD hS rfl (fun H locs hP hD hS => ?_)
    refine lv_istore (lv' := (5, .int 0) :: [(0, .ref b), (1, .ref (A 0)), (2, .ref (A 60)), (3, .ref (A 63)), (4, .int x4)]) hx hb d_La_law_503 hl (by decide) rfl (fun ls hl => ?_)
    refine lv_aload_n hx hb d_La_law_505 rfl (lv_at hl 3 rfl) ?_
    refine lv_aload_n hx hb d_La_law_506 rfl (lv_at hl 1 rfl) ?_
    refine lv_iload hx hb d_La_law_507 (lv_at hl 5 rfl) ?_
    refine lv_iconst (v := 1) hx hb d_La_law_509 (by decide) ?_
    refine lv_iadd hx hb d_La_law_510 ?_
    refine va_sld hx hb hX hbl hbA hS h1 d_La_law_511 ?_
    refine lv_aload_n hx hb d_La_law_512 rfl (lv_at hl 1 rfl) ?_
    refine lv_iload hx hb d_La_law_513 (lv_at hl 5 rfl) ?_
    refine lv_iconst (v := 2) hx hb d_La_law_515 (by decide) ?_
    refine lv_iadd hx hb d_La_law_516 ?_
    refine va_sld hx hb hX hbl hbA hS h2 d_La_law_517 ?_
    refine lv_aload_n hx hb d_La_law_518 rfl (lv_at hl 1 rfl) ?_
    refine lv_iload hx hb d_La_law_519 (lv_at hl 5 rfl) ?_
    refine lv_iconst (v := 3) hx hb d_La_law_521 (by decide) ?_
    refine lv_iadd hx hb d_La_law_522 ?_
    refine va_sld hx hb hX hbl hbA hS h3 d_La_law_523 ?_
    refine lv_aload_n hx hb d_La_law_524 rfl (lv_at hl 1 rfl) ?_
    refine lv_iload hx hb d_La_law_525 (lv_at hl 5 rfl) ?_
    refine lv_iconst (v := 4) hx hb d_La_law_527 (by decide) ?_
    refine lv_iadd hx hb d_La_law_528 ?_
    refine va_sld hx hb hX hbl hbA hS h4 d_La_law_529 ?_
    refine lv_aload_n hx hb d_La_law_530 rfl (lv_at hl 1 rfl) ?_
    refine lv_iload hx hb d_La_law_531 (lv_at hl 5 rfl) ?_
    refine lv_iconst (v := 5) hx hb d_La_law_533 (by decide) ?_
    refine lv_iadd hx hb d_La_law_534 ?_
    refine va_sld hx hb hX hbl hbA hS h5 d_La_law_535 ?_
    replace hP := kp_P (kp_perm A u ρ (vp_updL f 0 v.toInt64)) hP
    replace hD := kp_D (kp_perm A u ρ (vp_updL f 0 v.toInt64)) hD
    refine ka_i (va_runV (As := [.int (xs (x4 + 1).toNatClampNeg), .int (xs (x4 + 2).toNatClampNeg), .int (xs (x4 + 3).toNatClampNeg), .int (xs (x4 + 4).toNatClampNeg), .int (xs (x4 + 5).toNatClampNeg)]) (rest := []) S9 (c_Mo_gate l hl9 D A (GW A u [ka_oc A (vp_updL f 0 v.toInt64)]) _ ρ (xs (x4 + 1).toNatClampNeg) (xs (x4 + 2).toNatClampNeg) (xs (x4 + 3).toNatClampNeg) (xs (x4 + 4).toNatClampNeg) (xs (x4 + 5).toNatClampNeg) z e2) (cwV 5 hts (tg_V wl_La_119 wm_Mo_gate we_Mo_gate wi_Mo wo_Mo_gate) rfl rfl rfl wq_Mo_gate ⟨Nat.le_of_ble_eq_true rfl, Nat.le_of_ble_eq_true rfl⟩) (ka_preV X9 hP hD hS 0 rfl rfl) rfl rfl hl.1 rfl (lv_room (Nat.le_of_ble_eq_true rfl)) d_La_law_536 ⟨Nat.le_trans (Nat.le_succ _) hc, Nat.le_trans (Nat.le_add_right _ 6) hsl⟩) X9 hD hS rfl (fun H locs hP hD hS => ?_)
    refine lv_istore (lv' := (6, .int z.1) :: (5, .int 0) :: [(0, .ref b), (1, .ref (A 0)), (2, .ref (A 60)), (3, .ref (A 63)), (4, .int x4)]) hx hb d_La_law_539 hl (by decide) rfl (fun ls hl => ?_)
    replace hP := kp_P (kp_perm A u z.2 (vp_updL f 0 v.toInt64)).symm hP
    replace hD := kp_D (kp_perm A u z.2 (vp_updL f 0 v.toInt64)).symm hD
    refine lv_goto (tgt := 1453) hx hb d_La_law_541 (by decide) ?_
    refine W.widen (k := cells + 1) (n := slots + 6) (by omega) (by omega) ?_
    exact kk u z.2 (vp_updL f 0 v.toInt64) _ _ _ hI hP hD hS (lv_sub hl [2, 3, 4, 5, 6] rfl)
  refine lv_aload_n hx hb d_La_law_468 rfl (lv_at hl 1 rfl) ?_
  refine lv_aload_n hx hb d_La_law_469 rfl (lv_at hl 0 rfl) ?_
  refine lv_iload hx hb d_La_law_470 (lv_at hl 4 rfl) ?_
  refine lv_iconst (v := 1) hx hb d_La_law_472 (by decide) ?_
  refine lv_iadd hx hb d_La_law_473 ?_
  refine va_sld hx hb hX hbl hbA hS h1 d_La_law_474 ?_
  refine lv_aload_n hx hb d_La_law_475 rfl (lv_at hl 0 rfl) ?_
  refine lv_iload hx hb d_La_law_476 (lv_at hl 4 rfl) ?_
  refine lv_iconst (v := 2) hx hb d_La_law_478 (by decide) ?_
  refine lv_iadd hx hb d_La_law_479 ?_
  refine va_sld hx hb hX hbl hbA hS h2 d_La_law_480 ?_
  refine lv_aload_n hx hb d_La_law_481 rfl (lv_at hl 0 rfl) ?_
  refine lv_iload hx hb d_La_law_482 (lv_at hl 4 rfl) ?_
  refine lv_iconst (v := 3) hx hb d_La_law_484 (by decide) ?_
  refine lv_iadd hx hb d_La_law_485 ?_
  refine va_sld hx hb hX hbl hbA hS h3 d_La_law_486 ?_
  refine lv_aload_n hx hb d_La_law_487 rfl (lv_at hl 0 rfl) ?_
  refine lv_iload hx hb d_La_law_488 (lv_at hl 4 rfl) ?_
  refine lv_iconst (v := 4) hx hb d_La_law_490 (by decide) ?_
  refine lv_iadd hx hb d_La_law_491 ?_
  refine va_sld hx hb hX hbl hbA hS h4 d_La_law_492 ?_
  refine lv_aload_n hx hb d_La_law_493 rfl (lv_at hl 0 rfl) ?_
  refine lv_iload hx hb d_La_law_494 (lv_at hl 4 rfl) ?_
  refine lv_iconst (v := 5) hx hb d_La_law_496 (by decide) ?_
  refine lv_iadd hx hb d_La_law_497 ?_
  refine va_sld hx hb hX hbl hbA hS h5 d_La_law_498 ?_
  refine lv_aload_n hx hb d_La_law_499 rfl (lv_at hl 3 rfl) ?_
  refine ka_i (vx_runSW (As := [.ref (A 0), .int (xs (x4 + 1).toNatClampNeg), .int (xs (x4 + 2).toNatClampNeg), .int (xs (x4 + 3).toNatClampNeg), .int (xs (x4 + 4).toNatClampNeg), .int (xs (x4 + 5).toNatClampNeg), .ref (A 63)]) (rest := []) S9 (c_La_gate_err l hl9 D A (MW A ρ []) f _ σ (xs (x4 + 1).toNatClampNeg) (xs (x4 + 2).toNatClampNeg) (xs (x4 + 3).toNatClampNeg) (xs (x4 + 4).toNatClampNeg) (xs (x4 + 5).toNatClampNeg) k hk u e1) (vx_cwSW 7 hts (tg_SW wl_La_116 ws_La_gate wi_La wo_La_gate) rfl rfl rfl wq_La_gate.2 ⟨Nat.le_of_ble_eq_true rfl, Nat.le_of_ble_eq_true rfl⟩) (ka_preC X9 hC hP hD hS) rfl rfl hl.1 rfl (lv_room (Nat.le_of_ble_eq_true rfl)) d_La_law_500 ⟨hc, hsl⟩) X9 hD hS rfl (fun H locs hP hD hS => ?_)
  refine lv_istore (lv' := (5, .int (nI k)) :: [(0, .ref b), (1, .ref (A 0)), (2, .ref (A 60)), (3, .ref (A 63)), (4, .int x4)]) hx hb d_La_law_503 hl (by decide) rfl (fun ls hl => ?_)
  refine lv_aload_n hx hb d_La_law_505 rfl (lv_at hl 3 rfl) ?_
  refine lv_aload_n hx hb d_La_law_506 rfl (lv_at hl 1 rfl) ?_
  refine lv_iload hx hb d_La_law_507 (lv_at hl 5 rfl) ?_
  refine lv_iconst (v := 1) hx hb d_La_law_509 (by decide) ?_
  refine lv_iadd hx hb d_La_law_510 ?_
  refine va_sld hx hb hX hbl hbA hS h1 d_La_law_511 ?_
  refine lv_aload_n hx hb d_La_law_512 rfl (lv_at hl 1 rfl) ?_
  refine lv_iload hx hb d_La_law_513 (lv_at hl 5 rfl) ?_
  refine lv_iconst (v := 2) hx hb d_La_law_515 (by decide) ?_
  refine lv_iadd hx hb d_La_law_516 ?_
  refine va_sld hx hb hX hbl hbA hS h2 d_La_law_517 ?_
  refine lv_aload_n hx hb d_La_law_518 rfl (lv_at hl 1 rfl) ?_
  refine lv_iload hx hb d_La_law_519 (lv_at hl 5 rfl) ?_
  refine lv_iconst (v := 3) hx hb d_La_law_521 (by decide) ?_
  refine lv_iadd hx hb d_La_law_522 ?_
  refine va_sld hx hb hX hbl hbA hS h3 d_La_law_523 ?_
  refine lv_aload_n hx hb d_La_law_524 rfl (lv_at hl 1 rfl) ?_
  refine lv_iload hx hb d_La_law_525 (lv_at hl 5 rfl) ?_
  refine lv_iconst (v := 4) hx hb d_La_law_527 (by decide) ?_
  refine lv_iadd hx hb d_La_law_528 ?_
  refine va_sld hx hb hX hbl hbA hS h4 d_La_law_529 ?_
  refine lv_aload_n hx hb d_La_law_530 rfl (lv_at hl 1 rfl) ?_
  refine lv_iload hx hb d_La_law_531 (lv_at hl 5 rfl) ?_
  refine lv_iconst (v := 5) hx hb d_La_law_533 (by decide) ?_
  refine lv_iadd hx hb d_La_law_534 ?_
  refine va_sld hx hb hX hbl hbA hS h5 d_La_law_535 ?_
  replace hP := kp_P (kp_perm A u ρ f) hP
  replace hD := kp_D (kp_perm A u ρ f) hD
  refine ka_i (va_runV (As := [.int (xs (x4 + 1).toNatClampNeg), .int (xs (x4 + 2).toNatClampNeg), .int (xs (x4 + 3).toNatClampNeg), .int (xs (x4 + 4).toNatClampNeg), .int (xs (x4 + 5).toNatClampNeg)]) (rest := []) S9 (c_Mo_gate l hl9 D A (GW A u [ka_oc A f]) _ ρ (xs (x4 + 1).toNatClampNeg) (xs (x4 + 2).toNatClampNeg) (xs (x4 + 3).toNatClampNeg) (xs (x4 + 4).toNatClampNeg) (xs (x4 + 5).toNatClampNeg) z e2) (cwV 5 hts (tg_V wl_La_119 wm_Mo_gate we_Mo_gate wi_Mo wo_Mo_gate) rfl rfl rfl wq_Mo_gate ⟨Nat.le_of_ble_eq_true rfl, Nat.le_of_ble_eq_true rfl⟩) (ka_preV X9 hP hD hS 0 rfl rfl) rfl rfl hl.1 rfl (lv_room (Nat.le_of_ble_eq_true rfl)) d_La_law_536 ⟨hc, hsl⟩) X9 hD hS rfl (fun H locs hP hD hS => ?_)
  refine lv_istore (lv' := (6, .int z.1) :: (5, .int (nI k)) :: [(0, .ref b), (1, .ref (A 0)), (2, .ref (A 60)), (3, .ref (A 63)), (4, .int x4)]) hx hb d_La_law_539 hl (by decide) rfl (fun ls hl => ?_)
  replace hP := kp_P (kp_perm A u z.2 f).symm hP
  replace hD := kp_D (kp_perm A u z.2 f).symm hD
  refine lv_goto (tgt := 1453) hx hb d_La_law_541 (by decide) ?_
  refine W.widen (k := cells + 1) (n := slots + 6) (by omega) (by omega) ?_
  exact kk u z.2 f _ _ _ hI hP hD hS (lv_sub hl [2, 3, 4, 5, 6] rfl)
set_option maxRecDepth 100000 in
set_option maxHeartbeats 4000000 in
theorem lc_7 {p : Program} {l : Launch} {e : Env} {s : State} {m : MethodId} {below : List Frame} {meth : Method} {c : Code} {b L : Nat} {xs : Nat → Int32} {D : va_G} {A : Nat → Nat} (I : KS → RS → Prop) (X : lx_ p l s m meth c b L xs D A) {cells slots : Nat} (hc : cells + 1 ≤ room_1.cells) (hsl : slots + 6 ≤ room_1.slots) (x4 : Int32) (h1 : vp_in (x4 + 1) L) (h2 : vp_in (x4 + 2) L) (h3 : vp_in (x4 + 3) L) (h4 : vp_in (x4 + 4) L) (σ : KS) (ρ : RS) (f : Nat → Int64) (sim : ∀ x1 x2 x3 x4 : Int32, (∃ (v : Int32) (u : KS) (z : Int32 × RS), f_Ke_thread σ x1 x2 x3 x4 = some (.ok v, u) ∧ f_Mo_thread ρ x1 x2 x3 x4 = some z ∧ I u z.2) ∨ (∃ (k : Nat) (u : KS) (z : Int32 × RS), (k = 1 ∨ k = 2 ∨ k = 3 ∨ k = 4) ∧ f_Ke_thread σ x1 x2 x3 x4 = some (.error k, u) ∧ f_Mo_thread ρ x1 x2 x3 x4 = some z ∧ I u z.2)) {H : Heap} {locs : List Loc} {ls : Array Slot} (hP : va_P D vwCl (kp_C A σ ρ f) H) (hD : va_D (fun q : Nat => s.heap.size ≤ q) (kp_C A σ ρ f)) (hS : va_S (fun q : Nat => s.heap.size ≤ q) s.heap H locs) (hl : lv_has ls 7 [(0, .ref b), (1, .ref (A 0)), (2, .ref (A 60)), (3, .ref (A 63)), (4, .int x4)])
    (kk : ∀ (u : KS) (ρ1 : RS) (f1 : Nat → Int64) (H : Heap) (locs : List Loc) (ls : Array Slot), I u ρ1 → va_P D vwCl (kp_C A u ρ1 f1) H → va_D (fun q : Nat => s.heap.size ≤ q) (kp_C A u ρ1 f1) → va_S (fun q : Nat => s.heap.size ≤ q) s.heap H locs → lv_has ls 7 [(0, .ref b), (1, .ref (A 0)), (2, .ref (A 60)), (3, .ref (A 63)), (4, .int x4)] → W p l e room_1 s m #[Value.ref b] below meth c H locs (cells + 1) (slots + 6) (lw_Z below #[Value.ref b] s) (F0 m 1453 ls [])) : W p l e room_1 s m #[Value.ref b] below meth c H locs cells slots (lw_Z below #[Value.ref b] s) (F0 m 544 ls []) := by
  obtain ⟨hl9, S9, hX, hbl, hlk, hr, hC, X9⟩ := X
  obtain ⟨hx, hb, hml, hown, hts⟩ := id S9
  have hK := X9.2.1
  have hbA : ¬ (fun q : Nat => s.heap.size ≤ q) b := Nat.not_le.mpr hbl
  rcases sim (xs (x4 + 1).toNatClampNeg) (xs (x4 + 2).toNatClampNeg) (xs (x4 + 3).toNatClampNeg) (xs (x4 + 4).toNatClampNeg) with ⟨v, u, z, e1, e2, hI⟩ | ⟨k, u, z, hk, e1, e2, hI⟩
  · refine lv_aload_n hx hb d_La_law_544 rfl (lv_at hl 1 rfl) ?_
    refine lv_aload_n hx hb d_La_law_545 rfl (lv_at hl 0 rfl) ?_
    refine lv_iload hx hb d_La_law_546 (lv_at hl 4 rfl) ?_
    refine lv_iconst (v := 1) hx hb d_La_law_548 (by decide) ?_
    refine lv_iadd hx hb d_La_law_549 ?_
    refine va_sld hx hb hX hbl hbA hS h1 d_La_law_550 ?_
    refine lv_aload_n hx hb d_La_law_551 rfl (lv_at hl 0 rfl) ?_
    refine lv_iload hx hb d_La_law_552 (lv_at hl 4 rfl) ?_
    refine lv_iconst (v := 2) hx hb d_La_law_554 (by decide) ?_
    refine lv_iadd hx hb d_La_law_555 ?_
    refine va_sld hx hb hX hbl hbA hS h2 d_La_law_556 ?_
    refine lv_aload_n hx hb d_La_law_557 rfl (lv_at hl 0 rfl) ?_
    refine lv_iload hx hb d_La_law_558 (lv_at hl 4 rfl) ?_
    refine lv_iconst (v := 3) hx hb d_La_law_560 (by decide) ?_
    refine lv_iadd hx hb d_La_law_561 ?_
    refine va_sld hx hb hX hbl hbA hS h3 d_La_law_562 ?_
    refine lv_aload_n hx hb d_La_law_563 rfl (lv_at hl 0 rfl) ?_
    refine lv_iload hx hb d_La_law_564 (lv_at hl 4 rfl) ?_
    refine lv_iconst (v := 4) hx hb d_La_law_566 (by decide) ?_
    refine lv_iadd hx hb d_La_law_567 ?_
    refine va_sld hx hb hX hbl hbA hS h4 d_La_law_568 ?_
    refine lv_aload_n hx hb d_La_law_569 rfl (lv_at hl 3 rfl) ?_
    refine ka_i (vx_runSW (As := [.ref (A 0), .int (xs (x4 + 1).toNatClampNeg), .int (xs (x4 + 2).toNatClampNeg), .int (xs (x4 + 3).toNatClampNeg), .int (xs (x4 + 4).toNatClampNeg), .ref (A 63)]) (rest := []) S9 (c_La_thread_ok l hl9 D A (MW A ρ []) f _ σ (xs (x4 + 1).toNatClampNeg) (xs (x4 + 2).toNatClampNeg) (xs (x4 + 3).toNatClampNeg) (xs (x4 + 4).toNatClampNeg) v u e1) (vx_cwSW 6 hts (tg_SW wl_La_120 ws_La_thread wi_La wo_La_thread) rfl rfl rfl wq_La_thread.2 ⟨Nat.le_of_ble_eq_true rfl, Nat.le_of_ble_eq_true rfl⟩) (ka_preC X9 hC hP hD hS) rfl rfl hl.1 rfl (lv_room (Nat.le_of_ble_eq_true rfl)) d_La_law_570 ⟨Nat.le_trans (Nat.le_succ _) hc, Nat.le_trans (Nat.le_add_right _ 6) hsl⟩) X9 hD hS rfl (fun H locs hP hD hS => ?_)
    refine lv_istore (lv' := (5, .int 0) :: [(0, .ref b), (1, .ref (A 0)), (2, .ref (A 60)), (3, .ref (A 63)), (4, .int x4)]) hx hb d_La_law_573 hl (by decide) rfl (fun ls hl => ?_)
    refine lv_aload_n hx hb d_La_law_575 rfl (lv_at hl 3 rfl) ?_
    refine lv_aload_n hx hb d_La_law_576 rfl (lv_at hl 1 rfl) ?_
    refine lv_iload hx hb d_La_law_577 (lv_at hl 5 rfl) ?_
    refine lv_iconst (v := 1) hx hb d_La_law_579 (by decide) ?_
    refine lv_iadd hx hb d_La_law_580 ?_
    refine va_sld hx hb hX hbl hbA hS h1 d_La_law_581 ?_
    refine lv_aload_n hx hb d_La_law_582 rfl (lv_at hl 1 rfl) ?_
    refine lv_iload hx hb d_La_law_583 (lv_at hl 5 rfl) ?_
    refine lv_iconst (v := 2) hx hb d_La_law_585 (by decide) ?_
    refine lv_iadd hx hb d_La_law_586 ?_
    refine va_sld hx hb hX hbl hbA hS h2 d_La_law_587 ?_
    refine lv_aload_n hx hb d_La_law_588 rfl (lv_at hl 1 rfl) ?_
    refine lv_iload hx hb d_La_law_589 (lv_at hl 5 rfl) ?_
    refine lv_iconst (v := 3) hx hb d_La_law_591 (by decide) ?_
    refine lv_iadd hx hb d_La_law_592 ?_
    refine va_sld hx hb hX hbl hbA hS h3 d_La_law_593 ?_
    refine lv_aload_n hx hb d_La_law_594 rfl (lv_at hl 1 rfl) ?_
    refine lv_iload hx hb d_La_law_595 (lv_at hl 5 rfl) ?_
    refine lv_iconst (v := 4) hx hb d_La_law_597 (by decide) ?_
    refine lv_iadd hx hb d_La_law_598 ?_
    refine va_sld hx hb hX hbl hbA hS h4 d_La_law_599 ?_
    replace hP := kp_P (kp_perm A u ρ (vp_updL f 0 v.toInt64)) hP
    replace hD := kp_D (kp_perm A u ρ (vp_updL f 0 v.toInt64)) hD
    refine ka_i (va_runV (As := [.int (xs (x4 + 1).toNatClampNeg), .int (xs (x4 + 2).toNatClampNeg), .int (xs (x4 + 3).toNatClampNeg), .int (xs (x4 + 4).toNatClampNeg)]) (rest := []) S9 (c_Mo_thread l hl9 D A (GW A u [ka_oc A (vp_updL f 0 v.toInt64)]) _ ρ (xs (x4 + 1).toNatClampNeg) (xs (x4 + 2).toNatClampNeg) (xs (x4 + 3).toNatClampNeg) (xs (x4 + 4).toNatClampNeg) z e2) (cwV 4 hts (tg_V wl_La_122 wm_Mo_thread we_Mo_thread wi_Mo wo_Mo_thread) rfl rfl rfl wq_Mo_thread ⟨Nat.le_of_ble_eq_true rfl, Nat.le_of_ble_eq_true rfl⟩) (ka_preV X9 hP hD hS 0 rfl rfl) rfl rfl hl.1 rfl (lv_room (Nat.le_of_ble_eq_true rfl)) d_La_law_600 ⟨Nat.le_trans (Nat.le_succ _) hc, Nat.le_trans (Nat.le_add_right _ 6) hsl⟩) X9 hD hS rfl (fun H locs hP hD hS => ?_)
    refine lv_istore (lv' := (6, .int z.1) :: (5, .int 0) :: [(0, .ref b), (1, .ref (A 0)), (2, .ref (A 60)), (3, .ref (A 63)), (4, .int x4)]) hx hb d_La_law_603 hl (by decide) rfl (fun ls hl => ?_)
    replace hP := kp_P (kp_perm A u z.2 (vp_updL f 0 v.toInt64)).symm hP
    replace hD := kp_D (kp_perm A u z.2 (vp_updL f 0 v.toInt64)).symm hD
    refine lv_goto (tgt := 1453) hx hb d_La_law_605 (by decide) ?_
    refine W.widen (k := cells + 1) (n := slots + 6) (by omega) (by omega) ?_
    exact kk u z.2 (vp_updL f 0 v.toInt64) _ _ _ hI hP hD hS (lv_sub hl [2, 3, 4, 5, 6] rfl)
  refine lv_aload_n hx hb d_La_law_544 rfl (lv_at hl 1 rfl) ?_
  refine lv_aload_n hx hb d_La_law_545 rfl (lv_at hl 0 rfl) ?_
  refine lv_iload hx hb d_La_law_546 (lv_at hl 4 rfl) ?_
  refine lv_iconst (v := 1) hx hb d_La_law_548 (by decide) ?_
  refine lv_iadd hx hb d_La_law_549 ?_
  refine va_sld hx hb hX hbl hbA hS h1 d_La_law_550 ?_
  refine lv_aload_n hx hb d_La_law_551 rfl (lv_at hl 0 rfl) ?_
  refine lv_iload hx hb d_La_law_552 (lv_at hl 4 rfl) ?_
  refine lv_iconst (v := 2) hx hb d_La_law_554 (by decide) ?_
  refine lv_iadd hx hb d_La_law_555 ?_
  refine va_sld hx hb hX hbl hbA hS h2 d_La_law_556 ?_
  refine lv_aload_n hx hb d_La_law_557 rfl (lv_at hl 0 rfl) ?_
  refine lv_iload hx hb d_La_law_558 (lv_at hl 4 rfl) ?_
  refine lv_iconst (v := 3) hx hb d_La_law_560 (by decide) ?_
  refine lv_iadd hx hb d_La_law_561 ?_
  refine va_sld hx hb hX hbl hbA hS h3 d_La_law_562 ?_
  refine lv_aload_n hx hb d_La_law_563 rfl (lv_at hl 0 rfl) ?_
  refine lv_iload hx hb d_La_law_564 (lv_at hl 4 rfl) ?_
  refine lv_iconst (v := 4) hx hb d_La_law_566 (by decide) ?_
  refine lv_iadd hx hb d_La_law_567 ?_
  refine va_sld hx hb hX hbl hbA hS h4 d_La_law_568 ?_
  refine lv_aload_n hx hb d_La_law_569 rfl (lv_at hl 3 rfl) ?_
  refine ka_i (vx_runSW (As := [.ref (A 0), .int (xs (x4 + 1).toNatClampNeg), .int (xs (x4 + 2).toNatClampNeg), .int (xs (x4 + 3).toNatClampNeg), .int (xs (x4 + 4).toNatClampNeg), .ref (A 63)]) (rest := []) S9 (c_La_thread_err l hl9 D A (MW A ρ []) f _ σ (xs (x4 + 1).toNatClampNeg) (xs (x4 + 2).toNatClampNeg) (xs (x4 + 3).toNatClampNeg) (xs (x4 + 4).toNatClampNeg) k hk u e1) (vx_cwSW 6 hts (tg_SW wl_La_120 ws_La_thread wi_La wo_La_thread) rfl rfl rfl wq_La_thread.2 ⟨Nat.le_of_ble_eq_true rfl, Nat.le_of_ble_eq_true rfl⟩) (ka_preC X9 hC hP hD hS) rfl rfl hl.1 rfl (lv_room (Nat.le_of_ble_eq_true rfl)) d_La_law_570 ⟨hc, hsl⟩) X9 hD hS rfl (fun H locs hP hD hS => ?_)
  refine lv_istore (lv' := (5, .int (nI k)) :: [(0, .ref b), (1, .ref (A 0)), (2, .ref (A 60)), (3, .ref (A 63)), (4, .int x4)]) hx hb d_La_law_573 hl (by decide) rfl (fun ls hl => ?_)
  refine lv_aload_n hx hb d_La_law_575 rfl (lv_at hl 3 rfl) ?_
  refine lv_aload_n hx hb d_La_law_576 rfl (lv_at hl 1 rfl) ?_
  refine lv_iload hx hb d_La_law_577 (lv_at hl 5 rfl) ?_
  refine lv_iconst (v := 1) hx hb d_La_law_579 (by decide) ?_
  refine lv_iadd hx hb d_La_law_580 ?_
  refine va_sld hx hb hX hbl hbA hS h1 d_La_law_581 ?_
  refine lv_aload_n hx hb d_La_law_582 rfl (lv_at hl 1 rfl) ?_
  refine lv_iload hx hb d_La_law_583 (lv_at hl 5 rfl) ?_
  refine lv_iconst (v := 2) hx hb d_La_law_585 (by decide) ?_
  refine lv_iadd hx hb d_La_law_586 ?_
  refine va_sld hx hb hX hbl hbA hS h2 d_La_law_587 ?_
  refine lv_aload_n hx hb d_La_law_588 rfl (lv_at hl 1 rfl) ?_
  refine lv_iload hx hb d_La_law_589 (lv_at hl 5 rfl) ?_
  refine lv_iconst (v := 3) hx hb d_La_law_591 (by decide) ?_
  refine lv_iadd hx hb d_La_law_592 ?_
  refine va_sld hx hb hX hbl hbA hS h3 d_La_law_593 ?_
  refine lv_aload_n hx hb d_La_law_594 rfl (lv_at hl 1 rfl) ?_
  refine lv_iload hx hb d_La_law_595 (lv_at hl 5 rfl) ?_
  refine lv_iconst (v := 4) hx hb d_La_law_597 (by decide) ?_
  refine lv_iadd hx hb d_La_law_598 ?_
  refine va_sld hx hb hX hbl hbA hS h4 d_La_law_599 ?_
  replace hP := kp_P (kp_perm A u ρ f) hP
  replace hD := kp_D (kp_perm A u ρ f) hD
  refine ka_i (va_runV (As := [.int (xs (x4 + 1).toNatClampNeg), .int (xs (x4 + 2).toNatClampNeg), .int (xs (x4 + 3).toNatClampNeg), .int (xs (x4 + 4).toNatClampNeg)]) (rest := []) S9 (c_Mo_thread l hl9 D A (GW A u [ka_oc A f]) _ ρ (xs (x4 + 1).toNatClampNeg) (xs (x4 + 2).toNatClampNeg) (xs (x4 + 3).toNatClampNeg) (xs (x4 + 4).toNatClampNeg) z e2) (cwV 4 hts (tg_V wl_La_122 wm_Mo_thread we_Mo_thread wi_Mo wo_Mo_thread) rfl rfl rfl wq_Mo_thread ⟨Nat.le_of_ble_eq_true rfl, Nat.le_of_ble_eq_true rfl⟩) (ka_preV X9 hP hD hS 0 rfl rfl) rfl rfl hl.1 rfl (lv_room (Nat.le_of_ble_eq_true rfl)) d_La_law_600 ⟨hc, hsl⟩) X9 hD hS rfl (fun H locs hP hD hS => ?_)
  refine lv_istore (lv' := (6, .int z.1) :: (5, .int (nI k)) :: [(0, .ref b), (1, .ref (A 0)), (2, .ref (A 60)), (3, .ref (A 63)), (4, .int x4)]) hx hb d_La_law_603 hl (by decide) rfl (fun ls hl => ?_)
  replace hP := kp_P (kp_perm A u z.2 f).symm hP
  replace hD := kp_D (kp_perm A u z.2 f).symm hD
  refine lv_goto (tgt := 1453) hx hb d_La_law_605 (by decide) ?_
  refine W.widen (k := cells + 1) (n := slots + 6) (by omega) (by omega) ?_
  exact kk u z.2 f _ _ _ hI hP hD hS (lv_sub hl [2, 3, 4, 5, 6] rfl)
set_option maxRecDepth 100000 in
set_option maxHeartbeats 4000000 in
theorem lc_8 {p : Program} {l : Launch} {e : Env} {s : State} {m : MethodId} {below : List Frame} {meth : Method} {c : Code} {b L : Nat} {xs : Nat → Int32} {D : va_G} {A : Nat → Nat} (I : KS → RS → Prop) (X : lx_ p l s m meth c b L xs D A) {cells slots : Nat} (hc : cells + 1 ≤ room_1.cells) (hsl : slots + 6 ≤ room_1.slots) (x4 : Int32) (h1 : vp_in (x4 + 1) L) (h2 : vp_in (x4 + 2) L) (h3 : vp_in (x4 + 3) L) (h4 : vp_in (x4 + 4) L) (σ : KS) (ρ : RS) (f : Nat → Int64) (sim : ∀ x1 x2 x3 x4 : Int32, (∃ (v : Int32) (u : KS) (z : Int32 × RS), f_Ke_read σ x1 x2 x3 x4 = some (.ok v, u) ∧ f_Mo_read ρ x1 x2 x3 x4 = some z ∧ I u z.2) ∨ (∃ (k : Nat) (u : KS) (z : Int32 × RS), (k = 1 ∨ k = 2 ∨ k = 3 ∨ k = 4) ∧ f_Ke_read σ x1 x2 x3 x4 = some (.error k, u) ∧ f_Mo_read ρ x1 x2 x3 x4 = some z ∧ I u z.2)) {H : Heap} {locs : List Loc} {ls : Array Slot} (hP : va_P D vwCl (kp_C A σ ρ f) H) (hD : va_D (fun q : Nat => s.heap.size ≤ q) (kp_C A σ ρ f)) (hS : va_S (fun q : Nat => s.heap.size ≤ q) s.heap H locs) (hl : lv_has ls 7 [(0, .ref b), (1, .ref (A 0)), (2, .ref (A 60)), (3, .ref (A 63)), (4, .int x4)])
    (kk : ∀ (u : KS) (ρ1 : RS) (f1 : Nat → Int64) (H : Heap) (locs : List Loc) (ls : Array Slot), I u ρ1 → va_P D vwCl (kp_C A u ρ1 f1) H → va_D (fun q : Nat => s.heap.size ≤ q) (kp_C A u ρ1 f1) → va_S (fun q : Nat => s.heap.size ≤ q) s.heap H locs → lv_has ls 7 [(0, .ref b), (1, .ref (A 0)), (2, .ref (A 60)), (3, .ref (A 63)), (4, .int x4)] → W p l e room_1 s m #[Value.ref b] below meth c H locs (cells + 1) (slots + 6) (lw_Z below #[Value.ref b] s) (F0 m 1453 ls [])) : W p l e room_1 s m #[Value.ref b] below meth c H locs cells slots (lw_Z below #[Value.ref b] s) (F0 m 608 ls []) := by
  obtain ⟨hl9, S9, hX, hbl, hlk, hr, hC, X9⟩ := X
  obtain ⟨hx, hb, hml, hown, hts⟩ := id S9
  have hK := X9.2.1
  have hbA : ¬ (fun q : Nat => s.heap.size ≤ q) b := Nat.not_le.mpr hbl
  rcases sim (xs (x4 + 1).toNatClampNeg) (xs (x4 + 2).toNatClampNeg) (xs (x4 + 3).toNatClampNeg) (xs (x4 + 4).toNatClampNeg) with ⟨v, u, z, e1, e2, hI⟩ | ⟨k, u, z, hk, e1, e2, hI⟩
  · refine lv_aload_n hx hb d_La_law_608 rfl (lv_at hl 1 rfl) ?_
    refine lv_aload_n hx hb d_La_law_609 rfl (lv_at hl 0 rfl) ?_
    refine lv_iload hx hb d_La_law_610 (lv_at hl 4 rfl) ?_
    refine lv_iconst (v := 1) hx hb d_La_law_612 (by decide) ?_
    refine lv_iadd hx hb d_La_law_613 ?_
    refine va_sld hx hb hX hbl hbA hS h1 d_La_law_614 ?_
    refine lv_aload_n hx hb d_La_law_615 rfl (lv_at hl 0 rfl) ?_
    refine lv_iload hx hb d_La_law_616 (lv_at hl 4 rfl) ?_
    refine lv_iconst (v := 2) hx hb d_La_law_618 (by decide) ?_
    refine lv_iadd hx hb d_La_law_619 ?_
    refine va_sld hx hb hX hbl hbA hS h2 d_La_law_620 ?_
    refine lv_aload_n hx hb d_La_law_621 rfl (lv_at hl 0 rfl) ?_
    refine lv_iload hx hb d_La_law_622 (lv_at hl 4 rfl) ?_
    refine lv_iconst (v := 3) hx hb d_La_law_624 (by decide) ?_
    refine lv_iadd hx hb d_La_law_625 ?_
    refine va_sld hx hb hX hbl hbA hS h3 d_La_law_626 ?_
    refine lv_aload_n hx hb d_La_law_627 rfl (lv_at hl 0 rfl) ?_
    refine lv_iload hx hb d_La_law_628 (lv_at hl 4 rfl) ?_
    refine lv_iconst (v := 4) hx hb d_La_law_630 (by decide) ?_
    refine lv_iadd hx hb d_La_law_631 ?_
    refine va_sld hx hb hX hbl hbA hS h4 d_La_law_632 ?_
    refine lv_aload_n hx hb d_La_law_633 rfl (lv_at hl 3 rfl) ?_
    refine ka_i (vx_runSW (As := [.ref (A 0), .int (xs (x4 + 1).toNatClampNeg), .int (xs (x4 + 2).toNatClampNeg), .int (xs (x4 + 3).toNatClampNeg), .int (xs (x4 + 4).toNatClampNeg), .ref (A 63)]) (rest := []) S9 (c_La_read_ok l hl9 D A (MW A ρ []) f _ σ (xs (x4 + 1).toNatClampNeg) (xs (x4 + 2).toNatClampNeg) (xs (x4 + 3).toNatClampNeg) (xs (x4 + 4).toNatClampNeg) v u e1) (vx_cwSW 6 hts (tg_SW wl_La_123 ws_La_read wi_La wo_La_read) rfl rfl rfl wq_La_read.2 ⟨Nat.le_of_ble_eq_true rfl, Nat.le_of_ble_eq_true rfl⟩) (ka_preC X9 hC hP hD hS) rfl rfl hl.1 rfl (lv_room (Nat.le_of_ble_eq_true rfl)) d_La_law_634 ⟨Nat.le_trans (Nat.le_succ _) hc, Nat.le_trans (Nat.le_add_right _ 6) hsl⟩) X9 hD hS rfl (fun H locs hP hD hS => ?_)
    refine lv_istore (lv' := (5, .int 0) :: [(0, .ref b), (1, .ref (A 0)), (2, .ref (A 60)), (3, .ref (A 63)), (4, .int x4)]) hx hb d_La_law_637 hl (by decide) rfl (fun ls hl => ?_)
    refine lv_aload_n hx hb d_La_law_639 rfl (lv_at hl 3 rfl) ?_
    refine lv_aload_n hx hb d_La_law_640 rfl (lv_at hl 1 rfl) ?_
    refine lv_iload hx hb d_La_law_641 (lv_at hl 5 rfl) ?_
    refine lv_iconst (v := 1) hx hb d_La_law_643 (by decide) ?_
    refine lv_iadd hx hb d_La_law_644 ?_
    refine va_sld hx hb hX hbl hbA hS h1 d_La_law_645 ?_
    refine lv_aload_n hx hb d_La_law_646 rfl (lv_at hl 1 rfl) ?_
    refine lv_iload hx hb d_La_law_647 (lv_at hl 5 rfl) ?_
    refine lv_iconst (v := 2) hx hb d_La_law_649 (by decide) ?_
    refine lv_iadd hx hb d_La_law_650 ?_
    refine va_sld hx hb hX hbl hbA hS h2 d_La_law_651 ?_
    refine lv_aload_n hx hb d_La_law_652 rfl (lv_at hl 1 rfl) ?_
    refine lv_iload hx hb d_La_law_653 (lv_at hl 5 rfl) ?_
    refine lv_iconst (v := 3) hx hb d_La_law_655 (by decide) ?_
    refine lv_iadd hx hb d_La_law_656 ?_
    refine va_sld hx hb hX hbl hbA hS h3 d_La_law_657 ?_
    refine lv_aload_n hx hb d_La_law_658 rfl (lv_at hl 1 rfl) ?_
    refine lv_iload hx hb d_La_law_659 (lv_at hl 5 rfl) ?_
    refine lv_iconst (v := 4) hx hb d_La_law_661 (by decide) ?_
    refine lv_iadd hx hb d_La_law_662 ?_
    refine va_sld hx hb hX hbl hbA hS h4 d_La_law_663 ?_
    replace hP := kp_P (kp_perm A u ρ (vp_updL f 0 v.toInt64)) hP
    replace hD := kp_D (kp_perm A u ρ (vp_updL f 0 v.toInt64)) hD
    refine ka_i (va_runV (As := [.int (xs (x4 + 1).toNatClampNeg), .int (xs (x4 + 2).toNatClampNeg), .int (xs (x4 + 3).toNatClampNeg), .int (xs (x4 + 4).toNatClampNeg)]) (rest := []) S9 (c_Mo_read l hl9 D A (GW A u [ka_oc A (vp_updL f 0 v.toInt64)]) _ ρ (xs (x4 + 1).toNatClampNeg) (xs (x4 + 2).toNatClampNeg) (xs (x4 + 3).toNatClampNeg) (xs (x4 + 4).toNatClampNeg) z e2) (cwV 4 hts (tg_V wl_La_125 wm_Mo_read we_Mo_read wi_Mo wo_Mo_read) rfl rfl rfl wq_Mo_read ⟨Nat.le_of_ble_eq_true rfl, Nat.le_of_ble_eq_true rfl⟩) (ka_preV X9 hP hD hS 0 rfl rfl) rfl rfl hl.1 rfl (lv_room (Nat.le_of_ble_eq_true rfl)) d_La_law_664 ⟨Nat.le_trans (Nat.le_succ _) hc, Nat.le_trans (Nat.le_add_right _ 6) hsl⟩) X9 hD hS rfl (fun H locs hP hD hS => ?_)
    refine lv_istore (lv' := (6, .int z.1) :: (5, .int 0) :: [(0, .ref b), (1, .ref (A 0)), (2, .ref (A 60)), (3, .ref (A 63)), (4, .int x4)]) hx hb d_La_law_667 hl (by decide) rfl (fun ls hl => ?_)
    replace hP := kp_P (kp_perm A u z.2 (vp_updL f 0 v.toInt64)).symm hP
    replace hD := kp_D (kp_perm A u z.2 (vp_updL f 0 v.toInt64)).symm hD
    refine lv_goto (tgt := 1453) hx hb d_La_law_669 (by decide) ?_
    refine W.widen (k := cells + 1) (n := slots + 6) (by omega) (by omega) ?_
    exact kk u z.2 (vp_updL f 0 v.toInt64) _ _ _ hI hP hD hS (lv_sub hl [2, 3, 4, 5, 6] rfl)
  refine lv_aload_n hx hb d_La_law_608 rfl (lv_at hl 1 rfl) ?_
  refine lv_aload_n hx hb d_La_law_609 rfl (lv_at hl 0 rfl) ?_
  refine lv_iload hx hb d_La_law_610 (lv_at hl 4 rfl) ?_
  refine lv_iconst (v := 1) hx hb d_La_law_612 (by decide) ?_
  refine lv_iadd hx hb d_La_law_613 ?_
  refine va_sld hx hb hX hbl hbA hS h1 d_La_law_614 ?_
  refine lv_aload_n hx hb d_La_law_615 rfl (lv_at hl 0 rfl) ?_
  refine lv_iload hx hb d_La_law_616 (lv_at hl 4 rfl) ?_
  refine lv_iconst (v := 2) hx hb d_La_law_618 (by decide) ?_
  refine lv_iadd hx hb d_La_law_619 ?_
  refine va_sld hx hb hX hbl hbA hS h2 d_La_law_620 ?_
  refine lv_aload_n hx hb d_La_law_621 rfl (lv_at hl 0 rfl) ?_
  refine lv_iload hx hb d_La_law_622 (lv_at hl 4 rfl) ?_
  refine lv_iconst (v := 3) hx hb d_La_law_624 (by decide) ?_
  refine lv_iadd hx hb d_La_law_625 ?_
  refine va_sld hx hb hX hbl hbA hS h3 d_La_law_626 ?_
  refine lv_aload_n hx hb d_La_law_627 rfl (lv_at hl 0 rfl) ?_
  refine lv_iload hx hb d_La_law_628 (lv_at hl 4 rfl) ?_
  refine lv_iconst (v := 4) hx hb d_La_law_630 (by decide) ?_
  refine lv_iadd hx hb d_La_law_631 ?_
  refine va_sld hx hb hX hbl hbA hS h4 d_La_law_632 ?_
  refine lv_aload_n hx hb d_La_law_633 rfl (lv_at hl 3 rfl) ?_
  refine ka_i (vx_runSW (As := [.ref (A 0), .int (xs (x4 + 1).toNatClampNeg), .int (xs (x4 + 2).toNatClampNeg), .int (xs (x4 + 3).toNatClampNeg), .int (xs (x4 + 4).toNatClampNeg), .ref (A 63)]) (rest := []) S9 (c_La_read_err l hl9 D A (MW A ρ []) f _ σ (xs (x4 + 1).toNatClampNeg) (xs (x4 + 2).toNatClampNeg) (xs (x4 + 3).toNatClampNeg) (xs (x4 + 4).toNatClampNeg) k hk u e1) (vx_cwSW 6 hts (tg_SW wl_La_123 ws_La_read wi_La wo_La_read) rfl rfl rfl wq_La_read.2 ⟨Nat.le_of_ble_eq_true rfl, Nat.le_of_ble_eq_true rfl⟩) (ka_preC X9 hC hP hD hS) rfl rfl hl.1 rfl (lv_room (Nat.le_of_ble_eq_true rfl)) d_La_law_634 ⟨hc, hsl⟩) X9 hD hS rfl (fun H locs hP hD hS => ?_)
  refine lv_istore (lv' := (5, .int (nI k)) :: [(0, .ref b), (1, .ref (A 0)), (2, .ref (A 60)), (3, .ref (A 63)), (4, .int x4)]) hx hb d_La_law_637 hl (by decide) rfl (fun ls hl => ?_)
  refine lv_aload_n hx hb d_La_law_639 rfl (lv_at hl 3 rfl) ?_
  refine lv_aload_n hx hb d_La_law_640 rfl (lv_at hl 1 rfl) ?_
  refine lv_iload hx hb d_La_law_641 (lv_at hl 5 rfl) ?_
  refine lv_iconst (v := 1) hx hb d_La_law_643 (by decide) ?_
  refine lv_iadd hx hb d_La_law_644 ?_
  refine va_sld hx hb hX hbl hbA hS h1 d_La_law_645 ?_
  refine lv_aload_n hx hb d_La_law_646 rfl (lv_at hl 1 rfl) ?_
  refine lv_iload hx hb d_La_law_647 (lv_at hl 5 rfl) ?_
  refine lv_iconst (v := 2) hx hb d_La_law_649 (by decide) ?_
  refine lv_iadd hx hb d_La_law_650 ?_
  refine va_sld hx hb hX hbl hbA hS h2 d_La_law_651 ?_
  refine lv_aload_n hx hb d_La_law_652 rfl (lv_at hl 1 rfl) ?_
  refine lv_iload hx hb d_La_law_653 (lv_at hl 5 rfl) ?_
  refine lv_iconst (v := 3) hx hb d_La_law_655 (by decide) ?_
  refine lv_iadd hx hb d_La_law_656 ?_
  refine va_sld hx hb hX hbl hbA hS h3 d_La_law_657 ?_
  refine lv_aload_n hx hb d_La_law_658 rfl (lv_at hl 1 rfl) ?_
  refine lv_iload hx hb d_La_law_659 (lv_at hl 5 rfl) ?_
  refine lv_iconst (v := 4) hx hb d_La_law_661 (by decide) ?_
  refine lv_iadd hx hb d_La_law_662 ?_
  refine va_sld hx hb hX hbl hbA hS h4 d_La_law_663 ?_
  replace hP := kp_P (kp_perm A u ρ f) hP
  replace hD := kp_D (kp_perm A u ρ f) hD
  refine ka_i (va_runV (As := [.int (xs (x4 + 1).toNatClampNeg), .int (xs (x4 + 2).toNatClampNeg), .int (xs (x4 + 3).toNatClampNeg), .int (xs (x4 + 4).toNatClampNeg)]) (rest := []) S9 (c_Mo_read l hl9 D A (GW A u [ka_oc A f]) _ ρ (xs (x4 + 1).toNatClampNeg) (xs (x4 + 2).toNatClampNeg) (xs (x4 + 3).toNatClampNeg) (xs (x4 + 4).toNatClampNeg) z e2) (cwV 4 hts (tg_V wl_La_125 wm_Mo_read we_Mo_read wi_Mo wo_Mo_read) rfl rfl rfl wq_Mo_read ⟨Nat.le_of_ble_eq_true rfl, Nat.le_of_ble_eq_true rfl⟩) (ka_preV X9 hP hD hS 0 rfl rfl) rfl rfl hl.1 rfl (lv_room (Nat.le_of_ble_eq_true rfl)) d_La_law_664 ⟨hc, hsl⟩) X9 hD hS rfl (fun H locs hP hD hS => ?_)
  refine lv_istore (lv' := (6, .int z.1) :: (5, .int (nI k)) :: [(0, .ref b), (1, .ref (A 0)), (2, .ref (A 60)), (3, .ref (A 63)), (4, .int x4)]) hx hb d_La_law_667 hl (by decide) rfl (fun ls hl => ?_)
  replace hP := kp_P (kp_perm A u z.2 f).symm hP
  replace hD := kp_D (kp_perm A u z.2 f).symm hD
  refine lv_goto (tgt := 1453) hx hb d_La_law_669 (by decide) ?_
  refine W.widen (k := cells + 1) (n := slots + 6) (by omega) (by omega) ?_
  exact kk u z.2 f _ _ _ hI hP hD hS (lv_sub hl [2, 3, 4, 5, 6] rfl)
set_option maxRecDepth 100000 in
set_option maxHeartbeats 4000000 in
theorem lc_9 {p : Program} {l : Launch} {e : Env} {s : State} {m : MethodId} {below : List Frame} {meth : Method} {c : Code} {b L : Nat} {xs : Nat → Int32} {D : va_G} {A : Nat → Nat} (I : KS → RS → Prop) (X : lx_ p l s m meth c b L xs D A) {cells slots : Nat} (hc : cells + 1 ≤ room_1.cells) (hsl : slots + 6 ≤ room_1.slots) (x4 : Int32) (h1 : vp_in (x4 + 1) L) (h2 : vp_in (x4 + 2) L) (h3 : vp_in (x4 + 3) L) (h4 : vp_in (x4 + 4) L) (h5 : vp_in (x4 + 5) L) (σ : KS) (ρ : RS) (f : Nat → Int64) (sim : ∀ x1 x2 x3 x4 x5 : Int32, (∃ (v : Int32) (u : KS) (z : Int32 × RS), f_Ke_write σ x1 x2 x3 x4 x5 = some (.ok v, u) ∧ f_Mo_write ρ x1 x2 x3 x4 x5 = some z ∧ I u z.2) ∨ (∃ (k : Nat) (u : KS) (z : Int32 × RS), (k = 1 ∨ k = 2 ∨ k = 3 ∨ k = 4) ∧ f_Ke_write σ x1 x2 x3 x4 x5 = some (.error k, u) ∧ f_Mo_write ρ x1 x2 x3 x4 x5 = some z ∧ I u z.2)) {H : Heap} {locs : List Loc} {ls : Array Slot} (hP : va_P D vwCl (kp_C A σ ρ f) H) (hD : va_D (fun q : Nat => s.heap.size ≤ q) (kp_C A σ ρ f)) (hS : va_S (fun q : Nat => s.heap.size ≤ q) s.heap H locs) (hl : lv_has ls 7 [(0, .ref b), (1, .ref (A 0)), (2, .ref (A 60)), (3, .ref (A 63)), (4, .int x4)])
    (kk : ∀ (u : KS) (ρ1 : RS) (f1 : Nat → Int64) (H : Heap) (locs : List Loc) (ls : Array Slot), I u ρ1 → va_P D vwCl (kp_C A u ρ1 f1) H → va_D (fun q : Nat => s.heap.size ≤ q) (kp_C A u ρ1 f1) → va_S (fun q : Nat => s.heap.size ≤ q) s.heap H locs → lv_has ls 7 [(0, .ref b), (1, .ref (A 0)), (2, .ref (A 60)), (3, .ref (A 63)), (4, .int x4)] → W p l e room_1 s m #[Value.ref b] below meth c H locs (cells + 1) (slots + 6) (lw_Z below #[Value.ref b] s) (F0 m 1453 ls [])) : W p l e room_1 s m #[Value.ref b] below meth c H locs cells slots (lw_Z below #[Value.ref b] s) (F0 m 672 ls []) := by
  obtain ⟨hl9, S9, hX, hbl, hlk, hr, hC, X9⟩ := X
  obtain ⟨hx, hb, hml, hown, hts⟩ := id S9
  have hK := X9.2.1
  have hbA : ¬ (fun q : Nat => s.heap.size ≤ q) b := Nat.not_le.mpr hbl
  rcases sim (xs (x4 + 1).toNatClampNeg) (xs (x4 + 2).toNatClampNeg) (xs (x4 + 3).toNatClampNeg) (xs (x4 + 4).toNatClampNeg) (xs (x4 + 5).toNatClampNeg) with ⟨v, u, z, e1, e2, hI⟩ | ⟨k, u, z, hk, e1, e2, hI⟩
  · refine lv_aload_n hx hb d_La_law_672 rfl (lv_at hl 1 rfl) ?_
    refine lv_aload_n hx hb d_La_law_673 rfl (lv_at hl 0 rfl) ?_
    refine lv_iload hx hb d_La_law_674 (lv_at hl 4 rfl) ?_
    refine lv_iconst (v := 1) hx hb d_La_law_676 (by decide) ?_
    refine lv_iadd hx hb d_La_law_677 ?_
    refine va_sld hx hb hX hbl hbA hS h1 d_La_law_678 ?_
    refine lv_aload_n hx hb d_La_law_679 rfl (lv_at hl 0 rfl) ?_
    refine lv_iload hx hb d_La_law_680 (lv_at hl 4 rfl) ?_
    refine lv_iconst (v := 2) hx hb d_La_law_682 (by decide) ?_
    refine lv_iadd hx hb d_La_law_683 ?_
    refine va_sld hx hb hX hbl hbA hS h2 d_La_law_684 ?_
    refine lv_aload_n hx hb d_La_law_685 rfl (lv_at hl 0 rfl) ?_
    refine lv_iload hx hb d_La_law_686 (lv_at hl 4 rfl) ?_
    refine lv_iconst (v := 3) hx hb d_La_law_688 (by decide) ?_
    refine lv_iadd hx hb d_La_law_689 ?_
    refine va_sld hx hb hX hbl hbA hS h3 d_La_law_690 ?_
    refine lv_aload_n hx hb d_La_law_691 rfl (lv_at hl 0 rfl) ?_
    refine lv_iload hx hb d_La_law_692 (lv_at hl 4 rfl) ?_
    refine lv_iconst (v := 4) hx hb d_La_law_694 (by decide) ?_
    refine lv_iadd hx hb d_La_law_695 ?_
    refine va_sld hx hb hX hbl hbA hS h4 d_La_law_696 ?_
    refine lv_aload_n hx hb d_La_law_697 rfl (lv_at hl 0 rfl) ?_
    refine lv_iload hx hb d_La_law_698 (lv_at hl 4 rfl) ?_
    refine lv_iconst (v := 5) hx hb d_La_law_700 (by decide) ?_
    refine lv_iadd hx hb d_La_law_701 ?_
    refine va_sld hx hb hX hbl hbA hS h5 d_La_law_702 ?_
    refine lv_aload_n hx hb d_La_law_703 rfl (lv_at hl 3 rfl) ?_
    refine ka_i (vx_runSW (As := [.ref (A 0), .int (xs (x4 + 1).toNatClampNeg), .int (xs (x4 + 2).toNatClampNeg), .int (xs (x4 + 3).toNatClampNeg), .int (xs (x4 + 4).toNatClampNeg), .int (xs (x4 + 5).toNatClampNeg), .ref (A 63)]) (rest := []) S9 (c_La_write_ok l hl9 D A (MW A ρ []) f _ σ (xs (x4 + 1).toNatClampNeg) (xs (x4 + 2).toNatClampNeg) (xs (x4 + 3).toNatClampNeg) (xs (x4 + 4).toNatClampNeg) (xs (x4 + 5).toNatClampNeg) v u e1) (vx_cwSW 7 hts (tg_SW wl_La_126 ws_La_write wi_La wo_La_write) rfl rfl rfl wq_La_write.2 ⟨Nat.le_of_ble_eq_true rfl, Nat.le_of_ble_eq_true rfl⟩) (ka_preC X9 hC hP hD hS) rfl rfl hl.1 rfl (lv_room (Nat.le_of_ble_eq_true rfl)) d_La_law_704 ⟨Nat.le_trans (Nat.le_succ _) hc, Nat.le_trans (Nat.le_add_right _ 6) hsl⟩) X9 hD hS rfl (fun H locs hP hD hS => ?_)
    refine lv_istore (lv' := (5, .int 0) :: [(0, .ref b), (1, .ref (A 0)), (2, .ref (A 60)), (3, .ref (A 63)), (4, .int x4)]) hx hb d_La_law_707 hl (by decide) rfl (fun ls hl => ?_)
    refine lv_aload_n hx hb d_La_law_709 rfl (lv_at hl 3 rfl) ?_
    refine lv_aload_n hx hb d_La_law_710 rfl (lv_at hl 1 rfl) ?_
    refine lv_iload hx hb d_La_law_711 (lv_at hl 5 rfl) ?_
    refine lv_iconst (v := 1) hx hb d_La_law_713 (by decide) ?_
    refine lv_iadd hx hb d_La_law_714 ?_
    refine va_sld hx hb hX hbl hbA hS h1 d_La_law_715 ?_
    refine lv_aload_n hx hb d_La_law_716 rfl (lv_at hl 1 rfl) ?_
    refine lv_iload hx hb d_La_law_717 (lv_at hl 5 rfl) ?_
    refine lv_iconst (v := 2) hx hb d_La_law_719 (by decide) ?_
    refine lv_iadd hx hb d_La_law_720 ?_
    refine va_sld hx hb hX hbl hbA hS h2 d_La_law_721 ?_
    refine lv_aload_n hx hb d_La_law_722 rfl (lv_at hl 1 rfl) ?_
    refine lv_iload hx hb d_La_law_723 (lv_at hl 5 rfl) ?_
    refine lv_iconst (v := 3) hx hb d_La_law_725 (by decide) ?_
    refine lv_iadd hx hb d_La_law_726 ?_
    refine va_sld hx hb hX hbl hbA hS h3 d_La_law_727 ?_
    refine lv_aload_n hx hb d_La_law_728 rfl (lv_at hl 1 rfl) ?_
    refine lv_iload hx hb d_La_law_729 (lv_at hl 5 rfl) ?_
    refine lv_iconst (v := 4) hx hb d_La_law_731 (by decide) ?_
    refine lv_iadd hx hb d_La_law_732 ?_
    refine va_sld hx hb hX hbl hbA hS h4 d_La_law_733 ?_
    refine lv_aload_n hx hb d_La_law_734 rfl (lv_at hl 1 rfl) ?_
    refine lv_iload hx hb d_La_law_735 (lv_at hl 5 rfl) ?_
    refine lv_iconst (v := 5) hx hb d_La_law_737 (by decide) ?_
    refine lv_iadd hx hb d_La_law_738 ?_
    refine va_sld hx hb hX hbl hbA hS h5 d_La_law_739 ?_
    replace hP := kp_P (kp_perm A u ρ (vp_updL f 0 v.toInt64)) hP
    replace hD := kp_D (kp_perm A u ρ (vp_updL f 0 v.toInt64)) hD
    refine ka_i (va_runV (As := [.int (xs (x4 + 1).toNatClampNeg), .int (xs (x4 + 2).toNatClampNeg), .int (xs (x4 + 3).toNatClampNeg), .int (xs (x4 + 4).toNatClampNeg), .int (xs (x4 + 5).toNatClampNeg)]) (rest := []) S9 (c_Mo_write l hl9 D A (GW A u [ka_oc A (vp_updL f 0 v.toInt64)]) _ ρ (xs (x4 + 1).toNatClampNeg) (xs (x4 + 2).toNatClampNeg) (xs (x4 + 3).toNatClampNeg) (xs (x4 + 4).toNatClampNeg) (xs (x4 + 5).toNatClampNeg) z e2) (cwV 5 hts (tg_V wl_La_128 wm_Mo_write we_Mo_write wi_Mo wo_Mo_write) rfl rfl rfl wq_Mo_write ⟨Nat.le_of_ble_eq_true rfl, Nat.le_of_ble_eq_true rfl⟩) (ka_preV X9 hP hD hS 0 rfl rfl) rfl rfl hl.1 rfl (lv_room (Nat.le_of_ble_eq_true rfl)) d_La_law_740 ⟨Nat.le_trans (Nat.le_succ _) hc, Nat.le_trans (Nat.le_add_right _ 6) hsl⟩) X9 hD hS rfl (fun H locs hP hD hS => ?_)
    refine lv_istore (lv' := (6, .int z.1) :: (5, .int 0) :: [(0, .ref b), (1, .ref (A 0)), (2, .ref (A 60)), (3, .ref (A 63)), (4, .int x4)]) hx hb d_La_law_743 hl (by decide) rfl (fun ls hl => ?_)
    replace hP := kp_P (kp_perm A u z.2 (vp_updL f 0 v.toInt64)).symm hP
    replace hD := kp_D (kp_perm A u z.2 (vp_updL f 0 v.toInt64)).symm hD
    refine lv_goto (tgt := 1453) hx hb d_La_law_745 (by decide) ?_
    refine W.widen (k := cells + 1) (n := slots + 6) (by omega) (by omega) ?_
    exact kk u z.2 (vp_updL f 0 v.toInt64) _ _ _ hI hP hD hS (lv_sub hl [2, 3, 4, 5, 6] rfl)
  refine lv_aload_n hx hb d_La_law_672 rfl (lv_at hl 1 rfl) ?_
  refine lv_aload_n hx hb d_La_law_673 rfl (lv_at hl 0 rfl) ?_
  refine lv_iload hx hb d_La_law_674 (lv_at hl 4 rfl) ?_
  refine lv_iconst (v := 1) hx hb d_La_law_676 (by decide) ?_
  refine lv_iadd hx hb d_La_law_677 ?_
  refine va_sld hx hb hX hbl hbA hS h1 d_La_law_678 ?_
  refine lv_aload_n hx hb d_La_law_679 rfl (lv_at hl 0 rfl) ?_
  refine lv_iload hx hb d_La_law_680 (lv_at hl 4 rfl) ?_
  refine lv_iconst (v := 2) hx hb d_La_law_682 (by decide) ?_
  refine lv_iadd hx hb d_La_law_683 ?_
  refine va_sld hx hb hX hbl hbA hS h2 d_La_law_684 ?_
  refine lv_aload_n hx hb d_La_law_685 rfl (lv_at hl 0 rfl) ?_
  refine lv_iload hx hb d_La_law_686 (lv_at hl 4 rfl) ?_
  refine lv_iconst (v := 3) hx hb d_La_law_688 (by decide) ?_
  refine lv_iadd hx hb d_La_law_689 ?_
  refine va_sld hx hb hX hbl hbA hS h3 d_La_law_690 ?_
  refine lv_aload_n hx hb d_La_law_691 rfl (lv_at hl 0 rfl) ?_
  refine lv_iload hx hb d_La_law_692 (lv_at hl 4 rfl) ?_
  refine lv_iconst (v := 4) hx hb d_La_law_694 (by decide) ?_
  refine lv_iadd hx hb d_La_law_695 ?_
  refine va_sld hx hb hX hbl hbA hS h4 d_La_law_696 ?_
  refine lv_aload_n hx hb d_La_law_697 rfl (lv_at hl 0 rfl) ?_
  refine lv_iload hx hb d_La_law_698 (lv_at hl 4 rfl) ?_
  refine lv_iconst (v := 5) hx hb d_La_law_700 (by decide) ?_
  refine lv_iadd hx hb d_La_law_701 ?_
  refine va_sld hx hb hX hbl hbA hS h5 d_La_law_702 ?_
  refine lv_aload_n hx hb d_La_law_703 rfl (lv_at hl 3 rfl) ?_
  refine ka_i (vx_runSW (As := [.ref (A 0), .int (xs (x4 + 1).toNatClampNeg), .int (xs (x4 + 2).toNatClampNeg), .int (xs (x4 + 3).toNatClampNeg), .int (xs (x4 + 4).toNatClampNeg), .int (xs (x4 + 5).toNatClampNeg), .ref (A 63)]) (rest := []) S9 (c_La_write_err l hl9 D A (MW A ρ []) f _ σ (xs (x4 + 1).toNatClampNeg) (xs (x4 + 2).toNatClampNeg) (xs (x4 + 3).toNatClampNeg) (xs (x4 + 4).toNatClampNeg) (xs (x4 + 5).toNatClampNeg) k hk u e1) (vx_cwSW 7 hts (tg_SW wl_La_126 ws_La_write wi_La wo_La_write) rfl rfl rfl wq_La_write.2 ⟨Nat.le_of_ble_eq_true rfl, Nat.le_of_ble_eq_true rfl⟩) (ka_preC X9 hC hP hD hS) rfl rfl hl.1 rfl (lv_room (Nat.le_of_ble_eq_true rfl)) d_La_law_704 ⟨hc, hsl⟩) X9 hD hS rfl (fun H locs hP hD hS => ?_)
  refine lv_istore (lv' := (5, .int (nI k)) :: [(0, .ref b), (1, .ref (A 0)), (2, .ref (A 60)), (3, .ref (A 63)), (4, .int x4)]) hx hb d_La_law_707 hl (by decide) rfl (fun ls hl => ?_)
  refine lv_aload_n hx hb d_La_law_709 rfl (lv_at hl 3 rfl) ?_
  refine lv_aload_n hx hb d_La_law_710 rfl (lv_at hl 1 rfl) ?_
  refine lv_iload hx hb d_La_law_711 (lv_at hl 5 rfl) ?_
  refine lv_iconst (v := 1) hx hb d_La_law_713 (by decide) ?_
  refine lv_iadd hx hb d_La_law_714 ?_
  refine va_sld hx hb hX hbl hbA hS h1 d_La_law_715 ?_
  refine lv_aload_n hx hb d_La_law_716 rfl (lv_at hl 1 rfl) ?_
  refine lv_iload hx hb d_La_law_717 (lv_at hl 5 rfl) ?_
  refine lv_iconst (v := 2) hx hb d_La_law_719 (by decide) ?_
  refine lv_iadd hx hb d_La_law_720 ?_
  refine va_sld hx hb hX hbl hbA hS h2 d_La_law_721 ?_
  refine lv_aload_n hx hb d_La_law_722 rfl (lv_at hl 1 rfl) ?_
  refine lv_iload hx hb d_La_law_723 (lv_at hl 5 rfl) ?_
  refine lv_iconst (v := 3) hx hb d_La_law_725 (by decide) ?_
  refine lv_iadd hx hb d_La_law_726 ?_
  refine va_sld hx hb hX hbl hbA hS h3 d_La_law_727 ?_
  refine lv_aload_n hx hb d_La_law_728 rfl (lv_at hl 1 rfl) ?_
  refine lv_iload hx hb d_La_law_729 (lv_at hl 5 rfl) ?_
  refine lv_iconst (v := 4) hx hb d_La_law_731 (by decide) ?_
  refine lv_iadd hx hb d_La_law_732 ?_
  refine va_sld hx hb hX hbl hbA hS h4 d_La_law_733 ?_
  refine lv_aload_n hx hb d_La_law_734 rfl (lv_at hl 1 rfl) ?_
  refine lv_iload hx hb d_La_law_735 (lv_at hl 5 rfl) ?_
  refine lv_iconst (v := 5) hx hb d_La_law_737 (by decide) ?_
  refine lv_iadd hx hb d_La_law_738 ?_
  refine va_sld hx hb hX hbl hbA hS h5 d_La_law_739 ?_
  replace hP := kp_P (kp_perm A u ρ f) hP
  replace hD := kp_D (kp_perm A u ρ f) hD
  refine ka_i (va_runV (As := [.int (xs (x4 + 1).toNatClampNeg), .int (xs (x4 + 2).toNatClampNeg), .int (xs (x4 + 3).toNatClampNeg), .int (xs (x4 + 4).toNatClampNeg), .int (xs (x4 + 5).toNatClampNeg)]) (rest := []) S9 (c_Mo_write l hl9 D A (GW A u [ka_oc A f]) _ ρ (xs (x4 + 1).toNatClampNeg) (xs (x4 + 2).toNatClampNeg) (xs (x4 + 3).toNatClampNeg) (xs (x4 + 4).toNatClampNeg) (xs (x4 + 5).toNatClampNeg) z e2) (cwV 5 hts (tg_V wl_La_128 wm_Mo_write we_Mo_write wi_Mo wo_Mo_write) rfl rfl rfl wq_Mo_write ⟨Nat.le_of_ble_eq_true rfl, Nat.le_of_ble_eq_true rfl⟩) (ka_preV X9 hP hD hS 0 rfl rfl) rfl rfl hl.1 rfl (lv_room (Nat.le_of_ble_eq_true rfl)) d_La_law_740 ⟨hc, hsl⟩) X9 hD hS rfl (fun H locs hP hD hS => ?_)
  refine lv_istore (lv' := (6, .int z.1) :: (5, .int (nI k)) :: [(0, .ref b), (1, .ref (A 0)), (2, .ref (A 60)), (3, .ref (A 63)), (4, .int x4)]) hx hb d_La_law_743 hl (by decide) rfl (fun ls hl => ?_)
  replace hP := kp_P (kp_perm A u z.2 f).symm hP
  replace hD := kp_D (kp_perm A u z.2 f).symm hD
  refine lv_goto (tgt := 1453) hx hb d_La_law_745 (by decide) ?_
  refine W.widen (k := cells + 1) (n := slots + 6) (by omega) (by omega) ?_
  exact kk u z.2 f _ _ _ hI hP hD hS (lv_sub hl [2, 3, 4, 5, 6] rfl)
set_option maxRecDepth 100000 in
set_option maxHeartbeats 4000000 in
theorem lc_10 {p : Program} {l : Launch} {e : Env} {s : State} {m : MethodId} {below : List Frame} {meth : Method} {c : Code} {b L : Nat} {xs : Nat → Int32} {D : va_G} {A : Nat → Nat} (I : KS → RS → Prop) (X : lx_ p l s m meth c b L xs D A) {cells slots : Nat} (hc : cells + 1 ≤ room_1.cells) (hsl : slots + 6 ≤ room_1.slots) (x4 : Int32) (h1 : vp_in (x4 + 1) L) (h2 : vp_in (x4 + 2) L) (h3 : vp_in (x4 + 3) L) (h4 : vp_in (x4 + 4) L) (σ : KS) (ρ : RS) (f : Nat → Int64) (sim : ∀ x1 x2 x3 x4 : Int32, (∃ (v : Int32) (u : KS) (z : Int32 × RS), f_Ke_move σ x1 x2 x3 x4 = some (.ok v, u) ∧ f_Mo_move ρ x1 x2 x3 x4 = some z ∧ I u z.2) ∨ (∃ (k : Nat) (u : KS) (z : Int32 × RS), (k = 1 ∨ k = 2 ∨ k = 3 ∨ k = 4) ∧ f_Ke_move σ x1 x2 x3 x4 = some (.error k, u) ∧ f_Mo_move ρ x1 x2 x3 x4 = some z ∧ I u z.2)) {H : Heap} {locs : List Loc} {ls : Array Slot} (hP : va_P D vwCl (kp_C A σ ρ f) H) (hD : va_D (fun q : Nat => s.heap.size ≤ q) (kp_C A σ ρ f)) (hS : va_S (fun q : Nat => s.heap.size ≤ q) s.heap H locs) (hl : lv_has ls 7 [(0, .ref b), (1, .ref (A 0)), (2, .ref (A 60)), (3, .ref (A 63)), (4, .int x4)])
    (kk : ∀ (u : KS) (ρ1 : RS) (f1 : Nat → Int64) (H : Heap) (locs : List Loc) (ls : Array Slot), I u ρ1 → va_P D vwCl (kp_C A u ρ1 f1) H → va_D (fun q : Nat => s.heap.size ≤ q) (kp_C A u ρ1 f1) → va_S (fun q : Nat => s.heap.size ≤ q) s.heap H locs → lv_has ls 7 [(0, .ref b), (1, .ref (A 0)), (2, .ref (A 60)), (3, .ref (A 63)), (4, .int x4)] → W p l e room_1 s m #[Value.ref b] below meth c H locs (cells + 1) (slots + 6) (lw_Z below #[Value.ref b] s) (F0 m 1453 ls [])) : W p l e room_1 s m #[Value.ref b] below meth c H locs cells slots (lw_Z below #[Value.ref b] s) (F0 m 748 ls []) := by
  obtain ⟨hl9, S9, hX, hbl, hlk, hr, hC, X9⟩ := X
  obtain ⟨hx, hb, hml, hown, hts⟩ := id S9
  have hK := X9.2.1
  have hbA : ¬ (fun q : Nat => s.heap.size ≤ q) b := Nat.not_le.mpr hbl
  rcases sim (xs (x4 + 1).toNatClampNeg) (xs (x4 + 2).toNatClampNeg) (xs (x4 + 3).toNatClampNeg) (xs (x4 + 4).toNatClampNeg) with ⟨v, u, z, e1, e2, hI⟩ | ⟨k, u, z, hk, e1, e2, hI⟩
  · refine lv_aload_n hx hb d_La_law_748 rfl (lv_at hl 1 rfl) ?_
    refine lv_aload_n hx hb d_La_law_749 rfl (lv_at hl 0 rfl) ?_
    refine lv_iload hx hb d_La_law_750 (lv_at hl 4 rfl) ?_
    refine lv_iconst (v := 1) hx hb d_La_law_752 (by decide) ?_
    refine lv_iadd hx hb d_La_law_753 ?_
    refine va_sld hx hb hX hbl hbA hS h1 d_La_law_754 ?_
    refine lv_aload_n hx hb d_La_law_755 rfl (lv_at hl 0 rfl) ?_
    refine lv_iload hx hb d_La_law_756 (lv_at hl 4 rfl) ?_
    refine lv_iconst (v := 2) hx hb d_La_law_758 (by decide) ?_
    refine lv_iadd hx hb d_La_law_759 ?_
    refine va_sld hx hb hX hbl hbA hS h2 d_La_law_760 ?_
    refine lv_aload_n hx hb d_La_law_761 rfl (lv_at hl 0 rfl) ?_
    refine lv_iload hx hb d_La_law_762 (lv_at hl 4 rfl) ?_
    refine lv_iconst (v := 3) hx hb d_La_law_764 (by decide) ?_
    refine lv_iadd hx hb d_La_law_765 ?_
    refine va_sld hx hb hX hbl hbA hS h3 d_La_law_766 ?_
    refine lv_aload_n hx hb d_La_law_767 rfl (lv_at hl 0 rfl) ?_
    refine lv_iload hx hb d_La_law_768 (lv_at hl 4 rfl) ?_
    refine lv_iconst (v := 4) hx hb d_La_law_770 (by decide) ?_
    refine lv_iadd hx hb d_La_law_771 ?_
    refine va_sld hx hb hX hbl hbA hS h4 d_La_law_772 ?_
    refine lv_aload_n hx hb d_La_law_773 rfl (lv_at hl 3 rfl) ?_
    refine ka_i (vx_runSW (As := [.ref (A 0), .int (xs (x4 + 1).toNatClampNeg), .int (xs (x4 + 2).toNatClampNeg), .int (xs (x4 + 3).toNatClampNeg), .int (xs (x4 + 4).toNatClampNeg), .ref (A 63)]) (rest := []) S9 (c_La_move_ok l hl9 D A (MW A ρ []) f _ σ (xs (x4 + 1).toNatClampNeg) (xs (x4 + 2).toNatClampNeg) (xs (x4 + 3).toNatClampNeg) (xs (x4 + 4).toNatClampNeg) v u e1) (vx_cwSW 6 hts (tg_SW wl_La_129 ws_La_move wi_La wo_La_move) rfl rfl rfl wq_La_move.2 ⟨Nat.le_of_ble_eq_true rfl, Nat.le_of_ble_eq_true rfl⟩) (ka_preC X9 hC hP hD hS) rfl rfl hl.1 rfl (lv_room (Nat.le_of_ble_eq_true rfl)) d_La_law_774 ⟨Nat.le_trans (Nat.le_succ _) hc, Nat.le_trans (Nat.le_add_right _ 6) hsl⟩) X9 hD hS rfl (fun H locs hP hD hS => ?_)
    refine lv_istore (lv' := (5, .int 0) :: [(0, .ref b), (1, .ref (A 0)), (2, .ref (A 60)), (3, .ref (A 63)), (4, .int x4)]) hx hb d_La_law_777 hl (by decide) rfl (fun ls hl => ?_)
    refine lv_aload_n hx hb d_La_law_779 rfl (lv_at hl 3 rfl) ?_
    refine lv_aload_n hx hb d_La_law_780 rfl (lv_at hl 1 rfl) ?_
    refine lv_iload hx hb d_La_law_781 (lv_at hl 5 rfl) ?_
    refine lv_iconst (v := 1) hx hb d_La_law_783 (by decide) ?_
    refine lv_iadd hx hb d_La_law_784 ?_
    refine va_sld hx hb hX hbl hbA hS h1 d_La_law_785 ?_
    refine lv_aload_n hx hb d_La_law_786 rfl (lv_at hl 1 rfl) ?_
    refine lv_iload hx hb d_La_law_787 (lv_at hl 5 rfl) ?_
    refine lv_iconst (v := 2) hx hb d_La_law_789 (by decide) ?_
    refine lv_iadd hx hb d_La_law_790 ?_
    refine va_sld hx hb hX hbl hbA hS h2 d_La_law_791 ?_
    refine lv_aload_n hx hb d_La_law_792 rfl (lv_at hl 1 rfl) ?_
    refine lv_iload hx hb d_La_law_793 (lv_at hl 5 rfl) ?_
    refine lv_iconst (v := 3) hx hb d_La_law_795 (by decide) ?_
    refine lv_iadd hx hb d_La_law_796 ?_
    refine va_sld hx hb hX hbl hbA hS h3 d_La_law_797 ?_
    refine lv_aload_n hx hb d_La_law_798 rfl (lv_at hl 1 rfl) ?_
    refine lv_iload hx hb d_La_law_799 (lv_at hl 5 rfl) ?_
    refine lv_iconst (v := 4) hx hb d_La_law_801 (by decide) ?_
    refine lv_iadd hx hb d_La_law_802 ?_
    refine va_sld hx hb hX hbl hbA hS h4 d_La_law_803 ?_
    replace hP := kp_P (kp_perm A u ρ (vp_updL f 0 v.toInt64)) hP
    replace hD := kp_D (kp_perm A u ρ (vp_updL f 0 v.toInt64)) hD
    refine ka_i (va_runV (As := [.int (xs (x4 + 1).toNatClampNeg), .int (xs (x4 + 2).toNatClampNeg), .int (xs (x4 + 3).toNatClampNeg), .int (xs (x4 + 4).toNatClampNeg)]) (rest := []) S9 (c_Mo_move l hl9 D A (GW A u [ka_oc A (vp_updL f 0 v.toInt64)]) _ ρ (xs (x4 + 1).toNatClampNeg) (xs (x4 + 2).toNatClampNeg) (xs (x4 + 3).toNatClampNeg) (xs (x4 + 4).toNatClampNeg) z e2) (cwV 4 hts (tg_V wl_La_131 wm_Mo_move we_Mo_move wi_Mo wo_Mo_move) rfl rfl rfl wq_Mo_move ⟨Nat.le_of_ble_eq_true rfl, Nat.le_of_ble_eq_true rfl⟩) (ka_preV X9 hP hD hS 0 rfl rfl) rfl rfl hl.1 rfl (lv_room (Nat.le_of_ble_eq_true rfl)) d_La_law_804 ⟨Nat.le_trans (Nat.le_succ _) hc, Nat.le_trans (Nat.le_add_right _ 6) hsl⟩) X9 hD hS rfl (fun H locs hP hD hS => ?_)
    refine lv_istore (lv' := (6, .int z.1) :: (5, .int 0) :: [(0, .ref b), (1, .ref (A 0)), (2, .ref (A 60)), (3, .ref (A 63)), (4, .int x4)]) hx hb d_La_law_807 hl (by decide) rfl (fun ls hl => ?_)
    replace hP := kp_P (kp_perm A u z.2 (vp_updL f 0 v.toInt64)).symm hP
    replace hD := kp_D (kp_perm A u z.2 (vp_updL f 0 v.toInt64)).symm hD
    refine lv_goto (tgt := 1453) hx hb d_La_law_809 (by decide) ?_
    refine W.widen (k := cells + 1) (n := slots + 6) (by omega) (by omega) ?_
    exact kk u z.2 (vp_updL f 0 v.toInt64) _ _ _ hI hP hD hS (lv_sub hl [2, 3, 4, 5, 6] rfl)
  refine lv_aload_n hx hb d_La_law_748 rfl (lv_at hl 1 rfl) ?_
  refine lv_aload_n hx hb d_La_law_749 rfl (lv_at hl 0 rfl) ?_
  refine lv_iload hx hb d_La_law_750 (lv_at hl 4 rfl) ?_
  refine lv_iconst (v := 1) hx hb d_La_law_752 (by decide) ?_
  refine lv_iadd hx hb d_La_law_753 ?_
  refine va_sld hx hb hX hbl hbA hS h1 d_La_law_754 ?_
  refine lv_aload_n hx hb d_La_law_755 rfl (lv_at hl 0 rfl) ?_
  refine lv_iload hx hb d_La_law_756 (lv_at hl 4 rfl) ?_
  refine lv_iconst (v := 2) hx hb d_La_law_758 (by decide) ?_
  refine lv_iadd hx hb d_La_law_759 ?_
  refine va_sld hx hb hX hbl hbA hS h2 d_La_law_760 ?_
  refine lv_aload_n hx hb d_La_law_761 rfl (lv_at hl 0 rfl) ?_
  refine lv_iload hx hb d_La_law_762 (lv_at hl 4 rfl) ?_
  refine lv_iconst (v := 3) hx hb d_La_law_764 (by decide) ?_
  refine lv_iadd hx hb d_La_law_765 ?_
  refine va_sld hx hb hX hbl hbA hS h3 d_La_law_766 ?_
  refine lv_aload_n hx hb d_La_law_767 rfl (lv_at hl 0 rfl) ?_
  refine lv_iload hx hb d_La_law_768 (lv_at hl 4 rfl) ?_
  refine lv_iconst (v := 4) hx hb d_La_law_770 (by decide) ?_
  refine lv_iadd hx hb d_La_law_771 ?_
  refine va_sld hx hb hX hbl hbA hS h4 d_La_law_772 ?_
  refine lv_aload_n hx hb d_La_law_773 rfl (lv_at hl 3 rfl) ?_
  refine ka_i (vx_runSW (As := [.ref (A 0), .int (xs (x4 + 1).toNatClampNeg), .int (xs (x4 + 2).toNatClampNeg), .int (xs (x4 + 3).toNatClampNeg), .int (xs (x4 + 4).toNatClampNeg), .ref (A 63)]) (rest := []) S9 (c_La_move_err l hl9 D A (MW A ρ []) f _ σ (xs (x4 + 1).toNatClampNeg) (xs (x4 + 2).toNatClampNeg) (xs (x4 + 3).toNatClampNeg) (xs (x4 + 4).toNatClampNeg) k hk u e1) (vx_cwSW 6 hts (tg_SW wl_La_129 ws_La_move wi_La wo_La_move) rfl rfl rfl wq_La_move.2 ⟨Nat.le_of_ble_eq_true rfl, Nat.le_of_ble_eq_true rfl⟩) (ka_preC X9 hC hP hD hS) rfl rfl hl.1 rfl (lv_room (Nat.le_of_ble_eq_true rfl)) d_La_law_774 ⟨hc, hsl⟩) X9 hD hS rfl (fun H locs hP hD hS => ?_)
  refine lv_istore (lv' := (5, .int (nI k)) :: [(0, .ref b), (1, .ref (A 0)), (2, .ref (A 60)), (3, .ref (A 63)), (4, .int x4)]) hx hb d_La_law_777 hl (by decide) rfl (fun ls hl => ?_)
  refine lv_aload_n hx hb d_La_law_779 rfl (lv_at hl 3 rfl) ?_
  refine lv_aload_n hx hb d_La_law_780 rfl (lv_at hl 1 rfl) ?_
  refine lv_iload hx hb d_La_law_781 (lv_at hl 5 rfl) ?_
  refine lv_iconst (v := 1) hx hb d_La_law_783 (by decide) ?_
  refine lv_iadd hx hb d_La_law_784 ?_
  refine va_sld hx hb hX hbl hbA hS h1 d_La_law_785 ?_
  refine lv_aload_n hx hb d_La_law_786 rfl (lv_at hl 1 rfl) ?_
  refine lv_iload hx hb d_La_law_787 (lv_at hl 5 rfl) ?_
  refine lv_iconst (v := 2) hx hb d_La_law_789 (by decide) ?_
  refine lv_iadd hx hb d_La_law_790 ?_
  refine va_sld hx hb hX hbl hbA hS h2 d_La_law_791 ?_
  refine lv_aload_n hx hb d_La_law_792 rfl (lv_at hl 1 rfl) ?_
  refine lv_iload hx hb d_La_law_793 (lv_at hl 5 rfl) ?_
  refine lv_iconst (v := 3) hx hb d_La_law_795 (by decide) ?_
  refine lv_iadd hx hb d_La_law_796 ?_
  refine va_sld hx hb hX hbl hbA hS h3 d_La_law_797 ?_
  refine lv_aload_n hx hb d_La_law_798 rfl (lv_at hl 1 rfl) ?_
  refine lv_iload hx hb d_La_law_799 (lv_at hl 5 rfl) ?_
  refine lv_iconst (v := 4) hx hb d_La_law_801 (by decide) ?_
  refine lv_iadd hx hb d_La_law_802 ?_
  refine va_sld hx hb hX hbl hbA hS h4 d_La_law_803 ?_
  replace hP := kp_P (kp_perm A u ρ f) hP
  replace hD := kp_D (kp_perm A u ρ f) hD
  refine ka_i (va_runV (As := [.int (xs (x4 + 1).toNatClampNeg), .int (xs (x4 + 2).toNatClampNeg), .int (xs (x4 + 3).toNatClampNeg), .int (xs (x4 + 4).toNatClampNeg)]) (rest := []) S9 (c_Mo_move l hl9 D A (GW A u [ka_oc A f]) _ ρ (xs (x4 + 1).toNatClampNeg) (xs (x4 + 2).toNatClampNeg) (xs (x4 + 3).toNatClampNeg) (xs (x4 + 4).toNatClampNeg) z e2) (cwV 4 hts (tg_V wl_La_131 wm_Mo_move we_Mo_move wi_Mo wo_Mo_move) rfl rfl rfl wq_Mo_move ⟨Nat.le_of_ble_eq_true rfl, Nat.le_of_ble_eq_true rfl⟩) (ka_preV X9 hP hD hS 0 rfl rfl) rfl rfl hl.1 rfl (lv_room (Nat.le_of_ble_eq_true rfl)) d_La_law_804 ⟨hc, hsl⟩) X9 hD hS rfl (fun H locs hP hD hS => ?_)
  refine lv_istore (lv' := (6, .int z.1) :: (5, .int (nI k)) :: [(0, .ref b), (1, .ref (A 0)), (2, .ref (A 60)), (3, .ref (A 63)), (4, .int x4)]) hx hb d_La_law_807 hl (by decide) rfl (fun ls hl => ?_)
  replace hP := kp_P (kp_perm A u z.2 f).symm hP
  replace hD := kp_D (kp_perm A u z.2 f).symm hD
  refine lv_goto (tgt := 1453) hx hb d_La_law_809 (by decide) ?_
  refine W.widen (k := cells + 1) (n := slots + 6) (by omega) (by omega) ?_
  exact kk u z.2 f _ _ _ hI hP hD hS (lv_sub hl [2, 3, 4, 5, 6] rfl)
set_option maxRecDepth 100000 in
set_option maxHeartbeats 4000000 in
theorem lc_11 {p : Program} {l : Launch} {e : Env} {s : State} {m : MethodId} {below : List Frame} {meth : Method} {c : Code} {b L : Nat} {xs : Nat → Int32} {D : va_G} {A : Nat → Nat} (I : KS → RS → Prop) (X : lx_ p l s m meth c b L xs D A) {cells slots : Nat} (hc : cells + 1 ≤ room_1.cells) (hsl : slots + 6 ≤ room_1.slots) (x4 : Int32) (h1 : vp_in (x4 + 1) L) (h2 : vp_in (x4 + 2) L) (h3 : vp_in (x4 + 3) L) (σ : KS) (ρ : RS) (f : Nat → Int64) (sim : ∀ x1 x2 x3 : Int32, (∃ (v : Int32) (u : KS) (z : Int32 × RS), f_Ke_drop σ x1 x2 x3 = some (.ok v, u) ∧ f_Mo_drop ρ x1 x2 x3 = some z ∧ I u z.2) ∨ (∃ (k : Nat) (u : KS) (z : Int32 × RS), (k = 1 ∨ k = 2 ∨ k = 3 ∨ k = 4) ∧ f_Ke_drop σ x1 x2 x3 = some (.error k, u) ∧ f_Mo_drop ρ x1 x2 x3 = some z ∧ I u z.2)) {H : Heap} {locs : List Loc} {ls : Array Slot} (hP : va_P D vwCl (kp_C A σ ρ f) H) (hD : va_D (fun q : Nat => s.heap.size ≤ q) (kp_C A σ ρ f)) (hS : va_S (fun q : Nat => s.heap.size ≤ q) s.heap H locs) (hl : lv_has ls 7 [(0, .ref b), (1, .ref (A 0)), (2, .ref (A 60)), (3, .ref (A 63)), (4, .int x4)])
    (kk : ∀ (u : KS) (ρ1 : RS) (f1 : Nat → Int64) (H : Heap) (locs : List Loc) (ls : Array Slot), I u ρ1 → va_P D vwCl (kp_C A u ρ1 f1) H → va_D (fun q : Nat => s.heap.size ≤ q) (kp_C A u ρ1 f1) → va_S (fun q : Nat => s.heap.size ≤ q) s.heap H locs → lv_has ls 7 [(0, .ref b), (1, .ref (A 0)), (2, .ref (A 60)), (3, .ref (A 63)), (4, .int x4)] → W p l e room_1 s m #[Value.ref b] below meth c H locs (cells + 1) (slots + 6) (lw_Z below #[Value.ref b] s) (F0 m 1453 ls [])) : W p l e room_1 s m #[Value.ref b] below meth c H locs cells slots (lw_Z below #[Value.ref b] s) (F0 m 812 ls []) := by
  obtain ⟨hl9, S9, hX, hbl, hlk, hr, hC, X9⟩ := X
  obtain ⟨hx, hb, hml, hown, hts⟩ := id S9
  have hK := X9.2.1
  have hbA : ¬ (fun q : Nat => s.heap.size ≤ q) b := Nat.not_le.mpr hbl
  rcases sim (xs (x4 + 1).toNatClampNeg) (xs (x4 + 2).toNatClampNeg) (xs (x4 + 3).toNatClampNeg) with ⟨v, u, z, e1, e2, hI⟩ | ⟨k, u, z, hk, e1, e2, hI⟩
  · refine lv_aload_n hx hb d_La_law_812 rfl (lv_at hl 1 rfl) ?_
    refine lv_aload_n hx hb d_La_law_813 rfl (lv_at hl 0 rfl) ?_
    refine lv_iload hx hb d_La_law_814 (lv_at hl 4 rfl) ?_
    refine lv_iconst (v := 1) hx hb d_La_law_816 (by decide) ?_
    refine lv_iadd hx hb d_La_law_817 ?_
    refine va_sld hx hb hX hbl hbA hS h1 d_La_law_818 ?_
    refine lv_aload_n hx hb d_La_law_819 rfl (lv_at hl 0 rfl) ?_
    refine lv_iload hx hb d_La_law_820 (lv_at hl 4 rfl) ?_
    refine lv_iconst (v := 2) hx hb d_La_law_822 (by decide) ?_
    refine lv_iadd hx hb d_La_law_823 ?_
    refine va_sld hx hb hX hbl hbA hS h2 d_La_law_824 ?_
    refine lv_aload_n hx hb d_La_law_825 rfl (lv_at hl 0 rfl) ?_
    refine lv_iload hx hb d_La_law_826 (lv_at hl 4 rfl) ?_
    refine lv_iconst (v := 3) hx hb d_La_law_828 (by decide) ?_
    refine lv_iadd hx hb d_La_law_829 ?_
    refine va_sld hx hb hX hbl hbA hS h3 d_La_law_830 ?_
    refine lv_aload_n hx hb d_La_law_831 rfl (lv_at hl 3 rfl) ?_
    refine ka_i (vx_runSW (As := [.ref (A 0), .int (xs (x4 + 1).toNatClampNeg), .int (xs (x4 + 2).toNatClampNeg), .int (xs (x4 + 3).toNatClampNeg), .ref (A 63)]) (rest := []) S9 (c_La_drop_ok l hl9 D A (MW A ρ []) f _ σ (xs (x4 + 1).toNatClampNeg) (xs (x4 + 2).toNatClampNeg) (xs (x4 + 3).toNatClampNeg) v u e1) (vx_cwSW 5 hts (tg_SW wl_La_132 ws_La_drop wi_La wo_La_drop) rfl rfl rfl wq_La_drop.2 ⟨Nat.le_of_ble_eq_true rfl, Nat.le_of_ble_eq_true rfl⟩) (ka_preC X9 hC hP hD hS) rfl rfl hl.1 rfl (lv_room (Nat.le_of_ble_eq_true rfl)) d_La_law_832 ⟨Nat.le_trans (Nat.le_succ _) hc, Nat.le_trans (Nat.le_add_right _ 6) hsl⟩) X9 hD hS rfl (fun H locs hP hD hS => ?_)
    refine lv_istore (lv' := (5, .int 0) :: [(0, .ref b), (1, .ref (A 0)), (2, .ref (A 60)), (3, .ref (A 63)), (4, .int x4)]) hx hb d_La_law_835 hl (by decide) rfl (fun ls hl => ?_)
    refine lv_aload_n hx hb d_La_law_837 rfl (lv_at hl 3 rfl) ?_
    refine lv_aload_n hx hb d_La_law_838 rfl (lv_at hl 1 rfl) ?_
    refine lv_iload hx hb d_La_law_839 (lv_at hl 5 rfl) ?_
    refine lv_iconst (v := 1) hx hb d_La_law_841 (by decide) ?_
    refine lv_iadd hx hb d_La_law_842 ?_
    refine va_sld hx hb hX hbl hbA hS h1 d_La_law_843 ?_
    refine lv_aload_n hx hb d_La_law_844 rfl (lv_at hl 1 rfl) ?_
    refine lv_iload hx hb d_La_law_845 (lv_at hl 5 rfl) ?_
    refine lv_iconst (v := 2) hx hb d_La_law_847 (by decide) ?_
    refine lv_iadd hx hb d_La_law_848 ?_
    refine va_sld hx hb hX hbl hbA hS h2 d_La_law_849 ?_
    refine lv_aload_n hx hb d_La_law_850 rfl (lv_at hl 1 rfl) ?_
    refine lv_iload hx hb d_La_law_851 (lv_at hl 5 rfl) ?_
    refine lv_iconst (v := 3) hx hb d_La_law_853 (by decide) ?_
    refine lv_iadd hx hb d_La_law_854 ?_
    refine va_sld hx hb hX hbl hbA hS h3 d_La_law_855 ?_
    replace hP := kp_P (kp_perm A u ρ (vp_updL f 0 v.toInt64)) hP
    replace hD := kp_D (kp_perm A u ρ (vp_updL f 0 v.toInt64)) hD
    refine ka_i (va_runV (As := [.int (xs (x4 + 1).toNatClampNeg), .int (xs (x4 + 2).toNatClampNeg), .int (xs (x4 + 3).toNatClampNeg)]) (rest := []) S9 (c_Mo_drop l hl9 D A (GW A u [ka_oc A (vp_updL f 0 v.toInt64)]) _ ρ (xs (x4 + 1).toNatClampNeg) (xs (x4 + 2).toNatClampNeg) (xs (x4 + 3).toNatClampNeg) z e2) (cwV 3 hts (tg_V wl_La_134 wm_Mo_drop we_Mo_drop wi_Mo wo_Mo_drop) rfl rfl rfl wq_Mo_drop ⟨Nat.le_of_ble_eq_true rfl, Nat.le_of_ble_eq_true rfl⟩) (ka_preV X9 hP hD hS 0 rfl rfl) rfl rfl hl.1 rfl (lv_room (Nat.le_of_ble_eq_true rfl)) d_La_law_856 ⟨Nat.le_trans (Nat.le_succ _) hc, Nat.le_trans (Nat.le_add_right _ 6) hsl⟩) X9 hD hS rfl (fun H locs hP hD hS => ?_)
    refine lv_istore (lv' := (6, .int z.1) :: (5, .int 0) :: [(0, .ref b), (1, .ref (A 0)), (2, .ref (A 60)), (3, .ref (A 63)), (4, .int x4)]) hx hb d_La_law_859 hl (by decide) rfl (fun ls hl => ?_)
    replace hP := kp_P (kp_perm A u z.2 (vp_updL f 0 v.toInt64)).symm hP
    replace hD := kp_D (kp_perm A u z.2 (vp_updL f 0 v.toInt64)).symm hD
    refine lv_goto (tgt := 1453) hx hb d_La_law_861 (by decide) ?_
    refine W.widen (k := cells + 1) (n := slots + 6) (by omega) (by omega) ?_
    exact kk u z.2 (vp_updL f 0 v.toInt64) _ _ _ hI hP hD hS (lv_sub hl [2, 3, 4, 5, 6] rfl)
  refine lv_aload_n hx hb d_La_law_812 rfl (lv_at hl 1 rfl) ?_
  refine lv_aload_n hx hb d_La_law_813 rfl (lv_at hl 0 rfl) ?_
  refine lv_iload hx hb d_La_law_814 (lv_at hl 4 rfl) ?_
  refine lv_iconst (v := 1) hx hb d_La_law_816 (by decide) ?_
  refine lv_iadd hx hb d_La_law_817 ?_
  refine va_sld hx hb hX hbl hbA hS h1 d_La_law_818 ?_
  refine lv_aload_n hx hb d_La_law_819 rfl (lv_at hl 0 rfl) ?_
  refine lv_iload hx hb d_La_law_820 (lv_at hl 4 rfl) ?_
  refine lv_iconst (v := 2) hx hb d_La_law_822 (by decide) ?_
  refine lv_iadd hx hb d_La_law_823 ?_
  refine va_sld hx hb hX hbl hbA hS h2 d_La_law_824 ?_
  refine lv_aload_n hx hb d_La_law_825 rfl (lv_at hl 0 rfl) ?_
  refine lv_iload hx hb d_La_law_826 (lv_at hl 4 rfl) ?_
  refine lv_iconst (v := 3) hx hb d_La_law_828 (by decide) ?_
  refine lv_iadd hx hb d_La_law_829 ?_
  refine va_sld hx hb hX hbl hbA hS h3 d_La_law_830 ?_
  refine lv_aload_n hx hb d_La_law_831 rfl (lv_at hl 3 rfl) ?_
  refine ka_i (vx_runSW (As := [.ref (A 0), .int (xs (x4 + 1).toNatClampNeg), .int (xs (x4 + 2).toNatClampNeg), .int (xs (x4 + 3).toNatClampNeg), .ref (A 63)]) (rest := []) S9 (c_La_drop_err l hl9 D A (MW A ρ []) f _ σ (xs (x4 + 1).toNatClampNeg) (xs (x4 + 2).toNatClampNeg) (xs (x4 + 3).toNatClampNeg) k hk u e1) (vx_cwSW 5 hts (tg_SW wl_La_132 ws_La_drop wi_La wo_La_drop) rfl rfl rfl wq_La_drop.2 ⟨Nat.le_of_ble_eq_true rfl, Nat.le_of_ble_eq_true rfl⟩) (ka_preC X9 hC hP hD hS) rfl rfl hl.1 rfl (lv_room (Nat.le_of_ble_eq_true rfl)) d_La_law_832 ⟨hc, hsl⟩) X9 hD hS rfl (fun H locs hP hD hS => ?_)
  refine lv_istore (lv' := (5, .int (nI k)) :: [(0, .ref b), (1, .ref (A 0)), (2, .ref (A 60)), (3, .ref (A 63)), (4, .int x4)]) hx hb d_La_law_835 hl (by decide) rfl (fun ls hl => ?_)
  refine lv_aload_n hx hb d_La_law_837 rfl (lv_at hl 3 rfl) ?_
  refine lv_aload_n hx hb d_La_law_838 rfl (lv_at hl 1 rfl) ?_
  refine lv_iload hx hb d_La_law_839 (lv_at hl 5 rfl) ?_
  refine lv_iconst (v := 1) hx hb d_La_law_841 (by decide) ?_
  refine lv_iadd hx hb d_La_law_842 ?_
  refine va_sld hx hb hX hbl hbA hS h1 d_La_law_843 ?_
  refine lv_aload_n hx hb d_La_law_844 rfl (lv_at hl 1 rfl) ?_
  refine lv_iload hx hb d_La_law_845 (lv_at hl 5 rfl) ?_
  refine lv_iconst (v := 2) hx hb d_La_law_847 (by decide) ?_
  refine lv_iadd hx hb d_La_law_848 ?_
  refine va_sld hx hb hX hbl hbA hS h2 d_La_law_849 ?_
  refine lv_aload_n hx hb d_La_law_850 rfl (lv_at hl 1 rfl) ?_
  refine lv_iload hx hb d_La_law_851 (lv_at hl 5 rfl) ?_
  refine lv_iconst (v := 3) hx hb d_La_law_853 (by decide) ?_
  refine lv_iadd hx hb d_La_law_854 ?_
  refine va_sld hx hb hX hbl hbA hS h3 d_La_law_855 ?_
  replace hP := kp_P (kp_perm A u ρ f) hP
  replace hD := kp_D (kp_perm A u ρ f) hD
  refine ka_i (va_runV (As := [.int (xs (x4 + 1).toNatClampNeg), .int (xs (x4 + 2).toNatClampNeg), .int (xs (x4 + 3).toNatClampNeg)]) (rest := []) S9 (c_Mo_drop l hl9 D A (GW A u [ka_oc A f]) _ ρ (xs (x4 + 1).toNatClampNeg) (xs (x4 + 2).toNatClampNeg) (xs (x4 + 3).toNatClampNeg) z e2) (cwV 3 hts (tg_V wl_La_134 wm_Mo_drop we_Mo_drop wi_Mo wo_Mo_drop) rfl rfl rfl wq_Mo_drop ⟨Nat.le_of_ble_eq_true rfl, Nat.le_of_ble_eq_true rfl⟩) (ka_preV X9 hP hD hS 0 rfl rfl) rfl rfl hl.1 rfl (lv_room (Nat.le_of_ble_eq_true rfl)) d_La_law_856 ⟨hc, hsl⟩) X9 hD hS rfl (fun H locs hP hD hS => ?_)
  refine lv_istore (lv' := (6, .int z.1) :: (5, .int (nI k)) :: [(0, .ref b), (1, .ref (A 0)), (2, .ref (A 60)), (3, .ref (A 63)), (4, .int x4)]) hx hb d_La_law_859 hl (by decide) rfl (fun ls hl => ?_)
  replace hP := kp_P (kp_perm A u z.2 f).symm hP
  replace hD := kp_D (kp_perm A u z.2 f).symm hD
  refine lv_goto (tgt := 1453) hx hb d_La_law_861 (by decide) ?_
  refine W.widen (k := cells + 1) (n := slots + 6) (by omega) (by omega) ?_
  exact kk u z.2 f _ _ _ hI hP hD hS (lv_sub hl [2, 3, 4, 5, 6] rfl)
set_option maxRecDepth 100000 in
set_option maxHeartbeats 4000000 in
theorem lc_12 {p : Program} {l : Launch} {e : Env} {s : State} {m : MethodId} {below : List Frame} {meth : Method} {c : Code} {b L : Nat} {xs : Nat → Int32} {D : va_G} {A : Nat → Nat} (I : KS → RS → Prop) (X : lx_ p l s m meth c b L xs D A) {cells slots : Nat} (hc : cells + 1 ≤ room_1.cells) (hsl : slots + 6 ≤ room_1.slots) (x4 : Int32) (h1 : vp_in (x4 + 1) L) (h2 : vp_in (x4 + 2) L) (σ : KS) (ρ : RS) (f : Nat → Int64) (sim : ∀ x1 x2 : Int32, (∃ (v : Int32) (u : KS) (z : Int32 × RS), f_Ke_become σ x1 x2 = some (.ok v, u) ∧ f_Mo_become ρ x1 x2 = some z ∧ I u z.2) ∨ (∃ (k : Nat) (u : KS) (z : Int32 × RS), (k = 1 ∨ k = 2 ∨ k = 3 ∨ k = 4) ∧ f_Ke_become σ x1 x2 = some (.error k, u) ∧ f_Mo_become ρ x1 x2 = some z ∧ I u z.2)) {H : Heap} {locs : List Loc} {ls : Array Slot} (hP : va_P D vwCl (kp_C A σ ρ f) H) (hD : va_D (fun q : Nat => s.heap.size ≤ q) (kp_C A σ ρ f)) (hS : va_S (fun q : Nat => s.heap.size ≤ q) s.heap H locs) (hl : lv_has ls 7 [(0, .ref b), (1, .ref (A 0)), (2, .ref (A 60)), (3, .ref (A 63)), (4, .int x4)])
    (kk : ∀ (u : KS) (ρ1 : RS) (f1 : Nat → Int64) (H : Heap) (locs : List Loc) (ls : Array Slot), I u ρ1 → va_P D vwCl (kp_C A u ρ1 f1) H → va_D (fun q : Nat => s.heap.size ≤ q) (kp_C A u ρ1 f1) → va_S (fun q : Nat => s.heap.size ≤ q) s.heap H locs → lv_has ls 7 [(0, .ref b), (1, .ref (A 0)), (2, .ref (A 60)), (3, .ref (A 63)), (4, .int x4)] → W p l e room_1 s m #[Value.ref b] below meth c H locs (cells + 1) (slots + 6) (lw_Z below #[Value.ref b] s) (F0 m 1453 ls [])) : W p l e room_1 s m #[Value.ref b] below meth c H locs cells slots (lw_Z below #[Value.ref b] s) (F0 m 864 ls []) := by
  obtain ⟨hl9, S9, hX, hbl, hlk, hr, hC, X9⟩ := X
  obtain ⟨hx, hb, hml, hown, hts⟩ := id S9
  have hK := X9.2.1
  have hbA : ¬ (fun q : Nat => s.heap.size ≤ q) b := Nat.not_le.mpr hbl
  rcases sim (xs (x4 + 1).toNatClampNeg) (xs (x4 + 2).toNatClampNeg) with ⟨v, u, z, e1, e2, hI⟩ | ⟨k, u, z, hk, e1, e2, hI⟩
  · refine lv_aload_n hx hb d_La_law_864 rfl (lv_at hl 1 rfl) ?_
    refine lv_aload_n hx hb d_La_law_865 rfl (lv_at hl 0 rfl) ?_
    refine lv_iload hx hb d_La_law_866 (lv_at hl 4 rfl) ?_
    refine lv_iconst (v := 1) hx hb d_La_law_868 (by decide) ?_
    refine lv_iadd hx hb d_La_law_869 ?_
    refine va_sld hx hb hX hbl hbA hS h1 d_La_law_870 ?_
    refine lv_aload_n hx hb d_La_law_871 rfl (lv_at hl 0 rfl) ?_
    refine lv_iload hx hb d_La_law_872 (lv_at hl 4 rfl) ?_
    refine lv_iconst (v := 2) hx hb d_La_law_874 (by decide) ?_
    refine lv_iadd hx hb d_La_law_875 ?_
    refine va_sld hx hb hX hbl hbA hS h2 d_La_law_876 ?_
    refine lv_aload_n hx hb d_La_law_877 rfl (lv_at hl 3 rfl) ?_
    refine ka_i (vx_runSW (As := [.ref (A 0), .int (xs (x4 + 1).toNatClampNeg), .int (xs (x4 + 2).toNatClampNeg), .ref (A 63)]) (rest := []) S9 (c_La_become_ok l hl9 D A (MW A ρ []) f _ σ (xs (x4 + 1).toNatClampNeg) (xs (x4 + 2).toNatClampNeg) v u e1) (vx_cwSW 4 hts (tg_SW wl_La_135 ws_La_become wi_La wo_La_become) rfl rfl rfl wq_La_become.2 ⟨Nat.le_of_ble_eq_true rfl, Nat.le_of_ble_eq_true rfl⟩) (ka_preC X9 hC hP hD hS) rfl rfl hl.1 rfl (lv_room (Nat.le_of_ble_eq_true rfl)) d_La_law_878 ⟨Nat.le_trans (Nat.le_succ _) hc, Nat.le_trans (Nat.le_add_right _ 6) hsl⟩) X9 hD hS rfl (fun H locs hP hD hS => ?_)
    refine lv_istore (lv' := (5, .int 0) :: [(0, .ref b), (1, .ref (A 0)), (2, .ref (A 60)), (3, .ref (A 63)), (4, .int x4)]) hx hb d_La_law_881 hl (by decide) rfl (fun ls hl => ?_)
    refine lv_aload_n hx hb d_La_law_883 rfl (lv_at hl 3 rfl) ?_
    refine lv_aload_n hx hb d_La_law_884 rfl (lv_at hl 1 rfl) ?_
    refine lv_iload hx hb d_La_law_885 (lv_at hl 5 rfl) ?_
    refine lv_iconst (v := 1) hx hb d_La_law_887 (by decide) ?_
    refine lv_iadd hx hb d_La_law_888 ?_
    refine va_sld hx hb hX hbl hbA hS h1 d_La_law_889 ?_
    refine lv_aload_n hx hb d_La_law_890 rfl (lv_at hl 1 rfl) ?_
    refine lv_iload hx hb d_La_law_891 (lv_at hl 5 rfl) ?_
    refine lv_iconst (v := 2) hx hb d_La_law_893 (by decide) ?_
    refine lv_iadd hx hb d_La_law_894 ?_
    refine va_sld hx hb hX hbl hbA hS h2 d_La_law_895 ?_
    replace hP := kp_P (kp_perm A u ρ (vp_updL f 0 v.toInt64)) hP
    replace hD := kp_D (kp_perm A u ρ (vp_updL f 0 v.toInt64)) hD
    refine ka_i (va_runV (As := [.int (xs (x4 + 1).toNatClampNeg), .int (xs (x4 + 2).toNatClampNeg)]) (rest := []) S9 (c_Mo_become l hl9 D A (GW A u [ka_oc A (vp_updL f 0 v.toInt64)]) _ ρ (xs (x4 + 1).toNatClampNeg) (xs (x4 + 2).toNatClampNeg) z e2) (cwV 2 hts (tg_V wl_La_137 wm_Mo_become we_Mo_become wi_Mo wo_Mo_become) rfl rfl rfl wq_Mo_become ⟨Nat.le_of_ble_eq_true rfl, Nat.le_of_ble_eq_true rfl⟩) (ka_preV X9 hP hD hS 0 rfl rfl) rfl rfl hl.1 rfl (lv_room (Nat.le_of_ble_eq_true rfl)) d_La_law_896 ⟨Nat.le_trans (Nat.le_succ _) hc, Nat.le_trans (Nat.le_add_right _ 6) hsl⟩) X9 hD hS rfl (fun H locs hP hD hS => ?_)
    refine lv_istore (lv' := (6, .int z.1) :: (5, .int 0) :: [(0, .ref b), (1, .ref (A 0)), (2, .ref (A 60)), (3, .ref (A 63)), (4, .int x4)]) hx hb d_La_law_899 hl (by decide) rfl (fun ls hl => ?_)
    replace hP := kp_P (kp_perm A u z.2 (vp_updL f 0 v.toInt64)).symm hP
    replace hD := kp_D (kp_perm A u z.2 (vp_updL f 0 v.toInt64)).symm hD
    refine lv_goto (tgt := 1453) hx hb d_La_law_901 (by decide) ?_
    refine W.widen (k := cells + 1) (n := slots + 6) (by omega) (by omega) ?_
    exact kk u z.2 (vp_updL f 0 v.toInt64) _ _ _ hI hP hD hS (lv_sub hl [2, 3, 4, 5, 6] rfl)
  refine lv_aload_n hx hb d_La_law_864 rfl (lv_at hl 1 rfl) ?_
  refine lv_aload_n hx hb d_La_law_865 rfl (lv_at hl 0 rfl) ?_
  refine lv_iload hx hb d_La_law_866 (lv_at hl 4 rfl) ?_
  refine lv_iconst (v := 1) hx hb d_La_law_868 (by decide) ?_
  refine lv_iadd hx hb d_La_law_869 ?_
  refine va_sld hx hb hX hbl hbA hS h1 d_La_law_870 ?_
  refine lv_aload_n hx hb d_La_law_871 rfl (lv_at hl 0 rfl) ?_
  refine lv_iload hx hb d_La_law_872 (lv_at hl 4 rfl) ?_
  refine lv_iconst (v := 2) hx hb d_La_law_874 (by decide) ?_
  refine lv_iadd hx hb d_La_law_875 ?_
  refine va_sld hx hb hX hbl hbA hS h2 d_La_law_876 ?_
  refine lv_aload_n hx hb d_La_law_877 rfl (lv_at hl 3 rfl) ?_
  refine ka_i (vx_runSW (As := [.ref (A 0), .int (xs (x4 + 1).toNatClampNeg), .int (xs (x4 + 2).toNatClampNeg), .ref (A 63)]) (rest := []) S9 (c_La_become_err l hl9 D A (MW A ρ []) f _ σ (xs (x4 + 1).toNatClampNeg) (xs (x4 + 2).toNatClampNeg) k hk u e1) (vx_cwSW 4 hts (tg_SW wl_La_135 ws_La_become wi_La wo_La_become) rfl rfl rfl wq_La_become.2 ⟨Nat.le_of_ble_eq_true rfl, Nat.le_of_ble_eq_true rfl⟩) (ka_preC X9 hC hP hD hS) rfl rfl hl.1 rfl (lv_room (Nat.le_of_ble_eq_true rfl)) d_La_law_878 ⟨hc, hsl⟩) X9 hD hS rfl (fun H locs hP hD hS => ?_)
  refine lv_istore (lv' := (5, .int (nI k)) :: [(0, .ref b), (1, .ref (A 0)), (2, .ref (A 60)), (3, .ref (A 63)), (4, .int x4)]) hx hb d_La_law_881 hl (by decide) rfl (fun ls hl => ?_)
  refine lv_aload_n hx hb d_La_law_883 rfl (lv_at hl 3 rfl) ?_
  refine lv_aload_n hx hb d_La_law_884 rfl (lv_at hl 1 rfl) ?_
  refine lv_iload hx hb d_La_law_885 (lv_at hl 5 rfl) ?_
  refine lv_iconst (v := 1) hx hb d_La_law_887 (by decide) ?_
  refine lv_iadd hx hb d_La_law_888 ?_
  refine va_sld hx hb hX hbl hbA hS h1 d_La_law_889 ?_
  refine lv_aload_n hx hb d_La_law_890 rfl (lv_at hl 1 rfl) ?_
  refine lv_iload hx hb d_La_law_891 (lv_at hl 5 rfl) ?_
  refine lv_iconst (v := 2) hx hb d_La_law_893 (by decide) ?_
  refine lv_iadd hx hb d_La_law_894 ?_
  refine va_sld hx hb hX hbl hbA hS h2 d_La_law_895 ?_
  replace hP := kp_P (kp_perm A u ρ f) hP
  replace hD := kp_D (kp_perm A u ρ f) hD
  refine ka_i (va_runV (As := [.int (xs (x4 + 1).toNatClampNeg), .int (xs (x4 + 2).toNatClampNeg)]) (rest := []) S9 (c_Mo_become l hl9 D A (GW A u [ka_oc A f]) _ ρ (xs (x4 + 1).toNatClampNeg) (xs (x4 + 2).toNatClampNeg) z e2) (cwV 2 hts (tg_V wl_La_137 wm_Mo_become we_Mo_become wi_Mo wo_Mo_become) rfl rfl rfl wq_Mo_become ⟨Nat.le_of_ble_eq_true rfl, Nat.le_of_ble_eq_true rfl⟩) (ka_preV X9 hP hD hS 0 rfl rfl) rfl rfl hl.1 rfl (lv_room (Nat.le_of_ble_eq_true rfl)) d_La_law_896 ⟨hc, hsl⟩) X9 hD hS rfl (fun H locs hP hD hS => ?_)
  refine lv_istore (lv' := (6, .int z.1) :: (5, .int (nI k)) :: [(0, .ref b), (1, .ref (A 0)), (2, .ref (A 60)), (3, .ref (A 63)), (4, .int x4)]) hx hb d_La_law_899 hl (by decide) rfl (fun ls hl => ?_)
  replace hP := kp_P (kp_perm A u z.2 f).symm hP
  replace hD := kp_D (kp_perm A u z.2 f).symm hD
  refine lv_goto (tgt := 1453) hx hb d_La_law_901 (by decide) ?_
  refine W.widen (k := cells + 1) (n := slots + 6) (by omega) (by omega) ?_
  exact kk u z.2 f _ _ _ hI hP hD hS (lv_sub hl [2, 3, 4, 5, 6] rfl)
set_option maxRecDepth 100000 in
set_option maxHeartbeats 4000000 in
theorem lc_13 {p : Program} {l : Launch} {e : Env} {s : State} {m : MethodId} {below : List Frame} {meth : Method} {c : Code} {b L : Nat} {xs : Nat → Int32} {D : va_G} {A : Nat → Nat} (I : KS → RS → Prop) (X : lx_ p l s m meth c b L xs D A) {cells slots : Nat} (hc : cells + 1 ≤ room_1.cells) (hsl : slots + 6 ≤ room_1.slots) (x4 : Int32) (h1 : vp_in (x4 + 1) L) (h2 : vp_in (x4 + 2) L) (σ : KS) (ρ : RS) (f : Nat → Int64) (sim : ∀ x1 x2 : Int32, (∃ (v : Int32) (u : KS) (z : Int32 × RS), f_Ke_lower σ x1 x2 = some (.ok v, u) ∧ f_Mo_lower ρ x1 x2 = some z ∧ I u z.2) ∨ (∃ (k : Nat) (u : KS) (z : Int32 × RS), (k = 1 ∨ k = 2 ∨ k = 3 ∨ k = 4) ∧ f_Ke_lower σ x1 x2 = some (.error k, u) ∧ f_Mo_lower ρ x1 x2 = some z ∧ I u z.2)) {H : Heap} {locs : List Loc} {ls : Array Slot} (hP : va_P D vwCl (kp_C A σ ρ f) H) (hD : va_D (fun q : Nat => s.heap.size ≤ q) (kp_C A σ ρ f)) (hS : va_S (fun q : Nat => s.heap.size ≤ q) s.heap H locs) (hl : lv_has ls 7 [(0, .ref b), (1, .ref (A 0)), (2, .ref (A 60)), (3, .ref (A 63)), (4, .int x4)])
    (kk : ∀ (u : KS) (ρ1 : RS) (f1 : Nat → Int64) (H : Heap) (locs : List Loc) (ls : Array Slot), I u ρ1 → va_P D vwCl (kp_C A u ρ1 f1) H → va_D (fun q : Nat => s.heap.size ≤ q) (kp_C A u ρ1 f1) → va_S (fun q : Nat => s.heap.size ≤ q) s.heap H locs → lv_has ls 7 [(0, .ref b), (1, .ref (A 0)), (2, .ref (A 60)), (3, .ref (A 63)), (4, .int x4)] → W p l e room_1 s m #[Value.ref b] below meth c H locs (cells + 1) (slots + 6) (lw_Z below #[Value.ref b] s) (F0 m 1453 ls [])) : W p l e room_1 s m #[Value.ref b] below meth c H locs cells slots (lw_Z below #[Value.ref b] s) (F0 m 904 ls []) := by
  obtain ⟨hl9, S9, hX, hbl, hlk, hr, hC, X9⟩ := X
  obtain ⟨hx, hb, hml, hown, hts⟩ := id S9
  have hK := X9.2.1
  have hbA : ¬ (fun q : Nat => s.heap.size ≤ q) b := Nat.not_le.mpr hbl
  rcases sim (xs (x4 + 1).toNatClampNeg) (xs (x4 + 2).toNatClampNeg) with ⟨v, u, z, e1, e2, hI⟩ | ⟨k, u, z, hk, e1, e2, hI⟩
  · refine lv_aload_n hx hb d_La_law_904 rfl (lv_at hl 1 rfl) ?_
    refine lv_aload_n hx hb d_La_law_905 rfl (lv_at hl 0 rfl) ?_
    refine lv_iload hx hb d_La_law_906 (lv_at hl 4 rfl) ?_
    refine lv_iconst (v := 1) hx hb d_La_law_908 (by decide) ?_
    refine lv_iadd hx hb d_La_law_909 ?_
    refine va_sld hx hb hX hbl hbA hS h1 d_La_law_910 ?_
    refine lv_aload_n hx hb d_La_law_911 rfl (lv_at hl 0 rfl) ?_
    refine lv_iload hx hb d_La_law_912 (lv_at hl 4 rfl) ?_
    refine lv_iconst (v := 2) hx hb d_La_law_914 (by decide) ?_
    refine lv_iadd hx hb d_La_law_915 ?_
    refine va_sld hx hb hX hbl hbA hS h2 d_La_law_916 ?_
    refine lv_aload_n hx hb d_La_law_917 rfl (lv_at hl 3 rfl) ?_
    refine ka_i (vx_runSW (As := [.ref (A 0), .int (xs (x4 + 1).toNatClampNeg), .int (xs (x4 + 2).toNatClampNeg), .ref (A 63)]) (rest := []) S9 (c_La_lower_ok l hl9 D A (MW A ρ []) f _ σ (xs (x4 + 1).toNatClampNeg) (xs (x4 + 2).toNatClampNeg) v u e1) (vx_cwSW 4 hts (tg_SW wl_La_138 ws_La_lower wi_La wo_La_lower) rfl rfl rfl wq_La_lower.2 ⟨Nat.le_of_ble_eq_true rfl, Nat.le_of_ble_eq_true rfl⟩) (ka_preC X9 hC hP hD hS) rfl rfl hl.1 rfl (lv_room (Nat.le_of_ble_eq_true rfl)) d_La_law_918 ⟨Nat.le_trans (Nat.le_succ _) hc, Nat.le_trans (Nat.le_add_right _ 6) hsl⟩) X9 hD hS rfl (fun H locs hP hD hS => ?_)
    refine lv_istore (lv' := (5, .int 0) :: [(0, .ref b), (1, .ref (A 0)), (2, .ref (A 60)), (3, .ref (A 63)), (4, .int x4)]) hx hb d_La_law_921 hl (by decide) rfl (fun ls hl => ?_)
    refine lv_aload_n hx hb d_La_law_923 rfl (lv_at hl 3 rfl) ?_
    refine lv_aload_n hx hb d_La_law_924 rfl (lv_at hl 1 rfl) ?_
    refine lv_iload hx hb d_La_law_925 (lv_at hl 5 rfl) ?_
    refine lv_iconst (v := 1) hx hb d_La_law_927 (by decide) ?_
    refine lv_iadd hx hb d_La_law_928 ?_
    refine va_sld hx hb hX hbl hbA hS h1 d_La_law_929 ?_
    refine lv_aload_n hx hb d_La_law_930 rfl (lv_at hl 1 rfl) ?_
    refine lv_iload hx hb d_La_law_931 (lv_at hl 5 rfl) ?_
    refine lv_iconst (v := 2) hx hb d_La_law_933 (by decide) ?_
    refine lv_iadd hx hb d_La_law_934 ?_
    refine va_sld hx hb hX hbl hbA hS h2 d_La_law_935 ?_
    replace hP := kp_P (kp_perm A u ρ (vp_updL f 0 v.toInt64)) hP
    replace hD := kp_D (kp_perm A u ρ (vp_updL f 0 v.toInt64)) hD
    refine ka_i (va_runV (As := [.int (xs (x4 + 1).toNatClampNeg), .int (xs (x4 + 2).toNatClampNeg)]) (rest := []) S9 (c_Mo_lower l hl9 D A (GW A u [ka_oc A (vp_updL f 0 v.toInt64)]) _ ρ (xs (x4 + 1).toNatClampNeg) (xs (x4 + 2).toNatClampNeg) z e2) (cwV 2 hts (tg_V wl_La_140 wm_Mo_lower we_Mo_lower wi_Mo wo_Mo_lower) rfl rfl rfl wq_Mo_lower ⟨Nat.le_of_ble_eq_true rfl, Nat.le_of_ble_eq_true rfl⟩) (ka_preV X9 hP hD hS 0 rfl rfl) rfl rfl hl.1 rfl (lv_room (Nat.le_of_ble_eq_true rfl)) d_La_law_936 ⟨Nat.le_trans (Nat.le_succ _) hc, Nat.le_trans (Nat.le_add_right _ 6) hsl⟩) X9 hD hS rfl (fun H locs hP hD hS => ?_)
    refine lv_istore (lv' := (6, .int z.1) :: (5, .int 0) :: [(0, .ref b), (1, .ref (A 0)), (2, .ref (A 60)), (3, .ref (A 63)), (4, .int x4)]) hx hb d_La_law_939 hl (by decide) rfl (fun ls hl => ?_)
    replace hP := kp_P (kp_perm A u z.2 (vp_updL f 0 v.toInt64)).symm hP
    replace hD := kp_D (kp_perm A u z.2 (vp_updL f 0 v.toInt64)).symm hD
    refine lv_goto (tgt := 1453) hx hb d_La_law_941 (by decide) ?_
    refine W.widen (k := cells + 1) (n := slots + 6) (by omega) (by omega) ?_
    exact kk u z.2 (vp_updL f 0 v.toInt64) _ _ _ hI hP hD hS (lv_sub hl [2, 3, 4, 5, 6] rfl)
  refine lv_aload_n hx hb d_La_law_904 rfl (lv_at hl 1 rfl) ?_
  refine lv_aload_n hx hb d_La_law_905 rfl (lv_at hl 0 rfl) ?_
  refine lv_iload hx hb d_La_law_906 (lv_at hl 4 rfl) ?_
  refine lv_iconst (v := 1) hx hb d_La_law_908 (by decide) ?_
  refine lv_iadd hx hb d_La_law_909 ?_
  refine va_sld hx hb hX hbl hbA hS h1 d_La_law_910 ?_
  refine lv_aload_n hx hb d_La_law_911 rfl (lv_at hl 0 rfl) ?_
  refine lv_iload hx hb d_La_law_912 (lv_at hl 4 rfl) ?_
  refine lv_iconst (v := 2) hx hb d_La_law_914 (by decide) ?_
  refine lv_iadd hx hb d_La_law_915 ?_
  refine va_sld hx hb hX hbl hbA hS h2 d_La_law_916 ?_
  refine lv_aload_n hx hb d_La_law_917 rfl (lv_at hl 3 rfl) ?_
  refine ka_i (vx_runSW (As := [.ref (A 0), .int (xs (x4 + 1).toNatClampNeg), .int (xs (x4 + 2).toNatClampNeg), .ref (A 63)]) (rest := []) S9 (c_La_lower_err l hl9 D A (MW A ρ []) f _ σ (xs (x4 + 1).toNatClampNeg) (xs (x4 + 2).toNatClampNeg) k hk u e1) (vx_cwSW 4 hts (tg_SW wl_La_138 ws_La_lower wi_La wo_La_lower) rfl rfl rfl wq_La_lower.2 ⟨Nat.le_of_ble_eq_true rfl, Nat.le_of_ble_eq_true rfl⟩) (ka_preC X9 hC hP hD hS) rfl rfl hl.1 rfl (lv_room (Nat.le_of_ble_eq_true rfl)) d_La_law_918 ⟨hc, hsl⟩) X9 hD hS rfl (fun H locs hP hD hS => ?_)
  refine lv_istore (lv' := (5, .int (nI k)) :: [(0, .ref b), (1, .ref (A 0)), (2, .ref (A 60)), (3, .ref (A 63)), (4, .int x4)]) hx hb d_La_law_921 hl (by decide) rfl (fun ls hl => ?_)
  refine lv_aload_n hx hb d_La_law_923 rfl (lv_at hl 3 rfl) ?_
  refine lv_aload_n hx hb d_La_law_924 rfl (lv_at hl 1 rfl) ?_
  refine lv_iload hx hb d_La_law_925 (lv_at hl 5 rfl) ?_
  refine lv_iconst (v := 1) hx hb d_La_law_927 (by decide) ?_
  refine lv_iadd hx hb d_La_law_928 ?_
  refine va_sld hx hb hX hbl hbA hS h1 d_La_law_929 ?_
  refine lv_aload_n hx hb d_La_law_930 rfl (lv_at hl 1 rfl) ?_
  refine lv_iload hx hb d_La_law_931 (lv_at hl 5 rfl) ?_
  refine lv_iconst (v := 2) hx hb d_La_law_933 (by decide) ?_
  refine lv_iadd hx hb d_La_law_934 ?_
  refine va_sld hx hb hX hbl hbA hS h2 d_La_law_935 ?_
  replace hP := kp_P (kp_perm A u ρ f) hP
  replace hD := kp_D (kp_perm A u ρ f) hD
  refine ka_i (va_runV (As := [.int (xs (x4 + 1).toNatClampNeg), .int (xs (x4 + 2).toNatClampNeg)]) (rest := []) S9 (c_Mo_lower l hl9 D A (GW A u [ka_oc A f]) _ ρ (xs (x4 + 1).toNatClampNeg) (xs (x4 + 2).toNatClampNeg) z e2) (cwV 2 hts (tg_V wl_La_140 wm_Mo_lower we_Mo_lower wi_Mo wo_Mo_lower) rfl rfl rfl wq_Mo_lower ⟨Nat.le_of_ble_eq_true rfl, Nat.le_of_ble_eq_true rfl⟩) (ka_preV X9 hP hD hS 0 rfl rfl) rfl rfl hl.1 rfl (lv_room (Nat.le_of_ble_eq_true rfl)) d_La_law_936 ⟨hc, hsl⟩) X9 hD hS rfl (fun H locs hP hD hS => ?_)
  refine lv_istore (lv' := (6, .int z.1) :: (5, .int (nI k)) :: [(0, .ref b), (1, .ref (A 0)), (2, .ref (A 60)), (3, .ref (A 63)), (4, .int x4)]) hx hb d_La_law_939 hl (by decide) rfl (fun ls hl => ?_)
  replace hP := kp_P (kp_perm A u z.2 f).symm hP
  replace hD := kp_D (kp_perm A u z.2 f).symm hD
  refine lv_goto (tgt := 1453) hx hb d_La_law_941 (by decide) ?_
  refine W.widen (k := cells + 1) (n := slots + 6) (by omega) (by omega) ?_
  exact kk u z.2 f _ _ _ hI hP hD hS (lv_sub hl [2, 3, 4, 5, 6] rfl)
set_option maxRecDepth 100000 in
set_option maxHeartbeats 4000000 in
theorem lc_14 {p : Program} {l : Launch} {e : Env} {s : State} {m : MethodId} {below : List Frame} {meth : Method} {c : Code} {b L : Nat} {xs : Nat → Int32} {D : va_G} {A : Nat → Nat} (I : KS → RS → Prop) (X : lx_ p l s m meth c b L xs D A) {cells slots : Nat} (hc : cells + 1 ≤ room_1.cells) (hsl : slots + 6 ≤ room_1.slots) (x4 : Int32) (h1 : vp_in (x4 + 1) L) (h2 : vp_in (x4 + 2) L) (h3 : vp_in (x4 + 3) L) (h4 : vp_in (x4 + 4) L) (h5 : vp_in (x4 + 5) L) (σ : KS) (ρ : RS) (f : Nat → Int64) (sim : ∀ x1 x2 x3 x4 x5 : Int32, (∃ (v : Int32) (u : KS) (z : Int32 × RS), f_Ke_enter σ x1 x2 x3 x4 x5 = some (.ok v, u) ∧ f_Mo_enter ρ x1 x2 x3 x4 x5 = some z ∧ I u z.2) ∨ (∃ (k : Nat) (u : KS) (z : Int32 × RS), (k = 1 ∨ k = 2 ∨ k = 3 ∨ k = 4) ∧ f_Ke_enter σ x1 x2 x3 x4 x5 = some (.error k, u) ∧ f_Mo_enter ρ x1 x2 x3 x4 x5 = some z ∧ I u z.2)) {H : Heap} {locs : List Loc} {ls : Array Slot} (hP : va_P D vwCl (kp_C A σ ρ f) H) (hD : va_D (fun q : Nat => s.heap.size ≤ q) (kp_C A σ ρ f)) (hS : va_S (fun q : Nat => s.heap.size ≤ q) s.heap H locs) (hl : lv_has ls 7 [(0, .ref b), (1, .ref (A 0)), (2, .ref (A 60)), (3, .ref (A 63)), (4, .int x4)])
    (kk : ∀ (u : KS) (ρ1 : RS) (f1 : Nat → Int64) (H : Heap) (locs : List Loc) (ls : Array Slot), I u ρ1 → va_P D vwCl (kp_C A u ρ1 f1) H → va_D (fun q : Nat => s.heap.size ≤ q) (kp_C A u ρ1 f1) → va_S (fun q : Nat => s.heap.size ≤ q) s.heap H locs → lv_has ls 7 [(0, .ref b), (1, .ref (A 0)), (2, .ref (A 60)), (3, .ref (A 63)), (4, .int x4)] → W p l e room_1 s m #[Value.ref b] below meth c H locs (cells + 1) (slots + 6) (lw_Z below #[Value.ref b] s) (F0 m 1453 ls [])) : W p l e room_1 s m #[Value.ref b] below meth c H locs cells slots (lw_Z below #[Value.ref b] s) (F0 m 944 ls []) := by
  obtain ⟨hl9, S9, hX, hbl, hlk, hr, hC, X9⟩ := X
  obtain ⟨hx, hb, hml, hown, hts⟩ := id S9
  have hK := X9.2.1
  have hbA : ¬ (fun q : Nat => s.heap.size ≤ q) b := Nat.not_le.mpr hbl
  rcases sim (xs (x4 + 1).toNatClampNeg) (xs (x4 + 2).toNatClampNeg) (xs (x4 + 3).toNatClampNeg) (xs (x4 + 4).toNatClampNeg) (xs (x4 + 5).toNatClampNeg) with ⟨v, u, z, e1, e2, hI⟩ | ⟨k, u, z, hk, e1, e2, hI⟩
  · refine lv_aload_n hx hb d_La_law_944 rfl (lv_at hl 1 rfl) ?_
    refine lv_aload_n hx hb d_La_law_945 rfl (lv_at hl 0 rfl) ?_
    refine lv_iload hx hb d_La_law_946 (lv_at hl 4 rfl) ?_
    refine lv_iconst (v := 1) hx hb d_La_law_948 (by decide) ?_
    refine lv_iadd hx hb d_La_law_949 ?_
    refine va_sld hx hb hX hbl hbA hS h1 d_La_law_950 ?_
    refine lv_aload_n hx hb d_La_law_951 rfl (lv_at hl 0 rfl) ?_
    refine lv_iload hx hb d_La_law_952 (lv_at hl 4 rfl) ?_
    refine lv_iconst (v := 2) hx hb d_La_law_954 (by decide) ?_
    refine lv_iadd hx hb d_La_law_955 ?_
    refine va_sld hx hb hX hbl hbA hS h2 d_La_law_956 ?_
    refine lv_aload_n hx hb d_La_law_957 rfl (lv_at hl 0 rfl) ?_
    refine lv_iload hx hb d_La_law_958 (lv_at hl 4 rfl) ?_
    refine lv_iconst (v := 3) hx hb d_La_law_960 (by decide) ?_
    refine lv_iadd hx hb d_La_law_961 ?_
    refine va_sld hx hb hX hbl hbA hS h3 d_La_law_962 ?_
    refine lv_aload_n hx hb d_La_law_963 rfl (lv_at hl 0 rfl) ?_
    refine lv_iload hx hb d_La_law_964 (lv_at hl 4 rfl) ?_
    refine lv_iconst (v := 4) hx hb d_La_law_966 (by decide) ?_
    refine lv_iadd hx hb d_La_law_967 ?_
    refine va_sld hx hb hX hbl hbA hS h4 d_La_law_968 ?_
    refine lv_aload_n hx hb d_La_law_969 rfl (lv_at hl 0 rfl) ?_
    refine lv_iload hx hb d_La_law_970 (lv_at hl 4 rfl) ?_
    refine lv_iconst (v := 5) hx hb d_La_law_972 (by decide) ?_
    refine lv_iadd hx hb d_La_law_973 ?_
    refine va_sld hx hb hX hbl hbA hS h5 d_La_law_974 ?_
    refine lv_aload_n hx hb d_La_law_975 rfl (lv_at hl 3 rfl) ?_
    refine ka_i (vx_runSW (As := [.ref (A 0), .int (xs (x4 + 1).toNatClampNeg), .int (xs (x4 + 2).toNatClampNeg), .int (xs (x4 + 3).toNatClampNeg), .int (xs (x4 + 4).toNatClampNeg), .int (xs (x4 + 5).toNatClampNeg), .ref (A 63)]) (rest := []) S9 (c_La_enter_ok l hl9 D A (MW A ρ []) f _ σ (xs (x4 + 1).toNatClampNeg) (xs (x4 + 2).toNatClampNeg) (xs (x4 + 3).toNatClampNeg) (xs (x4 + 4).toNatClampNeg) (xs (x4 + 5).toNatClampNeg) v u e1) (vx_cwSW 7 hts (tg_SW wl_La_141 ws_La_enter wi_La wo_La_enter) rfl rfl rfl wq_La_enter.2 ⟨Nat.le_of_ble_eq_true rfl, Nat.le_of_ble_eq_true rfl⟩) (ka_preC X9 hC hP hD hS) rfl rfl hl.1 rfl (lv_room (Nat.le_of_ble_eq_true rfl)) d_La_law_976 ⟨Nat.le_trans (Nat.le_succ _) hc, Nat.le_trans (Nat.le_add_right _ 6) hsl⟩) X9 hD hS rfl (fun H locs hP hD hS => ?_)
    refine lv_istore (lv' := (5, .int 0) :: [(0, .ref b), (1, .ref (A 0)), (2, .ref (A 60)), (3, .ref (A 63)), (4, .int x4)]) hx hb d_La_law_979 hl (by decide) rfl (fun ls hl => ?_)
    refine lv_aload_n hx hb d_La_law_981 rfl (lv_at hl 3 rfl) ?_
    refine lv_aload_n hx hb d_La_law_982 rfl (lv_at hl 1 rfl) ?_
    refine lv_iload hx hb d_La_law_983 (lv_at hl 5 rfl) ?_
    refine lv_iconst (v := 1) hx hb d_La_law_985 (by decide) ?_
    refine lv_iadd hx hb d_La_law_986 ?_
    refine va_sld hx hb hX hbl hbA hS h1 d_La_law_987 ?_
    refine lv_aload_n hx hb d_La_law_988 rfl (lv_at hl 1 rfl) ?_
    refine lv_iload hx hb d_La_law_989 (lv_at hl 5 rfl) ?_
    refine lv_iconst (v := 2) hx hb d_La_law_991 (by decide) ?_
    refine lv_iadd hx hb d_La_law_992 ?_
    refine va_sld hx hb hX hbl hbA hS h2 d_La_law_993 ?_
    refine lv_aload_n hx hb d_La_law_994 rfl (lv_at hl 1 rfl) ?_
    refine lv_iload hx hb d_La_law_995 (lv_at hl 5 rfl) ?_
    refine lv_iconst (v := 3) hx hb d_La_law_997 (by decide) ?_
    refine lv_iadd hx hb d_La_law_998 ?_
    refine va_sld hx hb hX hbl hbA hS h3 d_La_law_999 ?_
    refine lv_aload_n hx hb d_La_law_1000 rfl (lv_at hl 1 rfl) ?_
    refine lv_iload hx hb d_La_law_1001 (lv_at hl 5 rfl) ?_
    refine lv_iconst (v := 4) hx hb d_La_law_1003 (by decide) ?_
    refine lv_iadd hx hb d_La_law_1004 ?_
    refine va_sld hx hb hX hbl hbA hS h4 d_La_law_1005 ?_
    refine lv_aload_n hx hb d_La_law_1006 rfl (lv_at hl 1 rfl) ?_
    refine lv_iload hx hb d_La_law_1007 (lv_at hl 5 rfl) ?_
    refine lv_iconst (v := 5) hx hb d_La_law_1009 (by decide) ?_
    refine lv_iadd hx hb d_La_law_1010 ?_
    refine va_sld hx hb hX hbl hbA hS h5 d_La_law_1011 ?_
    replace hP := kp_P (kp_perm A u ρ (vp_updL f 0 v.toInt64)) hP
    replace hD := kp_D (kp_perm A u ρ (vp_updL f 0 v.toInt64)) hD
    refine ka_i (va_runV (As := [.int (xs (x4 + 1).toNatClampNeg), .int (xs (x4 + 2).toNatClampNeg), .int (xs (x4 + 3).toNatClampNeg), .int (xs (x4 + 4).toNatClampNeg), .int (xs (x4 + 5).toNatClampNeg)]) (rest := []) S9 (c_Mo_enter l hl9 D A (GW A u [ka_oc A (vp_updL f 0 v.toInt64)]) _ ρ (xs (x4 + 1).toNatClampNeg) (xs (x4 + 2).toNatClampNeg) (xs (x4 + 3).toNatClampNeg) (xs (x4 + 4).toNatClampNeg) (xs (x4 + 5).toNatClampNeg) z e2) (cwV 5 hts (tg_V wl_La_143 wm_Mo_enter we_Mo_enter wi_Mo wo_Mo_enter) rfl rfl rfl wq_Mo_enter ⟨Nat.le_of_ble_eq_true rfl, Nat.le_of_ble_eq_true rfl⟩) (ka_preV X9 hP hD hS 0 rfl rfl) rfl rfl hl.1 rfl (lv_room (Nat.le_of_ble_eq_true rfl)) d_La_law_1012 ⟨Nat.le_trans (Nat.le_succ _) hc, Nat.le_trans (Nat.le_add_right _ 6) hsl⟩) X9 hD hS rfl (fun H locs hP hD hS => ?_)
    refine lv_istore (lv' := (6, .int z.1) :: (5, .int 0) :: [(0, .ref b), (1, .ref (A 0)), (2, .ref (A 60)), (3, .ref (A 63)), (4, .int x4)]) hx hb d_La_law_1015 hl (by decide) rfl (fun ls hl => ?_)
    replace hP := kp_P (kp_perm A u z.2 (vp_updL f 0 v.toInt64)).symm hP
    replace hD := kp_D (kp_perm A u z.2 (vp_updL f 0 v.toInt64)).symm hD
    refine lv_goto (tgt := 1453) hx hb d_La_law_1017 (by decide) ?_
    refine W.widen (k := cells + 1) (n := slots + 6) (by omega) (by omega) ?_
    exact kk u z.2 (vp_updL f 0 v.toInt64) _ _ _ hI hP hD hS (lv_sub hl [2, 3, 4, 5, 6] rfl)
  refine lv_aload_n hx hb d_La_law_944 rfl (lv_at hl 1 rfl) ?_
  refine lv_aload_n hx hb d_La_law_945 rfl (lv_at hl 0 rfl) ?_
  refine lv_iload hx hb d_La_law_946 (lv_at hl 4 rfl) ?_
  refine lv_iconst (v := 1) hx hb d_La_law_948 (by decide) ?_
  refine lv_iadd hx hb d_La_law_949 ?_
  refine va_sld hx hb hX hbl hbA hS h1 d_La_law_950 ?_
  refine lv_aload_n hx hb d_La_law_951 rfl (lv_at hl 0 rfl) ?_
  refine lv_iload hx hb d_La_law_952 (lv_at hl 4 rfl) ?_
  refine lv_iconst (v := 2) hx hb d_La_law_954 (by decide) ?_
  refine lv_iadd hx hb d_La_law_955 ?_
  refine va_sld hx hb hX hbl hbA hS h2 d_La_law_956 ?_
  refine lv_aload_n hx hb d_La_law_957 rfl (lv_at hl 0 rfl) ?_
  refine lv_iload hx hb d_La_law_958 (lv_at hl 4 rfl) ?_
  refine lv_iconst (v := 3) hx hb d_La_law_960 (by decide) ?_
  refine lv_iadd hx hb d_La_law_961 ?_
  refine va_sld hx hb hX hbl hbA hS h3 d_La_law_962 ?_
  refine lv_aload_n hx hb d_La_law_963 rfl (lv_at hl 0 rfl) ?_
  refine lv_iload hx hb d_La_law_964 (lv_at hl 4 rfl) ?_
  refine lv_iconst (v := 4) hx hb d_La_law_966 (by decide) ?_
  refine lv_iadd hx hb d_La_law_967 ?_
  refine va_sld hx hb hX hbl hbA hS h4 d_La_law_968 ?_
  refine lv_aload_n hx hb d_La_law_969 rfl (lv_at hl 0 rfl) ?_
  refine lv_iload hx hb d_La_law_970 (lv_at hl 4 rfl) ?_
  refine lv_iconst (v := 5) hx hb d_La_law_972 (by decide) ?_
  refine lv_iadd hx hb d_La_law_973 ?_
  refine va_sld hx hb hX hbl hbA hS h5 d_La_law_974 ?_
  refine lv_aload_n hx hb d_La_law_975 rfl (lv_at hl 3 rfl) ?_
  refine ka_i (vx_runSW (As := [.ref (A 0), .int (xs (x4 + 1).toNatClampNeg), .int (xs (x4 + 2).toNatClampNeg), .int (xs (x4 + 3).toNatClampNeg), .int (xs (x4 + 4).toNatClampNeg), .int (xs (x4 + 5).toNatClampNeg), .ref (A 63)]) (rest := []) S9 (c_La_enter_err l hl9 D A (MW A ρ []) f _ σ (xs (x4 + 1).toNatClampNeg) (xs (x4 + 2).toNatClampNeg) (xs (x4 + 3).toNatClampNeg) (xs (x4 + 4).toNatClampNeg) (xs (x4 + 5).toNatClampNeg) k hk u e1) (vx_cwSW 7 hts (tg_SW wl_La_141 ws_La_enter wi_La wo_La_enter) rfl rfl rfl wq_La_enter.2 ⟨Nat.le_of_ble_eq_true rfl, Nat.le_of_ble_eq_true rfl⟩) (ka_preC X9 hC hP hD hS) rfl rfl hl.1 rfl (lv_room (Nat.le_of_ble_eq_true rfl)) d_La_law_976 ⟨hc, hsl⟩) X9 hD hS rfl (fun H locs hP hD hS => ?_)
  refine lv_istore (lv' := (5, .int (nI k)) :: [(0, .ref b), (1, .ref (A 0)), (2, .ref (A 60)), (3, .ref (A 63)), (4, .int x4)]) hx hb d_La_law_979 hl (by decide) rfl (fun ls hl => ?_)
  refine lv_aload_n hx hb d_La_law_981 rfl (lv_at hl 3 rfl) ?_
  refine lv_aload_n hx hb d_La_law_982 rfl (lv_at hl 1 rfl) ?_
  refine lv_iload hx hb d_La_law_983 (lv_at hl 5 rfl) ?_
  refine lv_iconst (v := 1) hx hb d_La_law_985 (by decide) ?_
  refine lv_iadd hx hb d_La_law_986 ?_
  refine va_sld hx hb hX hbl hbA hS h1 d_La_law_987 ?_
  refine lv_aload_n hx hb d_La_law_988 rfl (lv_at hl 1 rfl) ?_
  refine lv_iload hx hb d_La_law_989 (lv_at hl 5 rfl) ?_
  refine lv_iconst (v := 2) hx hb d_La_law_991 (by decide) ?_
  refine lv_iadd hx hb d_La_law_992 ?_
  refine va_sld hx hb hX hbl hbA hS h2 d_La_law_993 ?_
  refine lv_aload_n hx hb d_La_law_994 rfl (lv_at hl 1 rfl) ?_
  refine lv_iload hx hb d_La_law_995 (lv_at hl 5 rfl) ?_
  refine lv_iconst (v := 3) hx hb d_La_law_997 (by decide) ?_
  refine lv_iadd hx hb d_La_law_998 ?_
  refine va_sld hx hb hX hbl hbA hS h3 d_La_law_999 ?_
  refine lv_aload_n hx hb d_La_law_1000 rfl (lv_at hl 1 rfl) ?_
  refine lv_iload hx hb d_La_law_1001 (lv_at hl 5 rfl) ?_
  refine lv_iconst (v := 4) hx hb d_La_law_1003 (by decide) ?_
  refine lv_iadd hx hb d_La_law_1004 ?_
  refine va_sld hx hb hX hbl hbA hS h4 d_La_law_1005 ?_
  refine lv_aload_n hx hb d_La_law_1006 rfl (lv_at hl 1 rfl) ?_
  refine lv_iload hx hb d_La_law_1007 (lv_at hl 5 rfl) ?_
  refine lv_iconst (v := 5) hx hb d_La_law_1009 (by decide) ?_
  refine lv_iadd hx hb d_La_law_1010 ?_
  refine va_sld hx hb hX hbl hbA hS h5 d_La_law_1011 ?_
  replace hP := kp_P (kp_perm A u ρ f) hP
  replace hD := kp_D (kp_perm A u ρ f) hD
  refine ka_i (va_runV (As := [.int (xs (x4 + 1).toNatClampNeg), .int (xs (x4 + 2).toNatClampNeg), .int (xs (x4 + 3).toNatClampNeg), .int (xs (x4 + 4).toNatClampNeg), .int (xs (x4 + 5).toNatClampNeg)]) (rest := []) S9 (c_Mo_enter l hl9 D A (GW A u [ka_oc A f]) _ ρ (xs (x4 + 1).toNatClampNeg) (xs (x4 + 2).toNatClampNeg) (xs (x4 + 3).toNatClampNeg) (xs (x4 + 4).toNatClampNeg) (xs (x4 + 5).toNatClampNeg) z e2) (cwV 5 hts (tg_V wl_La_143 wm_Mo_enter we_Mo_enter wi_Mo wo_Mo_enter) rfl rfl rfl wq_Mo_enter ⟨Nat.le_of_ble_eq_true rfl, Nat.le_of_ble_eq_true rfl⟩) (ka_preV X9 hP hD hS 0 rfl rfl) rfl rfl hl.1 rfl (lv_room (Nat.le_of_ble_eq_true rfl)) d_La_law_1012 ⟨hc, hsl⟩) X9 hD hS rfl (fun H locs hP hD hS => ?_)
  refine lv_istore (lv' := (6, .int z.1) :: (5, .int (nI k)) :: [(0, .ref b), (1, .ref (A 0)), (2, .ref (A 60)), (3, .ref (A 63)), (4, .int x4)]) hx hb d_La_law_1015 hl (by decide) rfl (fun ls hl => ?_)
  replace hP := kp_P (kp_perm A u z.2 f).symm hP
  replace hD := kp_D (kp_perm A u z.2 f).symm hD
  refine lv_goto (tgt := 1453) hx hb d_La_law_1017 (by decide) ?_
  refine W.widen (k := cells + 1) (n := slots + 6) (by omega) (by omega) ?_
  exact kk u z.2 f _ _ _ hI hP hD hS (lv_sub hl [2, 3, 4, 5, 6] rfl)
set_option maxRecDepth 100000 in
set_option maxHeartbeats 4000000 in
theorem lc_15 {p : Program} {l : Launch} {e : Env} {s : State} {m : MethodId} {below : List Frame} {meth : Method} {c : Code} {b L : Nat} {xs : Nat → Int32} {D : va_G} {A : Nat → Nat} (I : KS → RS → Prop) (X : lx_ p l s m meth c b L xs D A) {cells slots : Nat} (hc : cells + 1 ≤ room_1.cells) (hsl : slots + 6 ≤ room_1.slots) (x4 : Int32) (h1 : vp_in (x4 + 1) L) (h2 : vp_in (x4 + 2) L) (h3 : vp_in (x4 + 3) L) (σ : KS) (ρ : RS) (f : Nat → Int64) (sim : ∀ x1 x2 x3 : Int32, (∃ (v : Int32) (u : KS) (z : Int32 × RS), f_Ke_user σ x1 x2 x3 = some (.ok v, u) ∧ f_Mo_user ρ x1 x2 x3 = some z ∧ I u z.2) ∨ (∃ (k : Nat) (u : KS) (z : Int32 × RS), (k = 1 ∨ k = 2 ∨ k = 3 ∨ k = 4) ∧ f_Ke_user σ x1 x2 x3 = some (.error k, u) ∧ f_Mo_user ρ x1 x2 x3 = some z ∧ I u z.2)) {H : Heap} {locs : List Loc} {ls : Array Slot} (hP : va_P D vwCl (kp_C A σ ρ f) H) (hD : va_D (fun q : Nat => s.heap.size ≤ q) (kp_C A σ ρ f)) (hS : va_S (fun q : Nat => s.heap.size ≤ q) s.heap H locs) (hl : lv_has ls 7 [(0, .ref b), (1, .ref (A 0)), (2, .ref (A 60)), (3, .ref (A 63)), (4, .int x4)])
    (kk : ∀ (u : KS) (ρ1 : RS) (f1 : Nat → Int64) (H : Heap) (locs : List Loc) (ls : Array Slot), I u ρ1 → va_P D vwCl (kp_C A u ρ1 f1) H → va_D (fun q : Nat => s.heap.size ≤ q) (kp_C A u ρ1 f1) → va_S (fun q : Nat => s.heap.size ≤ q) s.heap H locs → lv_has ls 7 [(0, .ref b), (1, .ref (A 0)), (2, .ref (A 60)), (3, .ref (A 63)), (4, .int x4)] → W p l e room_1 s m #[Value.ref b] below meth c H locs (cells + 1) (slots + 6) (lw_Z below #[Value.ref b] s) (F0 m 1453 ls [])) : W p l e room_1 s m #[Value.ref b] below meth c H locs cells slots (lw_Z below #[Value.ref b] s) (F0 m 1020 ls []) := by
  obtain ⟨hl9, S9, hX, hbl, hlk, hr, hC, X9⟩ := X
  obtain ⟨hx, hb, hml, hown, hts⟩ := id S9
  have hK := X9.2.1
  have hbA : ¬ (fun q : Nat => s.heap.size ≤ q) b := Nat.not_le.mpr hbl
  rcases sim (xs (x4 + 1).toNatClampNeg) (xs (x4 + 2).toNatClampNeg) (xs (x4 + 3).toNatClampNeg) with ⟨v, u, z, e1, e2, hI⟩ | ⟨k, u, z, hk, e1, e2, hI⟩
  · refine lv_aload_n hx hb d_La_law_1020 rfl (lv_at hl 1 rfl) ?_
    refine lv_aload_n hx hb d_La_law_1021 rfl (lv_at hl 0 rfl) ?_
    refine lv_iload hx hb d_La_law_1022 (lv_at hl 4 rfl) ?_
    refine lv_iconst (v := 1) hx hb d_La_law_1024 (by decide) ?_
    refine lv_iadd hx hb d_La_law_1025 ?_
    refine va_sld hx hb hX hbl hbA hS h1 d_La_law_1026 ?_
    refine lv_aload_n hx hb d_La_law_1027 rfl (lv_at hl 0 rfl) ?_
    refine lv_iload hx hb d_La_law_1028 (lv_at hl 4 rfl) ?_
    refine lv_iconst (v := 2) hx hb d_La_law_1030 (by decide) ?_
    refine lv_iadd hx hb d_La_law_1031 ?_
    refine va_sld hx hb hX hbl hbA hS h2 d_La_law_1032 ?_
    refine lv_aload_n hx hb d_La_law_1033 rfl (lv_at hl 0 rfl) ?_
    refine lv_iload hx hb d_La_law_1034 (lv_at hl 4 rfl) ?_
    refine lv_iconst (v := 3) hx hb d_La_law_1036 (by decide) ?_
    refine lv_iadd hx hb d_La_law_1037 ?_
    refine va_sld hx hb hX hbl hbA hS h3 d_La_law_1038 ?_
    refine lv_aload_n hx hb d_La_law_1039 rfl (lv_at hl 3 rfl) ?_
    refine ka_i (vx_runSW (As := [.ref (A 0), .int (xs (x4 + 1).toNatClampNeg), .int (xs (x4 + 2).toNatClampNeg), .int (xs (x4 + 3).toNatClampNeg), .ref (A 63)]) (rest := []) S9 (c_La_user_ok l hl9 D A (MW A ρ []) f _ σ (xs (x4 + 1).toNatClampNeg) (xs (x4 + 2).toNatClampNeg) (xs (x4 + 3).toNatClampNeg) v u e1) (vx_cwSW 5 hts (tg_SW wl_La_144 ws_La_user wi_La wo_La_user) rfl rfl rfl wq_La_user.2 ⟨Nat.le_of_ble_eq_true rfl, Nat.le_of_ble_eq_true rfl⟩) (ka_preC X9 hC hP hD hS) rfl rfl hl.1 rfl (lv_room (Nat.le_of_ble_eq_true rfl)) d_La_law_1040 ⟨Nat.le_trans (Nat.le_succ _) hc, Nat.le_trans (Nat.le_add_right _ 6) hsl⟩) X9 hD hS rfl (fun H locs hP hD hS => ?_)
    refine lv_istore (lv' := (5, .int 0) :: [(0, .ref b), (1, .ref (A 0)), (2, .ref (A 60)), (3, .ref (A 63)), (4, .int x4)]) hx hb d_La_law_1043 hl (by decide) rfl (fun ls hl => ?_)
    refine lv_aload_n hx hb d_La_law_1045 rfl (lv_at hl 3 rfl) ?_
    refine lv_aload_n hx hb d_La_law_1046 rfl (lv_at hl 1 rfl) ?_
    refine lv_iload hx hb d_La_law_1047 (lv_at hl 5 rfl) ?_
    refine lv_iconst (v := 1) hx hb d_La_law_1049 (by decide) ?_
    refine lv_iadd hx hb d_La_law_1050 ?_
    refine va_sld hx hb hX hbl hbA hS h1 d_La_law_1051 ?_
    refine lv_aload_n hx hb d_La_law_1052 rfl (lv_at hl 1 rfl) ?_
    refine lv_iload hx hb d_La_law_1053 (lv_at hl 5 rfl) ?_
    refine lv_iconst (v := 2) hx hb d_La_law_1055 (by decide) ?_
    refine lv_iadd hx hb d_La_law_1056 ?_
    refine va_sld hx hb hX hbl hbA hS h2 d_La_law_1057 ?_
    refine lv_aload_n hx hb d_La_law_1058 rfl (lv_at hl 1 rfl) ?_
    refine lv_iload hx hb d_La_law_1059 (lv_at hl 5 rfl) ?_
    refine lv_iconst (v := 3) hx hb d_La_law_1061 (by decide) ?_
    refine lv_iadd hx hb d_La_law_1062 ?_
    refine va_sld hx hb hX hbl hbA hS h3 d_La_law_1063 ?_
    replace hP := kp_P (kp_perm A u ρ (vp_updL f 0 v.toInt64)) hP
    replace hD := kp_D (kp_perm A u ρ (vp_updL f 0 v.toInt64)) hD
    refine ka_i (va_runV (As := [.int (xs (x4 + 1).toNatClampNeg), .int (xs (x4 + 2).toNatClampNeg), .int (xs (x4 + 3).toNatClampNeg)]) (rest := []) S9 (c_Mo_user l hl9 D A (GW A u [ka_oc A (vp_updL f 0 v.toInt64)]) _ ρ (xs (x4 + 1).toNatClampNeg) (xs (x4 + 2).toNatClampNeg) (xs (x4 + 3).toNatClampNeg) z e2) (cwV 3 hts (tg_V wl_La_146 wm_Mo_user we_Mo_user wi_Mo wo_Mo_user) rfl rfl rfl wq_Mo_user ⟨Nat.le_of_ble_eq_true rfl, Nat.le_of_ble_eq_true rfl⟩) (ka_preV X9 hP hD hS 0 rfl rfl) rfl rfl hl.1 rfl (lv_room (Nat.le_of_ble_eq_true rfl)) d_La_law_1064 ⟨Nat.le_trans (Nat.le_succ _) hc, Nat.le_trans (Nat.le_add_right _ 6) hsl⟩) X9 hD hS rfl (fun H locs hP hD hS => ?_)
    refine lv_istore (lv' := (6, .int z.1) :: (5, .int 0) :: [(0, .ref b), (1, .ref (A 0)), (2, .ref (A 60)), (3, .ref (A 63)), (4, .int x4)]) hx hb d_La_law_1067 hl (by decide) rfl (fun ls hl => ?_)
    replace hP := kp_P (kp_perm A u z.2 (vp_updL f 0 v.toInt64)).symm hP
    replace hD := kp_D (kp_perm A u z.2 (vp_updL f 0 v.toInt64)).symm hD
    refine lv_goto (tgt := 1453) hx hb d_La_law_1069 (by decide) ?_
    refine W.widen (k := cells + 1) (n := slots + 6) (by omega) (by omega) ?_
    exact kk u z.2 (vp_updL f 0 v.toInt64) _ _ _ hI hP hD hS (lv_sub hl [2, 3, 4, 5, 6] rfl)
  refine lv_aload_n hx hb d_La_law_1020 rfl (lv_at hl 1 rfl) ?_
  refine lv_aload_n hx hb d_La_law_1021 rfl (lv_at hl 0 rfl) ?_
  refine lv_iload hx hb d_La_law_1022 (lv_at hl 4 rfl) ?_
  refine lv_iconst (v := 1) hx hb d_La_law_1024 (by decide) ?_
  refine lv_iadd hx hb d_La_law_1025 ?_
  refine va_sld hx hb hX hbl hbA hS h1 d_La_law_1026 ?_
  refine lv_aload_n hx hb d_La_law_1027 rfl (lv_at hl 0 rfl) ?_
  refine lv_iload hx hb d_La_law_1028 (lv_at hl 4 rfl) ?_
  refine lv_iconst (v := 2) hx hb d_La_law_1030 (by decide) ?_
  refine lv_iadd hx hb d_La_law_1031 ?_
  refine va_sld hx hb hX hbl hbA hS h2 d_La_law_1032 ?_
  refine lv_aload_n hx hb d_La_law_1033 rfl (lv_at hl 0 rfl) ?_
  refine lv_iload hx hb d_La_law_1034 (lv_at hl 4 rfl) ?_
  refine lv_iconst (v := 3) hx hb d_La_law_1036 (by decide) ?_
  refine lv_iadd hx hb d_La_law_1037 ?_
  refine va_sld hx hb hX hbl hbA hS h3 d_La_law_1038 ?_
  refine lv_aload_n hx hb d_La_law_1039 rfl (lv_at hl 3 rfl) ?_
  refine ka_i (vx_runSW (As := [.ref (A 0), .int (xs (x4 + 1).toNatClampNeg), .int (xs (x4 + 2).toNatClampNeg), .int (xs (x4 + 3).toNatClampNeg), .ref (A 63)]) (rest := []) S9 (c_La_user_err l hl9 D A (MW A ρ []) f _ σ (xs (x4 + 1).toNatClampNeg) (xs (x4 + 2).toNatClampNeg) (xs (x4 + 3).toNatClampNeg) k hk u e1) (vx_cwSW 5 hts (tg_SW wl_La_144 ws_La_user wi_La wo_La_user) rfl rfl rfl wq_La_user.2 ⟨Nat.le_of_ble_eq_true rfl, Nat.le_of_ble_eq_true rfl⟩) (ka_preC X9 hC hP hD hS) rfl rfl hl.1 rfl (lv_room (Nat.le_of_ble_eq_true rfl)) d_La_law_1040 ⟨hc, hsl⟩) X9 hD hS rfl (fun H locs hP hD hS => ?_)
  refine lv_istore (lv' := (5, .int (nI k)) :: [(0, .ref b), (1, .ref (A 0)), (2, .ref (A 60)), (3, .ref (A 63)), (4, .int x4)]) hx hb d_La_law_1043 hl (by decide) rfl (fun ls hl => ?_)
  refine lv_aload_n hx hb d_La_law_1045 rfl (lv_at hl 3 rfl) ?_
  refine lv_aload_n hx hb d_La_law_1046 rfl (lv_at hl 1 rfl) ?_
  refine lv_iload hx hb d_La_law_1047 (lv_at hl 5 rfl) ?_
  refine lv_iconst (v := 1) hx hb d_La_law_1049 (by decide) ?_
  refine lv_iadd hx hb d_La_law_1050 ?_
  refine va_sld hx hb hX hbl hbA hS h1 d_La_law_1051 ?_
  refine lv_aload_n hx hb d_La_law_1052 rfl (lv_at hl 1 rfl) ?_
  refine lv_iload hx hb d_La_law_1053 (lv_at hl 5 rfl) ?_
  refine lv_iconst (v := 2) hx hb d_La_law_1055 (by decide) ?_
  refine lv_iadd hx hb d_La_law_1056 ?_
  refine va_sld hx hb hX hbl hbA hS h2 d_La_law_1057 ?_
  refine lv_aload_n hx hb d_La_law_1058 rfl (lv_at hl 1 rfl) ?_
  refine lv_iload hx hb d_La_law_1059 (lv_at hl 5 rfl) ?_
  refine lv_iconst (v := 3) hx hb d_La_law_1061 (by decide) ?_
  refine lv_iadd hx hb d_La_law_1062 ?_
  refine va_sld hx hb hX hbl hbA hS h3 d_La_law_1063 ?_
  replace hP := kp_P (kp_perm A u ρ f) hP
  replace hD := kp_D (kp_perm A u ρ f) hD
  refine ka_i (va_runV (As := [.int (xs (x4 + 1).toNatClampNeg), .int (xs (x4 + 2).toNatClampNeg), .int (xs (x4 + 3).toNatClampNeg)]) (rest := []) S9 (c_Mo_user l hl9 D A (GW A u [ka_oc A f]) _ ρ (xs (x4 + 1).toNatClampNeg) (xs (x4 + 2).toNatClampNeg) (xs (x4 + 3).toNatClampNeg) z e2) (cwV 3 hts (tg_V wl_La_146 wm_Mo_user we_Mo_user wi_Mo wo_Mo_user) rfl rfl rfl wq_Mo_user ⟨Nat.le_of_ble_eq_true rfl, Nat.le_of_ble_eq_true rfl⟩) (ka_preV X9 hP hD hS 0 rfl rfl) rfl rfl hl.1 rfl (lv_room (Nat.le_of_ble_eq_true rfl)) d_La_law_1064 ⟨hc, hsl⟩) X9 hD hS rfl (fun H locs hP hD hS => ?_)
  refine lv_istore (lv' := (6, .int z.1) :: (5, .int (nI k)) :: [(0, .ref b), (1, .ref (A 0)), (2, .ref (A 60)), (3, .ref (A 63)), (4, .int x4)]) hx hb d_La_law_1067 hl (by decide) rfl (fun ls hl => ?_)
  replace hP := kp_P (kp_perm A u z.2 f).symm hP
  replace hD := kp_D (kp_perm A u z.2 f).symm hD
  refine lv_goto (tgt := 1453) hx hb d_La_law_1069 (by decide) ?_
  refine W.widen (k := cells + 1) (n := slots + 6) (by omega) (by omega) ?_
  exact kk u z.2 f _ _ _ hI hP hD hS (lv_sub hl [2, 3, 4, 5, 6] rfl)
set_option maxRecDepth 100000 in
set_option maxHeartbeats 4000000 in
theorem lc_16 {p : Program} {l : Launch} {e : Env} {s : State} {m : MethodId} {below : List Frame} {meth : Method} {c : Code} {b L : Nat} {xs : Nat → Int32} {D : va_G} {A : Nat → Nat} (I : KS → RS → Prop) (X : lx_ p l s m meth c b L xs D A) {cells slots : Nat} (hc : cells + 1 ≤ room_1.cells) (hsl : slots + 6 ≤ room_1.slots) (x4 : Int32) (h1 : vp_in (x4 + 1) L) (h2 : vp_in (x4 + 2) L) (h3 : vp_in (x4 + 3) L) (σ : KS) (ρ : RS) (f : Nat → Int64) (sim : ∀ x1 x2 x3 : Int32, (∃ (v : Int32) (u : KS) (z : Int32 × RS), f_Ke_login σ x1 x2 x3 = some (.ok v, u) ∧ f_Mo_login ρ x1 x2 x3 = some z ∧ I u z.2) ∨ (∃ (k : Nat) (u : KS) (z : Int32 × RS), (k = 1 ∨ k = 2 ∨ k = 3 ∨ k = 4) ∧ f_Ke_login σ x1 x2 x3 = some (.error k, u) ∧ f_Mo_login ρ x1 x2 x3 = some z ∧ I u z.2)) {H : Heap} {locs : List Loc} {ls : Array Slot} (hP : va_P D vwCl (kp_C A σ ρ f) H) (hD : va_D (fun q : Nat => s.heap.size ≤ q) (kp_C A σ ρ f)) (hS : va_S (fun q : Nat => s.heap.size ≤ q) s.heap H locs) (hl : lv_has ls 7 [(0, .ref b), (1, .ref (A 0)), (2, .ref (A 60)), (3, .ref (A 63)), (4, .int x4)])
    (kk : ∀ (u : KS) (ρ1 : RS) (f1 : Nat → Int64) (H : Heap) (locs : List Loc) (ls : Array Slot), I u ρ1 → va_P D vwCl (kp_C A u ρ1 f1) H → va_D (fun q : Nat => s.heap.size ≤ q) (kp_C A u ρ1 f1) → va_S (fun q : Nat => s.heap.size ≤ q) s.heap H locs → lv_has ls 7 [(0, .ref b), (1, .ref (A 0)), (2, .ref (A 60)), (3, .ref (A 63)), (4, .int x4)] → W p l e room_1 s m #[Value.ref b] below meth c H locs (cells + 1) (slots + 6) (lw_Z below #[Value.ref b] s) (F0 m 1453 ls [])) : W p l e room_1 s m #[Value.ref b] below meth c H locs cells slots (lw_Z below #[Value.ref b] s) (F0 m 1072 ls []) := by
  obtain ⟨hl9, S9, hX, hbl, hlk, hr, hC, X9⟩ := X
  obtain ⟨hx, hb, hml, hown, hts⟩ := id S9
  have hK := X9.2.1
  have hbA : ¬ (fun q : Nat => s.heap.size ≤ q) b := Nat.not_le.mpr hbl
  rcases sim (xs (x4 + 1).toNatClampNeg) (xs (x4 + 2).toNatClampNeg) (xs (x4 + 3).toNatClampNeg) with ⟨v, u, z, e1, e2, hI⟩ | ⟨k, u, z, hk, e1, e2, hI⟩
  · refine lv_aload_n hx hb d_La_law_1072 rfl (lv_at hl 1 rfl) ?_
    refine lv_aload_n hx hb d_La_law_1073 rfl (lv_at hl 0 rfl) ?_
    refine lv_iload hx hb d_La_law_1074 (lv_at hl 4 rfl) ?_
    refine lv_iconst (v := 1) hx hb d_La_law_1076 (by decide) ?_
    refine lv_iadd hx hb d_La_law_1077 ?_
    refine va_sld hx hb hX hbl hbA hS h1 d_La_law_1078 ?_
    refine lv_aload_n hx hb d_La_law_1079 rfl (lv_at hl 0 rfl) ?_
    refine lv_iload hx hb d_La_law_1080 (lv_at hl 4 rfl) ?_
    refine lv_iconst (v := 2) hx hb d_La_law_1082 (by decide) ?_
    refine lv_iadd hx hb d_La_law_1083 ?_
    refine va_sld hx hb hX hbl hbA hS h2 d_La_law_1084 ?_
    refine lv_aload_n hx hb d_La_law_1085 rfl (lv_at hl 0 rfl) ?_
    refine lv_iload hx hb d_La_law_1086 (lv_at hl 4 rfl) ?_
    refine lv_iconst (v := 3) hx hb d_La_law_1088 (by decide) ?_
    refine lv_iadd hx hb d_La_law_1089 ?_
    refine va_sld hx hb hX hbl hbA hS h3 d_La_law_1090 ?_
    refine lv_aload_n hx hb d_La_law_1091 rfl (lv_at hl 3 rfl) ?_
    refine ka_i (vx_runSW (As := [.ref (A 0), .int (xs (x4 + 1).toNatClampNeg), .int (xs (x4 + 2).toNatClampNeg), .int (xs (x4 + 3).toNatClampNeg), .ref (A 63)]) (rest := []) S9 (c_La_login_ok l hl9 D A (MW A ρ []) f _ σ (xs (x4 + 1).toNatClampNeg) (xs (x4 + 2).toNatClampNeg) (xs (x4 + 3).toNatClampNeg) v u e1) (vx_cwSW 5 hts (tg_SW wl_La_147 ws_La_login wi_La wo_La_login) rfl rfl rfl wq_La_login.2 ⟨Nat.le_of_ble_eq_true rfl, Nat.le_of_ble_eq_true rfl⟩) (ka_preC X9 hC hP hD hS) rfl rfl hl.1 rfl (lv_room (Nat.le_of_ble_eq_true rfl)) d_La_law_1092 ⟨Nat.le_trans (Nat.le_succ _) hc, Nat.le_trans (Nat.le_add_right _ 6) hsl⟩) X9 hD hS rfl (fun H locs hP hD hS => ?_)
    refine lv_istore (lv' := (5, .int 0) :: [(0, .ref b), (1, .ref (A 0)), (2, .ref (A 60)), (3, .ref (A 63)), (4, .int x4)]) hx hb d_La_law_1095 hl (by decide) rfl (fun ls hl => ?_)
    refine lv_aload_n hx hb d_La_law_1097 rfl (lv_at hl 3 rfl) ?_
    refine lv_aload_n hx hb d_La_law_1098 rfl (lv_at hl 1 rfl) ?_
    refine lv_iload hx hb d_La_law_1099 (lv_at hl 5 rfl) ?_
    refine lv_iconst (v := 1) hx hb d_La_law_1101 (by decide) ?_
    refine lv_iadd hx hb d_La_law_1102 ?_
    refine va_sld hx hb hX hbl hbA hS h1 d_La_law_1103 ?_
    refine lv_aload_n hx hb d_La_law_1104 rfl (lv_at hl 1 rfl) ?_
    refine lv_iload hx hb d_La_law_1105 (lv_at hl 5 rfl) ?_
    refine lv_iconst (v := 2) hx hb d_La_law_1107 (by decide) ?_
    refine lv_iadd hx hb d_La_law_1108 ?_
    refine va_sld hx hb hX hbl hbA hS h2 d_La_law_1109 ?_
    refine lv_aload_n hx hb d_La_law_1110 rfl (lv_at hl 1 rfl) ?_
    refine lv_iload hx hb d_La_law_1111 (lv_at hl 5 rfl) ?_
    refine lv_iconst (v := 3) hx hb d_La_law_1113 (by decide) ?_
    refine lv_iadd hx hb d_La_law_1114 ?_
    refine va_sld hx hb hX hbl hbA hS h3 d_La_law_1115 ?_
    replace hP := kp_P (kp_perm A u ρ (vp_updL f 0 v.toInt64)) hP
    replace hD := kp_D (kp_perm A u ρ (vp_updL f 0 v.toInt64)) hD
    refine ka_i (va_runV (As := [.int (xs (x4 + 1).toNatClampNeg), .int (xs (x4 + 2).toNatClampNeg), .int (xs (x4 + 3).toNatClampNeg)]) (rest := []) S9 (c_Mo_login l hl9 D A (GW A u [ka_oc A (vp_updL f 0 v.toInt64)]) _ ρ (xs (x4 + 1).toNatClampNeg) (xs (x4 + 2).toNatClampNeg) (xs (x4 + 3).toNatClampNeg) z e2) (cwV 3 hts (tg_V wl_La_149 wm_Mo_login we_Mo_login wi_Mo wo_Mo_login) rfl rfl rfl wq_Mo_login ⟨Nat.le_of_ble_eq_true rfl, Nat.le_of_ble_eq_true rfl⟩) (ka_preV X9 hP hD hS 0 rfl rfl) rfl rfl hl.1 rfl (lv_room (Nat.le_of_ble_eq_true rfl)) d_La_law_1116 ⟨Nat.le_trans (Nat.le_succ _) hc, Nat.le_trans (Nat.le_add_right _ 6) hsl⟩) X9 hD hS rfl (fun H locs hP hD hS => ?_)
    refine lv_istore (lv' := (6, .int z.1) :: (5, .int 0) :: [(0, .ref b), (1, .ref (A 0)), (2, .ref (A 60)), (3, .ref (A 63)), (4, .int x4)]) hx hb d_La_law_1119 hl (by decide) rfl (fun ls hl => ?_)
    replace hP := kp_P (kp_perm A u z.2 (vp_updL f 0 v.toInt64)).symm hP
    replace hD := kp_D (kp_perm A u z.2 (vp_updL f 0 v.toInt64)).symm hD
    refine lv_goto (tgt := 1453) hx hb d_La_law_1121 (by decide) ?_
    refine W.widen (k := cells + 1) (n := slots + 6) (by omega) (by omega) ?_
    exact kk u z.2 (vp_updL f 0 v.toInt64) _ _ _ hI hP hD hS (lv_sub hl [2, 3, 4, 5, 6] rfl)
  refine lv_aload_n hx hb d_La_law_1072 rfl (lv_at hl 1 rfl) ?_
  refine lv_aload_n hx hb d_La_law_1073 rfl (lv_at hl 0 rfl) ?_
  refine lv_iload hx hb d_La_law_1074 (lv_at hl 4 rfl) ?_
  refine lv_iconst (v := 1) hx hb d_La_law_1076 (by decide) ?_
  refine lv_iadd hx hb d_La_law_1077 ?_
  refine va_sld hx hb hX hbl hbA hS h1 d_La_law_1078 ?_
  refine lv_aload_n hx hb d_La_law_1079 rfl (lv_at hl 0 rfl) ?_
  refine lv_iload hx hb d_La_law_1080 (lv_at hl 4 rfl) ?_
  refine lv_iconst (v := 2) hx hb d_La_law_1082 (by decide) ?_
  refine lv_iadd hx hb d_La_law_1083 ?_
  refine va_sld hx hb hX hbl hbA hS h2 d_La_law_1084 ?_
  refine lv_aload_n hx hb d_La_law_1085 rfl (lv_at hl 0 rfl) ?_
  refine lv_iload hx hb d_La_law_1086 (lv_at hl 4 rfl) ?_
  refine lv_iconst (v := 3) hx hb d_La_law_1088 (by decide) ?_
  refine lv_iadd hx hb d_La_law_1089 ?_
  refine va_sld hx hb hX hbl hbA hS h3 d_La_law_1090 ?_
  refine lv_aload_n hx hb d_La_law_1091 rfl (lv_at hl 3 rfl) ?_
  refine ka_i (vx_runSW (As := [.ref (A 0), .int (xs (x4 + 1).toNatClampNeg), .int (xs (x4 + 2).toNatClampNeg), .int (xs (x4 + 3).toNatClampNeg), .ref (A 63)]) (rest := []) S9 (c_La_login_err l hl9 D A (MW A ρ []) f _ σ (xs (x4 + 1).toNatClampNeg) (xs (x4 + 2).toNatClampNeg) (xs (x4 + 3).toNatClampNeg) k hk u e1) (vx_cwSW 5 hts (tg_SW wl_La_147 ws_La_login wi_La wo_La_login) rfl rfl rfl wq_La_login.2 ⟨Nat.le_of_ble_eq_true rfl, Nat.le_of_ble_eq_true rfl⟩) (ka_preC X9 hC hP hD hS) rfl rfl hl.1 rfl (lv_room (Nat.le_of_ble_eq_true rfl)) d_La_law_1092 ⟨hc, hsl⟩) X9 hD hS rfl (fun H locs hP hD hS => ?_)
  refine lv_istore (lv' := (5, .int (nI k)) :: [(0, .ref b), (1, .ref (A 0)), (2, .ref (A 60)), (3, .ref (A 63)), (4, .int x4)]) hx hb d_La_law_1095 hl (by decide) rfl (fun ls hl => ?_)
  refine lv_aload_n hx hb d_La_law_1097 rfl (lv_at hl 3 rfl) ?_
  refine lv_aload_n hx hb d_La_law_1098 rfl (lv_at hl 1 rfl) ?_
  refine lv_iload hx hb d_La_law_1099 (lv_at hl 5 rfl) ?_
  refine lv_iconst (v := 1) hx hb d_La_law_1101 (by decide) ?_
  refine lv_iadd hx hb d_La_law_1102 ?_
  refine va_sld hx hb hX hbl hbA hS h1 d_La_law_1103 ?_
  refine lv_aload_n hx hb d_La_law_1104 rfl (lv_at hl 1 rfl) ?_
  refine lv_iload hx hb d_La_law_1105 (lv_at hl 5 rfl) ?_
  refine lv_iconst (v := 2) hx hb d_La_law_1107 (by decide) ?_
  refine lv_iadd hx hb d_La_law_1108 ?_
  refine va_sld hx hb hX hbl hbA hS h2 d_La_law_1109 ?_
  refine lv_aload_n hx hb d_La_law_1110 rfl (lv_at hl 1 rfl) ?_
  refine lv_iload hx hb d_La_law_1111 (lv_at hl 5 rfl) ?_
  refine lv_iconst (v := 3) hx hb d_La_law_1113 (by decide) ?_
  refine lv_iadd hx hb d_La_law_1114 ?_
  refine va_sld hx hb hX hbl hbA hS h3 d_La_law_1115 ?_
  replace hP := kp_P (kp_perm A u ρ f) hP
  replace hD := kp_D (kp_perm A u ρ f) hD
  refine ka_i (va_runV (As := [.int (xs (x4 + 1).toNatClampNeg), .int (xs (x4 + 2).toNatClampNeg), .int (xs (x4 + 3).toNatClampNeg)]) (rest := []) S9 (c_Mo_login l hl9 D A (GW A u [ka_oc A f]) _ ρ (xs (x4 + 1).toNatClampNeg) (xs (x4 + 2).toNatClampNeg) (xs (x4 + 3).toNatClampNeg) z e2) (cwV 3 hts (tg_V wl_La_149 wm_Mo_login we_Mo_login wi_Mo wo_Mo_login) rfl rfl rfl wq_Mo_login ⟨Nat.le_of_ble_eq_true rfl, Nat.le_of_ble_eq_true rfl⟩) (ka_preV X9 hP hD hS 0 rfl rfl) rfl rfl hl.1 rfl (lv_room (Nat.le_of_ble_eq_true rfl)) d_La_law_1116 ⟨hc, hsl⟩) X9 hD hS rfl (fun H locs hP hD hS => ?_)
  refine lv_istore (lv' := (6, .int z.1) :: (5, .int (nI k)) :: [(0, .ref b), (1, .ref (A 0)), (2, .ref (A 60)), (3, .ref (A 63)), (4, .int x4)]) hx hb d_La_law_1119 hl (by decide) rfl (fun ls hl => ?_)
  replace hP := kp_P (kp_perm A u z.2 f).symm hP
  replace hD := kp_D (kp_perm A u z.2 f).symm hD
  refine lv_goto (tgt := 1453) hx hb d_La_law_1121 (by decide) ?_
  refine W.widen (k := cells + 1) (n := slots + 6) (by omega) (by omega) ?_
  exact kk u z.2 f _ _ _ hI hP hD hS (lv_sub hl [2, 3, 4, 5, 6] rfl)
set_option maxRecDepth 100000 in
set_option maxHeartbeats 4000000 in
theorem lc_17 {p : Program} {l : Launch} {e : Env} {s : State} {m : MethodId} {below : List Frame} {meth : Method} {c : Code} {b L : Nat} {xs : Nat → Int32} {D : va_G} {A : Nat → Nat} (I : KS → RS → Prop) (X : lx_ p l s m meth c b L xs D A) {cells slots : Nat} (hc : cells + 1 ≤ room_1.cells) (hsl : slots + 6 ≤ room_1.slots) (x4 : Int32) (h1 : vp_in (x4 + 1) L) (h2 : vp_in (x4 + 2) L) (h3 : vp_in (x4 + 3) L) (h4 : vp_in (x4 + 4) L) (σ : KS) (ρ : RS) (f : Nat → Int64) (sim : ∀ x1 x2 x3 x4 : Int32, (∃ (v : Int32) (u : KS) (z : Int32 × RS), f_Ke_file σ x1 x2 x3 x4 = some (.ok v, u) ∧ f_Mo_file ρ x1 x2 x3 x4 = some z ∧ I u z.2) ∨ (∃ (k : Nat) (u : KS) (z : Int32 × RS), (k = 1 ∨ k = 2 ∨ k = 3 ∨ k = 4) ∧ f_Ke_file σ x1 x2 x3 x4 = some (.error k, u) ∧ f_Mo_file ρ x1 x2 x3 x4 = some z ∧ I u z.2)) {H : Heap} {locs : List Loc} {ls : Array Slot} (hP : va_P D vwCl (kp_C A σ ρ f) H) (hD : va_D (fun q : Nat => s.heap.size ≤ q) (kp_C A σ ρ f)) (hS : va_S (fun q : Nat => s.heap.size ≤ q) s.heap H locs) (hl : lv_has ls 7 [(0, .ref b), (1, .ref (A 0)), (2, .ref (A 60)), (3, .ref (A 63)), (4, .int x4)])
    (kk : ∀ (u : KS) (ρ1 : RS) (f1 : Nat → Int64) (H : Heap) (locs : List Loc) (ls : Array Slot), I u ρ1 → va_P D vwCl (kp_C A u ρ1 f1) H → va_D (fun q : Nat => s.heap.size ≤ q) (kp_C A u ρ1 f1) → va_S (fun q : Nat => s.heap.size ≤ q) s.heap H locs → lv_has ls 7 [(0, .ref b), (1, .ref (A 0)), (2, .ref (A 60)), (3, .ref (A 63)), (4, .int x4)] → W p l e room_1 s m #[Value.ref b] below meth c H locs (cells + 1) (slots + 6) (lw_Z below #[Value.ref b] s) (F0 m 1453 ls [])) : W p l e room_1 s m #[Value.ref b] below meth c H locs cells slots (lw_Z below #[Value.ref b] s) (F0 m 1124 ls []) := by
  obtain ⟨hl9, S9, hX, hbl, hlk, hr, hC, X9⟩ := X
  obtain ⟨hx, hb, hml, hown, hts⟩ := id S9
  have hK := X9.2.1
  have hbA : ¬ (fun q : Nat => s.heap.size ≤ q) b := Nat.not_le.mpr hbl
  rcases sim (xs (x4 + 1).toNatClampNeg) (xs (x4 + 2).toNatClampNeg) (xs (x4 + 3).toNatClampNeg) (xs (x4 + 4).toNatClampNeg) with ⟨v, u, z, e1, e2, hI⟩ | ⟨k, u, z, hk, e1, e2, hI⟩
  · refine lv_aload_n hx hb d_La_law_1124 rfl (lv_at hl 1 rfl) ?_
    refine lv_aload_n hx hb d_La_law_1125 rfl (lv_at hl 0 rfl) ?_
    refine lv_iload hx hb d_La_law_1126 (lv_at hl 4 rfl) ?_
    refine lv_iconst (v := 1) hx hb d_La_law_1128 (by decide) ?_
    refine lv_iadd hx hb d_La_law_1129 ?_
    refine va_sld hx hb hX hbl hbA hS h1 d_La_law_1130 ?_
    refine lv_aload_n hx hb d_La_law_1131 rfl (lv_at hl 0 rfl) ?_
    refine lv_iload hx hb d_La_law_1132 (lv_at hl 4 rfl) ?_
    refine lv_iconst (v := 2) hx hb d_La_law_1134 (by decide) ?_
    refine lv_iadd hx hb d_La_law_1135 ?_
    refine va_sld hx hb hX hbl hbA hS h2 d_La_law_1136 ?_
    refine lv_aload_n hx hb d_La_law_1137 rfl (lv_at hl 0 rfl) ?_
    refine lv_iload hx hb d_La_law_1138 (lv_at hl 4 rfl) ?_
    refine lv_iconst (v := 3) hx hb d_La_law_1140 (by decide) ?_
    refine lv_iadd hx hb d_La_law_1141 ?_
    refine va_sld hx hb hX hbl hbA hS h3 d_La_law_1142 ?_
    refine lv_aload_n hx hb d_La_law_1143 rfl (lv_at hl 0 rfl) ?_
    refine lv_iload hx hb d_La_law_1144 (lv_at hl 4 rfl) ?_
    refine lv_iconst (v := 4) hx hb d_La_law_1146 (by decide) ?_
    refine lv_iadd hx hb d_La_law_1147 ?_
    refine va_sld hx hb hX hbl hbA hS h4 d_La_law_1148 ?_
    refine lv_aload_n hx hb d_La_law_1149 rfl (lv_at hl 3 rfl) ?_
    refine ka_i (vx_runSW (As := [.ref (A 0), .int (xs (x4 + 1).toNatClampNeg), .int (xs (x4 + 2).toNatClampNeg), .int (xs (x4 + 3).toNatClampNeg), .int (xs (x4 + 4).toNatClampNeg), .ref (A 63)]) (rest := []) S9 (c_La_file_ok l hl9 D A (MW A ρ []) f _ σ (xs (x4 + 1).toNatClampNeg) (xs (x4 + 2).toNatClampNeg) (xs (x4 + 3).toNatClampNeg) (xs (x4 + 4).toNatClampNeg) v u e1) (vx_cwSW 6 hts (tg_SW wl_La_150 ws_La_file wi_La wo_La_file) rfl rfl rfl wq_La_file.2 ⟨Nat.le_of_ble_eq_true rfl, Nat.le_of_ble_eq_true rfl⟩) (ka_preC X9 hC hP hD hS) rfl rfl hl.1 rfl (lv_room (Nat.le_of_ble_eq_true rfl)) d_La_law_1150 ⟨Nat.le_trans (Nat.le_succ _) hc, Nat.le_trans (Nat.le_add_right _ 6) hsl⟩) X9 hD hS rfl (fun H locs hP hD hS => ?_)
    refine lv_istore (lv' := (5, .int 0) :: [(0, .ref b), (1, .ref (A 0)), (2, .ref (A 60)), (3, .ref (A 63)), (4, .int x4)]) hx hb d_La_law_1153 hl (by decide) rfl (fun ls hl => ?_)
    refine lv_aload_n hx hb d_La_law_1155 rfl (lv_at hl 3 rfl) ?_
    refine lv_aload_n hx hb d_La_law_1156 rfl (lv_at hl 1 rfl) ?_
    refine lv_iload hx hb d_La_law_1157 (lv_at hl 5 rfl) ?_
    refine lv_iconst (v := 1) hx hb d_La_law_1159 (by decide) ?_
    refine lv_iadd hx hb d_La_law_1160 ?_
    refine va_sld hx hb hX hbl hbA hS h1 d_La_law_1161 ?_
    refine lv_aload_n hx hb d_La_law_1162 rfl (lv_at hl 1 rfl) ?_
    refine lv_iload hx hb d_La_law_1163 (lv_at hl 5 rfl) ?_
    refine lv_iconst (v := 2) hx hb d_La_law_1165 (by decide) ?_
    refine lv_iadd hx hb d_La_law_1166 ?_
    refine va_sld hx hb hX hbl hbA hS h2 d_La_law_1167 ?_
    refine lv_aload_n hx hb d_La_law_1168 rfl (lv_at hl 1 rfl) ?_
    refine lv_iload hx hb d_La_law_1169 (lv_at hl 5 rfl) ?_
    refine lv_iconst (v := 3) hx hb d_La_law_1171 (by decide) ?_
    refine lv_iadd hx hb d_La_law_1172 ?_
    refine va_sld hx hb hX hbl hbA hS h3 d_La_law_1173 ?_
    refine lv_aload_n hx hb d_La_law_1174 rfl (lv_at hl 1 rfl) ?_
    refine lv_iload hx hb d_La_law_1175 (lv_at hl 5 rfl) ?_
    refine lv_iconst (v := 4) hx hb d_La_law_1177 (by decide) ?_
    refine lv_iadd hx hb d_La_law_1178 ?_
    refine va_sld hx hb hX hbl hbA hS h4 d_La_law_1179 ?_
    replace hP := kp_P (kp_perm A u ρ (vp_updL f 0 v.toInt64)) hP
    replace hD := kp_D (kp_perm A u ρ (vp_updL f 0 v.toInt64)) hD
    refine ka_i (va_runV (As := [.int (xs (x4 + 1).toNatClampNeg), .int (xs (x4 + 2).toNatClampNeg), .int (xs (x4 + 3).toNatClampNeg), .int (xs (x4 + 4).toNatClampNeg)]) (rest := []) S9 (c_Mo_file l hl9 D A (GW A u [ka_oc A (vp_updL f 0 v.toInt64)]) _ ρ (xs (x4 + 1).toNatClampNeg) (xs (x4 + 2).toNatClampNeg) (xs (x4 + 3).toNatClampNeg) (xs (x4 + 4).toNatClampNeg) z e2) (cwV 4 hts (tg_V wl_La_152 wm_Mo_file we_Mo_file wi_Mo wo_Mo_file) rfl rfl rfl wq_Mo_file ⟨Nat.le_of_ble_eq_true rfl, Nat.le_of_ble_eq_true rfl⟩) (ka_preV X9 hP hD hS 0 rfl rfl) rfl rfl hl.1 rfl (lv_room (Nat.le_of_ble_eq_true rfl)) d_La_law_1180 ⟨Nat.le_trans (Nat.le_succ _) hc, Nat.le_trans (Nat.le_add_right _ 6) hsl⟩) X9 hD hS rfl (fun H locs hP hD hS => ?_)
    refine lv_istore (lv' := (6, .int z.1) :: (5, .int 0) :: [(0, .ref b), (1, .ref (A 0)), (2, .ref (A 60)), (3, .ref (A 63)), (4, .int x4)]) hx hb d_La_law_1183 hl (by decide) rfl (fun ls hl => ?_)
    replace hP := kp_P (kp_perm A u z.2 (vp_updL f 0 v.toInt64)).symm hP
    replace hD := kp_D (kp_perm A u z.2 (vp_updL f 0 v.toInt64)).symm hD
    refine lv_goto (tgt := 1453) hx hb d_La_law_1185 (by decide) ?_
    refine W.widen (k := cells + 1) (n := slots + 6) (by omega) (by omega) ?_
    exact kk u z.2 (vp_updL f 0 v.toInt64) _ _ _ hI hP hD hS (lv_sub hl [2, 3, 4, 5, 6] rfl)
  refine lv_aload_n hx hb d_La_law_1124 rfl (lv_at hl 1 rfl) ?_
  refine lv_aload_n hx hb d_La_law_1125 rfl (lv_at hl 0 rfl) ?_
  refine lv_iload hx hb d_La_law_1126 (lv_at hl 4 rfl) ?_
  refine lv_iconst (v := 1) hx hb d_La_law_1128 (by decide) ?_
  refine lv_iadd hx hb d_La_law_1129 ?_
  refine va_sld hx hb hX hbl hbA hS h1 d_La_law_1130 ?_
  refine lv_aload_n hx hb d_La_law_1131 rfl (lv_at hl 0 rfl) ?_
  refine lv_iload hx hb d_La_law_1132 (lv_at hl 4 rfl) ?_
  refine lv_iconst (v := 2) hx hb d_La_law_1134 (by decide) ?_
  refine lv_iadd hx hb d_La_law_1135 ?_
  refine va_sld hx hb hX hbl hbA hS h2 d_La_law_1136 ?_
  refine lv_aload_n hx hb d_La_law_1137 rfl (lv_at hl 0 rfl) ?_
  refine lv_iload hx hb d_La_law_1138 (lv_at hl 4 rfl) ?_
  refine lv_iconst (v := 3) hx hb d_La_law_1140 (by decide) ?_
  refine lv_iadd hx hb d_La_law_1141 ?_
  refine va_sld hx hb hX hbl hbA hS h3 d_La_law_1142 ?_
  refine lv_aload_n hx hb d_La_law_1143 rfl (lv_at hl 0 rfl) ?_
  refine lv_iload hx hb d_La_law_1144 (lv_at hl 4 rfl) ?_
  refine lv_iconst (v := 4) hx hb d_La_law_1146 (by decide) ?_
  refine lv_iadd hx hb d_La_law_1147 ?_
  refine va_sld hx hb hX hbl hbA hS h4 d_La_law_1148 ?_
  refine lv_aload_n hx hb d_La_law_1149 rfl (lv_at hl 3 rfl) ?_
  refine ka_i (vx_runSW (As := [.ref (A 0), .int (xs (x4 + 1).toNatClampNeg), .int (xs (x4 + 2).toNatClampNeg), .int (xs (x4 + 3).toNatClampNeg), .int (xs (x4 + 4).toNatClampNeg), .ref (A 63)]) (rest := []) S9 (c_La_file_err l hl9 D A (MW A ρ []) f _ σ (xs (x4 + 1).toNatClampNeg) (xs (x4 + 2).toNatClampNeg) (xs (x4 + 3).toNatClampNeg) (xs (x4 + 4).toNatClampNeg) k hk u e1) (vx_cwSW 6 hts (tg_SW wl_La_150 ws_La_file wi_La wo_La_file) rfl rfl rfl wq_La_file.2 ⟨Nat.le_of_ble_eq_true rfl, Nat.le_of_ble_eq_true rfl⟩) (ka_preC X9 hC hP hD hS) rfl rfl hl.1 rfl (lv_room (Nat.le_of_ble_eq_true rfl)) d_La_law_1150 ⟨hc, hsl⟩) X9 hD hS rfl (fun H locs hP hD hS => ?_)
  refine lv_istore (lv' := (5, .int (nI k)) :: [(0, .ref b), (1, .ref (A 0)), (2, .ref (A 60)), (3, .ref (A 63)), (4, .int x4)]) hx hb d_La_law_1153 hl (by decide) rfl (fun ls hl => ?_)
  refine lv_aload_n hx hb d_La_law_1155 rfl (lv_at hl 3 rfl) ?_
  refine lv_aload_n hx hb d_La_law_1156 rfl (lv_at hl 1 rfl) ?_
  refine lv_iload hx hb d_La_law_1157 (lv_at hl 5 rfl) ?_
  refine lv_iconst (v := 1) hx hb d_La_law_1159 (by decide) ?_
  refine lv_iadd hx hb d_La_law_1160 ?_
  refine va_sld hx hb hX hbl hbA hS h1 d_La_law_1161 ?_
  refine lv_aload_n hx hb d_La_law_1162 rfl (lv_at hl 1 rfl) ?_
  refine lv_iload hx hb d_La_law_1163 (lv_at hl 5 rfl) ?_
  refine lv_iconst (v := 2) hx hb d_La_law_1165 (by decide) ?_
  refine lv_iadd hx hb d_La_law_1166 ?_
  refine va_sld hx hb hX hbl hbA hS h2 d_La_law_1167 ?_
  refine lv_aload_n hx hb d_La_law_1168 rfl (lv_at hl 1 rfl) ?_
  refine lv_iload hx hb d_La_law_1169 (lv_at hl 5 rfl) ?_
  refine lv_iconst (v := 3) hx hb d_La_law_1171 (by decide) ?_
  refine lv_iadd hx hb d_La_law_1172 ?_
  refine va_sld hx hb hX hbl hbA hS h3 d_La_law_1173 ?_
  refine lv_aload_n hx hb d_La_law_1174 rfl (lv_at hl 1 rfl) ?_
  refine lv_iload hx hb d_La_law_1175 (lv_at hl 5 rfl) ?_
  refine lv_iconst (v := 4) hx hb d_La_law_1177 (by decide) ?_
  refine lv_iadd hx hb d_La_law_1178 ?_
  refine va_sld hx hb hX hbl hbA hS h4 d_La_law_1179 ?_
  replace hP := kp_P (kp_perm A u ρ f) hP
  replace hD := kp_D (kp_perm A u ρ f) hD
  refine ka_i (va_runV (As := [.int (xs (x4 + 1).toNatClampNeg), .int (xs (x4 + 2).toNatClampNeg), .int (xs (x4 + 3).toNatClampNeg), .int (xs (x4 + 4).toNatClampNeg)]) (rest := []) S9 (c_Mo_file l hl9 D A (GW A u [ka_oc A f]) _ ρ (xs (x4 + 1).toNatClampNeg) (xs (x4 + 2).toNatClampNeg) (xs (x4 + 3).toNatClampNeg) (xs (x4 + 4).toNatClampNeg) z e2) (cwV 4 hts (tg_V wl_La_152 wm_Mo_file we_Mo_file wi_Mo wo_Mo_file) rfl rfl rfl wq_Mo_file ⟨Nat.le_of_ble_eq_true rfl, Nat.le_of_ble_eq_true rfl⟩) (ka_preV X9 hP hD hS 0 rfl rfl) rfl rfl hl.1 rfl (lv_room (Nat.le_of_ble_eq_true rfl)) d_La_law_1180 ⟨hc, hsl⟩) X9 hD hS rfl (fun H locs hP hD hS => ?_)
  refine lv_istore (lv' := (6, .int z.1) :: (5, .int (nI k)) :: [(0, .ref b), (1, .ref (A 0)), (2, .ref (A 60)), (3, .ref (A 63)), (4, .int x4)]) hx hb d_La_law_1183 hl (by decide) rfl (fun ls hl => ?_)
  replace hP := kp_P (kp_perm A u z.2 f).symm hP
  replace hD := kp_D (kp_perm A u z.2 f).symm hD
  refine lv_goto (tgt := 1453) hx hb d_La_law_1185 (by decide) ?_
  refine W.widen (k := cells + 1) (n := slots + 6) (by omega) (by omega) ?_
  exact kk u z.2 f _ _ _ hI hP hD hS (lv_sub hl [2, 3, 4, 5, 6] rfl)
set_option maxRecDepth 100000 in
set_option maxHeartbeats 4000000 in
theorem lc_18 {p : Program} {l : Launch} {e : Env} {s : State} {m : MethodId} {below : List Frame} {meth : Method} {c : Code} {b L : Nat} {xs : Nat → Int32} {D : va_G} {A : Nat → Nat} (I : KS → RS → Prop) (X : lx_ p l s m meth c b L xs D A) {cells slots : Nat} (hc : cells + 1 ≤ room_1.cells) (hsl : slots + 6 ≤ room_1.slots) (x4 : Int32) (h1 : vp_in (x4 + 1) L) (h2 : vp_in (x4 + 2) L) (h3 : vp_in (x4 + 3) L) (h4 : vp_in (x4 + 4) L) (h5 : vp_in (x4 + 5) L) (h6 : vp_in (x4 + 6) L) (σ : KS) (ρ : RS) (f : Nat → Int64) (sim : ∀ x1 x2 x3 x4 x5 x6 : Int32, (∃ (v : Int32) (u : KS) (z : Int32 × RS), f_Ke_access σ x1 x2 x3 x4 x5 x6 = some (.ok v, u) ∧ f_Mo_access ρ x1 x2 x3 x4 x5 x6 = some z ∧ I u z.2) ∨ (∃ (k : Nat) (u : KS) (z : Int32 × RS), (k = 1 ∨ k = 2 ∨ k = 3 ∨ k = 4) ∧ f_Ke_access σ x1 x2 x3 x4 x5 x6 = some (.error k, u) ∧ f_Mo_access ρ x1 x2 x3 x4 x5 x6 = some z ∧ I u z.2)) {H : Heap} {locs : List Loc} {ls : Array Slot} (hP : va_P D vwCl (kp_C A σ ρ f) H) (hD : va_D (fun q : Nat => s.heap.size ≤ q) (kp_C A σ ρ f)) (hS : va_S (fun q : Nat => s.heap.size ≤ q) s.heap H locs) (hl : lv_has ls 7 [(0, .ref b), (1, .ref (A 0)), (2, .ref (A 60)), (3, .ref (A 63)), (4, .int x4)])
    (kk : ∀ (u : KS) (ρ1 : RS) (f1 : Nat → Int64) (H : Heap) (locs : List Loc) (ls : Array Slot), I u ρ1 → va_P D vwCl (kp_C A u ρ1 f1) H → va_D (fun q : Nat => s.heap.size ≤ q) (kp_C A u ρ1 f1) → va_S (fun q : Nat => s.heap.size ≤ q) s.heap H locs → lv_has ls 7 [(0, .ref b), (1, .ref (A 0)), (2, .ref (A 60)), (3, .ref (A 63)), (4, .int x4)] → W p l e room_1 s m #[Value.ref b] below meth c H locs (cells + 1) (slots + 6) (lw_Z below #[Value.ref b] s) (F0 m 1453 ls [])) : W p l e room_1 s m #[Value.ref b] below meth c H locs cells slots (lw_Z below #[Value.ref b] s) (F0 m 1188 ls []) := by
  obtain ⟨hl9, S9, hX, hbl, hlk, hr, hC, X9⟩ := X
  obtain ⟨hx, hb, hml, hown, hts⟩ := id S9
  have hK := X9.2.1
  have hbA : ¬ (fun q : Nat => s.heap.size ≤ q) b := Nat.not_le.mpr hbl
  by_cases cb : xs (x4 + 5).toNatClampNeg = 0
  · rcases sim (xs (x4 + 1).toNatClampNeg) (xs (x4 + 2).toNatClampNeg) (xs (x4 + 3).toNatClampNeg) (xs (x4 + 4).toNatClampNeg) 0 (xs (x4 + 6).toNatClampNeg) with ⟨v, u, z, e1, e2, hI⟩ | ⟨k, u, z, hk, e1, e2, hI⟩
    · refine lv_aload_n hx hb d_La_law_1188 rfl (lv_at hl 1 rfl) ?_
      refine lv_aload_n hx hb d_La_law_1189 rfl (lv_at hl 0 rfl) ?_
      refine lv_iload hx hb d_La_law_1190 (lv_at hl 4 rfl) ?_
      refine lv_iconst (v := 1) hx hb d_La_law_1192 (by decide) ?_
      refine lv_iadd hx hb d_La_law_1193 ?_
      refine va_sld hx hb hX hbl hbA hS h1 d_La_law_1194 ?_
      refine lv_aload_n hx hb d_La_law_1195 rfl (lv_at hl 0 rfl) ?_
      refine lv_iload hx hb d_La_law_1196 (lv_at hl 4 rfl) ?_
      refine lv_iconst (v := 2) hx hb d_La_law_1198 (by decide) ?_
      refine lv_iadd hx hb d_La_law_1199 ?_
      refine va_sld hx hb hX hbl hbA hS h2 d_La_law_1200 ?_
      refine lv_aload_n hx hb d_La_law_1201 rfl (lv_at hl 0 rfl) ?_
      refine lv_iload hx hb d_La_law_1202 (lv_at hl 4 rfl) ?_
      refine lv_iconst (v := 3) hx hb d_La_law_1204 (by decide) ?_
      refine lv_iadd hx hb d_La_law_1205 ?_
      refine va_sld hx hb hX hbl hbA hS h3 d_La_law_1206 ?_
      refine lv_aload_n hx hb d_La_law_1207 rfl (lv_at hl 0 rfl) ?_
      refine lv_iload hx hb d_La_law_1208 (lv_at hl 4 rfl) ?_
      refine lv_iconst (v := 4) hx hb d_La_law_1210 (by decide) ?_
      refine lv_iadd hx hb d_La_law_1211 ?_
      refine va_sld hx hb hX hbl hbA hS h4 d_La_law_1212 ?_
      refine lv_aload_n hx hb d_La_law_1213 rfl (lv_at hl 0 rfl) ?_
      refine lv_iload hx hb d_La_law_1214 (lv_at hl 4 rfl) ?_
      refine lv_iconst (v := 5) hx hb d_La_law_1216 (by decide) ?_
      refine lv_iadd hx hb d_La_law_1217 ?_
      refine va_sld hx hb hX hbl hbA hS h5 d_La_law_1218 ?_
      refine lv_if_eq (tgt := 1226) hx hb d_La_law_1219 (by decide) (fun _ => ?_) (fun c9 => absurd cb c9)
      refine lv_iconst (v := 0) hx hb d_La_law_1226 (by decide) ?_
      refine lv_aload_n hx hb d_La_law_1227 rfl (lv_at hl 0 rfl) ?_
      refine lv_iload hx hb d_La_law_1228 (lv_at hl 4 rfl) ?_
      refine lv_bipush (v := 6) hx hb d_La_law_1230 (by decide) ?_
      refine lv_iadd hx hb d_La_law_1232 ?_
      refine va_sld hx hb hX hbl hbA hS h6 d_La_law_1233 ?_
      refine lv_aload_n hx hb d_La_law_1234 rfl (lv_at hl 3 rfl) ?_
      refine ka_i (vx_runSW (As := [.ref (A 0), .int (xs (x4 + 1).toNatClampNeg), .int (xs (x4 + 2).toNatClampNeg), .int (xs (x4 + 3).toNatClampNeg), .int (xs (x4 + 4).toNatClampNeg), .int 0, .int (xs (x4 + 6).toNatClampNeg), .ref (A 63)]) (rest := []) S9 (c_La_access_ok l hl9 D A (MW A ρ []) f _ σ (xs (x4 + 1).toNatClampNeg) (xs (x4 + 2).toNatClampNeg) (xs (x4 + 3).toNatClampNeg) (xs (x4 + 4).toNatClampNeg) 0 (xs (x4 + 6).toNatClampNeg) v u e1) (vx_cwSW 8 hts (tg_SW wl_La_153 ws_La_access wi_La wo_La_access) rfl rfl rfl wq_La_access.2 ⟨Nat.le_of_ble_eq_true rfl, Nat.le_of_ble_eq_true rfl⟩) (ka_preC X9 hC hP hD hS) rfl rfl hl.1 rfl (lv_room (Nat.le_of_ble_eq_true rfl)) d_La_law_1235 ⟨Nat.le_trans (Nat.le_succ _) hc, Nat.le_trans (Nat.le_add_right _ 6) hsl⟩) X9 hD hS rfl (fun H locs hP hD hS => ?_)
      refine lv_istore (lv' := (5, .int 0) :: [(0, .ref b), (1, .ref (A 0)), (2, .ref (A 60)), (3, .ref (A 63)), (4, .int x4)]) hx hb d_La_law_1238 hl (by decide) rfl (fun ls hl => ?_)
      refine lv_aload_n hx hb d_La_law_1240 rfl (lv_at hl 3 rfl) ?_
      refine lv_aload_n hx hb d_La_law_1241 rfl (lv_at hl 1 rfl) ?_
      refine lv_iload hx hb d_La_law_1242 (lv_at hl 5 rfl) ?_
      refine lv_iconst (v := 1) hx hb d_La_law_1244 (by decide) ?_
      refine lv_iadd hx hb d_La_law_1245 ?_
      refine va_sld hx hb hX hbl hbA hS h1 d_La_law_1246 ?_
      refine lv_aload_n hx hb d_La_law_1247 rfl (lv_at hl 1 rfl) ?_
      refine lv_iload hx hb d_La_law_1248 (lv_at hl 5 rfl) ?_
      refine lv_iconst (v := 2) hx hb d_La_law_1250 (by decide) ?_
      refine lv_iadd hx hb d_La_law_1251 ?_
      refine va_sld hx hb hX hbl hbA hS h2 d_La_law_1252 ?_
      refine lv_aload_n hx hb d_La_law_1253 rfl (lv_at hl 1 rfl) ?_
      refine lv_iload hx hb d_La_law_1254 (lv_at hl 5 rfl) ?_
      refine lv_iconst (v := 3) hx hb d_La_law_1256 (by decide) ?_
      refine lv_iadd hx hb d_La_law_1257 ?_
      refine va_sld hx hb hX hbl hbA hS h3 d_La_law_1258 ?_
      refine lv_aload_n hx hb d_La_law_1259 rfl (lv_at hl 1 rfl) ?_
      refine lv_iload hx hb d_La_law_1260 (lv_at hl 5 rfl) ?_
      refine lv_iconst (v := 4) hx hb d_La_law_1262 (by decide) ?_
      refine lv_iadd hx hb d_La_law_1263 ?_
      refine va_sld hx hb hX hbl hbA hS h4 d_La_law_1264 ?_
      refine lv_aload_n hx hb d_La_law_1265 rfl (lv_at hl 1 rfl) ?_
      refine lv_iload hx hb d_La_law_1266 (lv_at hl 5 rfl) ?_
      refine lv_iconst (v := 5) hx hb d_La_law_1268 (by decide) ?_
      refine lv_iadd hx hb d_La_law_1269 ?_
      refine va_sld hx hb hX hbl hbA hS h5 d_La_law_1270 ?_
      refine lv_if_eq (tgt := 1278) hx hb d_La_law_1271 (by decide) (fun _ => ?_) (fun c9 => absurd cb c9)
      refine lv_iconst (v := 0) hx hb d_La_law_1278 (by decide) ?_
      refine lv_aload_n hx hb d_La_law_1279 rfl (lv_at hl 1 rfl) ?_
      refine lv_iload hx hb d_La_law_1280 (lv_at hl 5 rfl) ?_
      refine lv_bipush (v := 6) hx hb d_La_law_1282 (by decide) ?_
      refine lv_iadd hx hb d_La_law_1284 ?_
      refine va_sld hx hb hX hbl hbA hS h6 d_La_law_1285 ?_
      replace hP := kp_P (kp_perm A u ρ (vp_updL f 0 v.toInt64)) hP
      replace hD := kp_D (kp_perm A u ρ (vp_updL f 0 v.toInt64)) hD
      refine ka_i (va_runV (As := [.int (xs (x4 + 1).toNatClampNeg), .int (xs (x4 + 2).toNatClampNeg), .int (xs (x4 + 3).toNatClampNeg), .int (xs (x4 + 4).toNatClampNeg), .int 0, .int (xs (x4 + 6).toNatClampNeg)]) (rest := []) S9 (c_Mo_access l hl9 D A (GW A u [ka_oc A (vp_updL f 0 v.toInt64)]) _ ρ (xs (x4 + 1).toNatClampNeg) (xs (x4 + 2).toNatClampNeg) (xs (x4 + 3).toNatClampNeg) (xs (x4 + 4).toNatClampNeg) 0 (xs (x4 + 6).toNatClampNeg) z e2) (cwV 6 hts (tg_V wl_La_156 wm_Mo_access we_Mo_access wi_Mo wo_Mo_access) rfl rfl rfl wq_Mo_access ⟨Nat.le_of_ble_eq_true rfl, Nat.le_of_ble_eq_true rfl⟩) (ka_preV X9 hP hD hS 0 rfl rfl) rfl rfl hl.1 rfl (lv_room (Nat.le_of_ble_eq_true rfl)) d_La_law_1286 ⟨Nat.le_trans (Nat.le_succ _) hc, Nat.le_trans (Nat.le_add_right _ 6) hsl⟩) X9 hD hS rfl (fun H locs hP hD hS => ?_)
      refine lv_istore (lv' := (6, .int z.1) :: (5, .int 0) :: [(0, .ref b), (1, .ref (A 0)), (2, .ref (A 60)), (3, .ref (A 63)), (4, .int x4)]) hx hb d_La_law_1289 hl (by decide) rfl (fun ls hl => ?_)
      replace hP := kp_P (kp_perm A u z.2 (vp_updL f 0 v.toInt64)).symm hP
      replace hD := kp_D (kp_perm A u z.2 (vp_updL f 0 v.toInt64)).symm hD
      refine lv_goto (tgt := 1453) hx hb d_La_law_1291 (by decide) ?_
      refine W.widen (k := cells + 1) (n := slots + 6) (by omega) (by omega) ?_
      exact kk u z.2 (vp_updL f 0 v.toInt64) _ _ _ hI hP hD hS (lv_sub hl [2, 3, 4, 5, 6] rfl)
    refine lv_aload_n hx hb d_La_law_1188 rfl (lv_at hl 1 rfl) ?_
    refine lv_aload_n hx hb d_La_law_1189 rfl (lv_at hl 0 rfl) ?_
    refine lv_iload hx hb d_La_law_1190 (lv_at hl 4 rfl) ?_
    refine lv_iconst (v := 1) hx hb d_La_law_1192 (by decide) ?_
    refine lv_iadd hx hb d_La_law_1193 ?_
    refine va_sld hx hb hX hbl hbA hS h1 d_La_law_1194 ?_
    refine lv_aload_n hx hb d_La_law_1195 rfl (lv_at hl 0 rfl) ?_
    refine lv_iload hx hb d_La_law_1196 (lv_at hl 4 rfl) ?_
    refine lv_iconst (v := 2) hx hb d_La_law_1198 (by decide) ?_
    refine lv_iadd hx hb d_La_law_1199 ?_
    refine va_sld hx hb hX hbl hbA hS h2 d_La_law_1200 ?_
    refine lv_aload_n hx hb d_La_law_1201 rfl (lv_at hl 0 rfl) ?_
    refine lv_iload hx hb d_La_law_1202 (lv_at hl 4 rfl) ?_
    refine lv_iconst (v := 3) hx hb d_La_law_1204 (by decide) ?_
    refine lv_iadd hx hb d_La_law_1205 ?_
    refine va_sld hx hb hX hbl hbA hS h3 d_La_law_1206 ?_
    refine lv_aload_n hx hb d_La_law_1207 rfl (lv_at hl 0 rfl) ?_
    refine lv_iload hx hb d_La_law_1208 (lv_at hl 4 rfl) ?_
    refine lv_iconst (v := 4) hx hb d_La_law_1210 (by decide) ?_
    refine lv_iadd hx hb d_La_law_1211 ?_
    refine va_sld hx hb hX hbl hbA hS h4 d_La_law_1212 ?_
    refine lv_aload_n hx hb d_La_law_1213 rfl (lv_at hl 0 rfl) ?_
    refine lv_iload hx hb d_La_law_1214 (lv_at hl 4 rfl) ?_
    refine lv_iconst (v := 5) hx hb d_La_law_1216 (by decide) ?_
    refine lv_iadd hx hb d_La_law_1217 ?_
    refine va_sld hx hb hX hbl hbA hS h5 d_La_law_1218 ?_
    refine lv_if_eq (tgt := 1226) hx hb d_La_law_1219 (by decide) (fun _ => ?_) (fun c9 => absurd cb c9)
    refine lv_iconst (v := 0) hx hb d_La_law_1226 (by decide) ?_
    refine lv_aload_n hx hb d_La_law_1227 rfl (lv_at hl 0 rfl) ?_
    refine lv_iload hx hb d_La_law_1228 (lv_at hl 4 rfl) ?_
    refine lv_bipush (v := 6) hx hb d_La_law_1230 (by decide) ?_
    refine lv_iadd hx hb d_La_law_1232 ?_
    refine va_sld hx hb hX hbl hbA hS h6 d_La_law_1233 ?_
    refine lv_aload_n hx hb d_La_law_1234 rfl (lv_at hl 3 rfl) ?_
    refine ka_i (vx_runSW (As := [.ref (A 0), .int (xs (x4 + 1).toNatClampNeg), .int (xs (x4 + 2).toNatClampNeg), .int (xs (x4 + 3).toNatClampNeg), .int (xs (x4 + 4).toNatClampNeg), .int 0, .int (xs (x4 + 6).toNatClampNeg), .ref (A 63)]) (rest := []) S9 (c_La_access_err l hl9 D A (MW A ρ []) f _ σ (xs (x4 + 1).toNatClampNeg) (xs (x4 + 2).toNatClampNeg) (xs (x4 + 3).toNatClampNeg) (xs (x4 + 4).toNatClampNeg) 0 (xs (x4 + 6).toNatClampNeg) k hk u e1) (vx_cwSW 8 hts (tg_SW wl_La_153 ws_La_access wi_La wo_La_access) rfl rfl rfl wq_La_access.2 ⟨Nat.le_of_ble_eq_true rfl, Nat.le_of_ble_eq_true rfl⟩) (ka_preC X9 hC hP hD hS) rfl rfl hl.1 rfl (lv_room (Nat.le_of_ble_eq_true rfl)) d_La_law_1235 ⟨hc, hsl⟩) X9 hD hS rfl (fun H locs hP hD hS => ?_)
    refine lv_istore (lv' := (5, .int (nI k)) :: [(0, .ref b), (1, .ref (A 0)), (2, .ref (A 60)), (3, .ref (A 63)), (4, .int x4)]) hx hb d_La_law_1238 hl (by decide) rfl (fun ls hl => ?_)
    refine lv_aload_n hx hb d_La_law_1240 rfl (lv_at hl 3 rfl) ?_
    refine lv_aload_n hx hb d_La_law_1241 rfl (lv_at hl 1 rfl) ?_
    refine lv_iload hx hb d_La_law_1242 (lv_at hl 5 rfl) ?_
    refine lv_iconst (v := 1) hx hb d_La_law_1244 (by decide) ?_
    refine lv_iadd hx hb d_La_law_1245 ?_
    refine va_sld hx hb hX hbl hbA hS h1 d_La_law_1246 ?_
    refine lv_aload_n hx hb d_La_law_1247 rfl (lv_at hl 1 rfl) ?_
    refine lv_iload hx hb d_La_law_1248 (lv_at hl 5 rfl) ?_
    refine lv_iconst (v := 2) hx hb d_La_law_1250 (by decide) ?_
    refine lv_iadd hx hb d_La_law_1251 ?_
    refine va_sld hx hb hX hbl hbA hS h2 d_La_law_1252 ?_
    refine lv_aload_n hx hb d_La_law_1253 rfl (lv_at hl 1 rfl) ?_
    refine lv_iload hx hb d_La_law_1254 (lv_at hl 5 rfl) ?_
    refine lv_iconst (v := 3) hx hb d_La_law_1256 (by decide) ?_
    refine lv_iadd hx hb d_La_law_1257 ?_
    refine va_sld hx hb hX hbl hbA hS h3 d_La_law_1258 ?_
    refine lv_aload_n hx hb d_La_law_1259 rfl (lv_at hl 1 rfl) ?_
    refine lv_iload hx hb d_La_law_1260 (lv_at hl 5 rfl) ?_
    refine lv_iconst (v := 4) hx hb d_La_law_1262 (by decide) ?_
    refine lv_iadd hx hb d_La_law_1263 ?_
    refine va_sld hx hb hX hbl hbA hS h4 d_La_law_1264 ?_
    refine lv_aload_n hx hb d_La_law_1265 rfl (lv_at hl 1 rfl) ?_
    refine lv_iload hx hb d_La_law_1266 (lv_at hl 5 rfl) ?_
    refine lv_iconst (v := 5) hx hb d_La_law_1268 (by decide) ?_
    refine lv_iadd hx hb d_La_law_1269 ?_
    refine va_sld hx hb hX hbl hbA hS h5 d_La_law_1270 ?_
    refine lv_if_eq (tgt := 1278) hx hb d_La_law_1271 (by decide) (fun _ => ?_) (fun c9 => absurd cb c9)
    refine lv_iconst (v := 0) hx hb d_La_law_1278 (by decide) ?_
    refine lv_aload_n hx hb d_La_law_1279 rfl (lv_at hl 1 rfl) ?_
    refine lv_iload hx hb d_La_law_1280 (lv_at hl 5 rfl) ?_
    refine lv_bipush (v := 6) hx hb d_La_law_1282 (by decide) ?_
    refine lv_iadd hx hb d_La_law_1284 ?_
    refine va_sld hx hb hX hbl hbA hS h6 d_La_law_1285 ?_
    replace hP := kp_P (kp_perm A u ρ f) hP
    replace hD := kp_D (kp_perm A u ρ f) hD
    refine ka_i (va_runV (As := [.int (xs (x4 + 1).toNatClampNeg), .int (xs (x4 + 2).toNatClampNeg), .int (xs (x4 + 3).toNatClampNeg), .int (xs (x4 + 4).toNatClampNeg), .int 0, .int (xs (x4 + 6).toNatClampNeg)]) (rest := []) S9 (c_Mo_access l hl9 D A (GW A u [ka_oc A f]) _ ρ (xs (x4 + 1).toNatClampNeg) (xs (x4 + 2).toNatClampNeg) (xs (x4 + 3).toNatClampNeg) (xs (x4 + 4).toNatClampNeg) 0 (xs (x4 + 6).toNatClampNeg) z e2) (cwV 6 hts (tg_V wl_La_156 wm_Mo_access we_Mo_access wi_Mo wo_Mo_access) rfl rfl rfl wq_Mo_access ⟨Nat.le_of_ble_eq_true rfl, Nat.le_of_ble_eq_true rfl⟩) (ka_preV X9 hP hD hS 0 rfl rfl) rfl rfl hl.1 rfl (lv_room (Nat.le_of_ble_eq_true rfl)) d_La_law_1286 ⟨hc, hsl⟩) X9 hD hS rfl (fun H locs hP hD hS => ?_)
    refine lv_istore (lv' := (6, .int z.1) :: (5, .int (nI k)) :: [(0, .ref b), (1, .ref (A 0)), (2, .ref (A 60)), (3, .ref (A 63)), (4, .int x4)]) hx hb d_La_law_1289 hl (by decide) rfl (fun ls hl => ?_)
    replace hP := kp_P (kp_perm A u z.2 f).symm hP
    replace hD := kp_D (kp_perm A u z.2 f).symm hD
    refine lv_goto (tgt := 1453) hx hb d_La_law_1291 (by decide) ?_
    refine W.widen (k := cells + 1) (n := slots + 6) (by omega) (by omega) ?_
    exact kk u z.2 f _ _ _ hI hP hD hS (lv_sub hl [2, 3, 4, 5, 6] rfl)
  rcases sim (xs (x4 + 1).toNatClampNeg) (xs (x4 + 2).toNatClampNeg) (xs (x4 + 3).toNatClampNeg) (xs (x4 + 4).toNatClampNeg) 1 (xs (x4 + 6).toNatClampNeg) with ⟨v, u, z, e1, e2, hI⟩ | ⟨k, u, z, hk, e1, e2, hI⟩
  · refine lv_aload_n hx hb d_La_law_1188 rfl (lv_at hl 1 rfl) ?_
    refine lv_aload_n hx hb d_La_law_1189 rfl (lv_at hl 0 rfl) ?_
    refine lv_iload hx hb d_La_law_1190 (lv_at hl 4 rfl) ?_
    refine lv_iconst (v := 1) hx hb d_La_law_1192 (by decide) ?_
    refine lv_iadd hx hb d_La_law_1193 ?_
    refine va_sld hx hb hX hbl hbA hS h1 d_La_law_1194 ?_
    refine lv_aload_n hx hb d_La_law_1195 rfl (lv_at hl 0 rfl) ?_
    refine lv_iload hx hb d_La_law_1196 (lv_at hl 4 rfl) ?_
    refine lv_iconst (v := 2) hx hb d_La_law_1198 (by decide) ?_
    refine lv_iadd hx hb d_La_law_1199 ?_
    refine va_sld hx hb hX hbl hbA hS h2 d_La_law_1200 ?_
    refine lv_aload_n hx hb d_La_law_1201 rfl (lv_at hl 0 rfl) ?_
    refine lv_iload hx hb d_La_law_1202 (lv_at hl 4 rfl) ?_
    refine lv_iconst (v := 3) hx hb d_La_law_1204 (by decide) ?_
    refine lv_iadd hx hb d_La_law_1205 ?_
    refine va_sld hx hb hX hbl hbA hS h3 d_La_law_1206 ?_
    refine lv_aload_n hx hb d_La_law_1207 rfl (lv_at hl 0 rfl) ?_
    refine lv_iload hx hb d_La_law_1208 (lv_at hl 4 rfl) ?_
    refine lv_iconst (v := 4) hx hb d_La_law_1210 (by decide) ?_
    refine lv_iadd hx hb d_La_law_1211 ?_
    refine va_sld hx hb hX hbl hbA hS h4 d_La_law_1212 ?_
    refine lv_aload_n hx hb d_La_law_1213 rfl (lv_at hl 0 rfl) ?_
    refine lv_iload hx hb d_La_law_1214 (lv_at hl 4 rfl) ?_
    refine lv_iconst (v := 5) hx hb d_La_law_1216 (by decide) ?_
    refine lv_iadd hx hb d_La_law_1217 ?_
    refine va_sld hx hb hX hbl hbA hS h5 d_La_law_1218 ?_
    refine lv_if_eq (tgt := 1226) hx hb d_La_law_1219 (by decide) (fun c9 => absurd c9 cb) (fun _ => ?_)
    refine lv_iconst (v := 1) hx hb d_La_law_1222 (by decide) ?_
    refine lv_goto (tgt := 1227) hx hb d_La_law_1223 (by decide) ?_
    refine lv_aload_n hx hb d_La_law_1227 rfl (lv_at hl 0 rfl) ?_
    refine lv_iload hx hb d_La_law_1228 (lv_at hl 4 rfl) ?_
    refine lv_bipush (v := 6) hx hb d_La_law_1230 (by decide) ?_
    refine lv_iadd hx hb d_La_law_1232 ?_
    refine va_sld hx hb hX hbl hbA hS h6 d_La_law_1233 ?_
    refine lv_aload_n hx hb d_La_law_1234 rfl (lv_at hl 3 rfl) ?_
    refine ka_i (vx_runSW (As := [.ref (A 0), .int (xs (x4 + 1).toNatClampNeg), .int (xs (x4 + 2).toNatClampNeg), .int (xs (x4 + 3).toNatClampNeg), .int (xs (x4 + 4).toNatClampNeg), .int 1, .int (xs (x4 + 6).toNatClampNeg), .ref (A 63)]) (rest := []) S9 (c_La_access_ok l hl9 D A (MW A ρ []) f _ σ (xs (x4 + 1).toNatClampNeg) (xs (x4 + 2).toNatClampNeg) (xs (x4 + 3).toNatClampNeg) (xs (x4 + 4).toNatClampNeg) 1 (xs (x4 + 6).toNatClampNeg) v u e1) (vx_cwSW 8 hts (tg_SW wl_La_153 ws_La_access wi_La wo_La_access) rfl rfl rfl wq_La_access.2 ⟨Nat.le_of_ble_eq_true rfl, Nat.le_of_ble_eq_true rfl⟩) (ka_preC X9 hC hP hD hS) rfl rfl hl.1 rfl (lv_room (Nat.le_of_ble_eq_true rfl)) d_La_law_1235 ⟨Nat.le_trans (Nat.le_succ _) hc, Nat.le_trans (Nat.le_add_right _ 6) hsl⟩) X9 hD hS rfl (fun H locs hP hD hS => ?_)
    refine lv_istore (lv' := (5, .int 0) :: [(0, .ref b), (1, .ref (A 0)), (2, .ref (A 60)), (3, .ref (A 63)), (4, .int x4)]) hx hb d_La_law_1238 hl (by decide) rfl (fun ls hl => ?_)
    refine lv_aload_n hx hb d_La_law_1240 rfl (lv_at hl 3 rfl) ?_
    refine lv_aload_n hx hb d_La_law_1241 rfl (lv_at hl 1 rfl) ?_
    refine lv_iload hx hb d_La_law_1242 (lv_at hl 5 rfl) ?_
    refine lv_iconst (v := 1) hx hb d_La_law_1244 (by decide) ?_
    refine lv_iadd hx hb d_La_law_1245 ?_
    refine va_sld hx hb hX hbl hbA hS h1 d_La_law_1246 ?_
    refine lv_aload_n hx hb d_La_law_1247 rfl (lv_at hl 1 rfl) ?_
    refine lv_iload hx hb d_La_law_1248 (lv_at hl 5 rfl) ?_
    refine lv_iconst (v := 2) hx hb d_La_law_1250 (by decide) ?_
    refine lv_iadd hx hb d_La_law_1251 ?_
    refine va_sld hx hb hX hbl hbA hS h2 d_La_law_1252 ?_
    refine lv_aload_n hx hb d_La_law_1253 rfl (lv_at hl 1 rfl) ?_
    refine lv_iload hx hb d_La_law_1254 (lv_at hl 5 rfl) ?_
    refine lv_iconst (v := 3) hx hb d_La_law_1256 (by decide) ?_
    refine lv_iadd hx hb d_La_law_1257 ?_
    refine va_sld hx hb hX hbl hbA hS h3 d_La_law_1258 ?_
    refine lv_aload_n hx hb d_La_law_1259 rfl (lv_at hl 1 rfl) ?_
    refine lv_iload hx hb d_La_law_1260 (lv_at hl 5 rfl) ?_
    refine lv_iconst (v := 4) hx hb d_La_law_1262 (by decide) ?_
    refine lv_iadd hx hb d_La_law_1263 ?_
    refine va_sld hx hb hX hbl hbA hS h4 d_La_law_1264 ?_
    refine lv_aload_n hx hb d_La_law_1265 rfl (lv_at hl 1 rfl) ?_
    refine lv_iload hx hb d_La_law_1266 (lv_at hl 5 rfl) ?_
    refine lv_iconst (v := 5) hx hb d_La_law_1268 (by decide) ?_
    refine lv_iadd hx hb d_La_law_1269 ?_
    refine va_sld hx hb hX hbl hbA hS h5 d_La_law_1270 ?_
    refine lv_if_eq (tgt := 1278) hx hb d_La_law_1271 (by decide) (fun c9 => absurd c9 cb) (fun _ => ?_)
    refine lv_iconst (v := 1) hx hb d_La_law_1274 (by decide) ?_
    refine lv_goto (tgt := 1279) hx hb d_La_law_1275 (by decide) ?_
    refine lv_aload_n hx hb d_La_law_1279 rfl (lv_at hl 1 rfl) ?_
    refine lv_iload hx hb d_La_law_1280 (lv_at hl 5 rfl) ?_
    refine lv_bipush (v := 6) hx hb d_La_law_1282 (by decide) ?_
    refine lv_iadd hx hb d_La_law_1284 ?_
    refine va_sld hx hb hX hbl hbA hS h6 d_La_law_1285 ?_
    replace hP := kp_P (kp_perm A u ρ (vp_updL f 0 v.toInt64)) hP
    replace hD := kp_D (kp_perm A u ρ (vp_updL f 0 v.toInt64)) hD
    refine ka_i (va_runV (As := [.int (xs (x4 + 1).toNatClampNeg), .int (xs (x4 + 2).toNatClampNeg), .int (xs (x4 + 3).toNatClampNeg), .int (xs (x4 + 4).toNatClampNeg), .int 1, .int (xs (x4 + 6).toNatClampNeg)]) (rest := []) S9 (c_Mo_access l hl9 D A (GW A u [ka_oc A (vp_updL f 0 v.toInt64)]) _ ρ (xs (x4 + 1).toNatClampNeg) (xs (x4 + 2).toNatClampNeg) (xs (x4 + 3).toNatClampNeg) (xs (x4 + 4).toNatClampNeg) 1 (xs (x4 + 6).toNatClampNeg) z e2) (cwV 6 hts (tg_V wl_La_156 wm_Mo_access we_Mo_access wi_Mo wo_Mo_access) rfl rfl rfl wq_Mo_access ⟨Nat.le_of_ble_eq_true rfl, Nat.le_of_ble_eq_true rfl⟩) (ka_preV X9 hP hD hS 0 rfl rfl) rfl rfl hl.1 rfl (lv_room (Nat.le_of_ble_eq_true rfl)) d_La_law_1286 ⟨Nat.le_trans (Nat.le_succ _) hc, Nat.le_trans (Nat.le_add_right _ 6) hsl⟩) X9 hD hS rfl (fun H locs hP hD hS => ?_)
    refine lv_istore (lv' := (6, .int z.1) :: (5, .int 0) :: [(0, .ref b), (1, .ref (A 0)), (2, .ref (A 60)), (3, .ref (A 63)), (4, .int x4)]) hx hb d_La_law_1289 hl (by decide) rfl (fun ls hl => ?_)
    replace hP := kp_P (kp_perm A u z.2 (vp_updL f 0 v.toInt64)).symm hP
    replace hD := kp_D (kp_perm A u z.2 (vp_updL f 0 v.toInt64)).symm hD
    refine lv_goto (tgt := 1453) hx hb d_La_law_1291 (by decide) ?_
    refine W.widen (k := cells + 1) (n := slots + 6) (by omega) (by omega) ?_
    exact kk u z.2 (vp_updL f 0 v.toInt64) _ _ _ hI hP hD hS (lv_sub hl [2, 3, 4, 5, 6] rfl)
  refine lv_aload_n hx hb d_La_law_1188 rfl (lv_at hl 1 rfl) ?_
  refine lv_aload_n hx hb d_La_law_1189 rfl (lv_at hl 0 rfl) ?_
  refine lv_iload hx hb d_La_law_1190 (lv_at hl 4 rfl) ?_
  refine lv_iconst (v := 1) hx hb d_La_law_1192 (by decide) ?_
  refine lv_iadd hx hb d_La_law_1193 ?_
  refine va_sld hx hb hX hbl hbA hS h1 d_La_law_1194 ?_
  refine lv_aload_n hx hb d_La_law_1195 rfl (lv_at hl 0 rfl) ?_
  refine lv_iload hx hb d_La_law_1196 (lv_at hl 4 rfl) ?_
  refine lv_iconst (v := 2) hx hb d_La_law_1198 (by decide) ?_
  refine lv_iadd hx hb d_La_law_1199 ?_
  refine va_sld hx hb hX hbl hbA hS h2 d_La_law_1200 ?_
  refine lv_aload_n hx hb d_La_law_1201 rfl (lv_at hl 0 rfl) ?_
  refine lv_iload hx hb d_La_law_1202 (lv_at hl 4 rfl) ?_
  refine lv_iconst (v := 3) hx hb d_La_law_1204 (by decide) ?_
  refine lv_iadd hx hb d_La_law_1205 ?_
  refine va_sld hx hb hX hbl hbA hS h3 d_La_law_1206 ?_
  refine lv_aload_n hx hb d_La_law_1207 rfl (lv_at hl 0 rfl) ?_
  refine lv_iload hx hb d_La_law_1208 (lv_at hl 4 rfl) ?_
  refine lv_iconst (v := 4) hx hb d_La_law_1210 (by decide) ?_
  refine lv_iadd hx hb d_La_law_1211 ?_
  refine va_sld hx hb hX hbl hbA hS h4 d_La_law_1212 ?_
  refine lv_aload_n hx hb d_La_law_1213 rfl (lv_at hl 0 rfl) ?_
  refine lv_iload hx hb d_La_law_1214 (lv_at hl 4 rfl) ?_
  refine lv_iconst (v := 5) hx hb d_La_law_1216 (by decide) ?_
  refine lv_iadd hx hb d_La_law_1217 ?_
  refine va_sld hx hb hX hbl hbA hS h5 d_La_law_1218 ?_
  refine lv_if_eq (tgt := 1226) hx hb d_La_law_1219 (by decide) (fun c9 => absurd c9 cb) (fun _ => ?_)
  refine lv_iconst (v := 1) hx hb d_La_law_1222 (by decide) ?_
  refine lv_goto (tgt := 1227) hx hb d_La_law_1223 (by decide) ?_
  refine lv_aload_n hx hb d_La_law_1227 rfl (lv_at hl 0 rfl) ?_
  refine lv_iload hx hb d_La_law_1228 (lv_at hl 4 rfl) ?_
  refine lv_bipush (v := 6) hx hb d_La_law_1230 (by decide) ?_
  refine lv_iadd hx hb d_La_law_1232 ?_
  refine va_sld hx hb hX hbl hbA hS h6 d_La_law_1233 ?_
  refine lv_aload_n hx hb d_La_law_1234 rfl (lv_at hl 3 rfl) ?_
  refine ka_i (vx_runSW (As := [.ref (A 0), .int (xs (x4 + 1).toNatClampNeg), .int (xs (x4 + 2).toNatClampNeg), .int (xs (x4 + 3).toNatClampNeg), .int (xs (x4 + 4).toNatClampNeg), .int 1, .int (xs (x4 + 6).toNatClampNeg), .ref (A 63)]) (rest := []) S9 (c_La_access_err l hl9 D A (MW A ρ []) f _ σ (xs (x4 + 1).toNatClampNeg) (xs (x4 + 2).toNatClampNeg) (xs (x4 + 3).toNatClampNeg) (xs (x4 + 4).toNatClampNeg) 1 (xs (x4 + 6).toNatClampNeg) k hk u e1) (vx_cwSW 8 hts (tg_SW wl_La_153 ws_La_access wi_La wo_La_access) rfl rfl rfl wq_La_access.2 ⟨Nat.le_of_ble_eq_true rfl, Nat.le_of_ble_eq_true rfl⟩) (ka_preC X9 hC hP hD hS) rfl rfl hl.1 rfl (lv_room (Nat.le_of_ble_eq_true rfl)) d_La_law_1235 ⟨hc, hsl⟩) X9 hD hS rfl (fun H locs hP hD hS => ?_)
  refine lv_istore (lv' := (5, .int (nI k)) :: [(0, .ref b), (1, .ref (A 0)), (2, .ref (A 60)), (3, .ref (A 63)), (4, .int x4)]) hx hb d_La_law_1238 hl (by decide) rfl (fun ls hl => ?_)
  refine lv_aload_n hx hb d_La_law_1240 rfl (lv_at hl 3 rfl) ?_
  refine lv_aload_n hx hb d_La_law_1241 rfl (lv_at hl 1 rfl) ?_
  refine lv_iload hx hb d_La_law_1242 (lv_at hl 5 rfl) ?_
  refine lv_iconst (v := 1) hx hb d_La_law_1244 (by decide) ?_
  refine lv_iadd hx hb d_La_law_1245 ?_
  refine va_sld hx hb hX hbl hbA hS h1 d_La_law_1246 ?_
  refine lv_aload_n hx hb d_La_law_1247 rfl (lv_at hl 1 rfl) ?_
  refine lv_iload hx hb d_La_law_1248 (lv_at hl 5 rfl) ?_
  refine lv_iconst (v := 2) hx hb d_La_law_1250 (by decide) ?_
  refine lv_iadd hx hb d_La_law_1251 ?_
  refine va_sld hx hb hX hbl hbA hS h2 d_La_law_1252 ?_
  refine lv_aload_n hx hb d_La_law_1253 rfl (lv_at hl 1 rfl) ?_
  refine lv_iload hx hb d_La_law_1254 (lv_at hl 5 rfl) ?_
  refine lv_iconst (v := 3) hx hb d_La_law_1256 (by decide) ?_
  refine lv_iadd hx hb d_La_law_1257 ?_
  refine va_sld hx hb hX hbl hbA hS h3 d_La_law_1258 ?_
  refine lv_aload_n hx hb d_La_law_1259 rfl (lv_at hl 1 rfl) ?_
  refine lv_iload hx hb d_La_law_1260 (lv_at hl 5 rfl) ?_
  refine lv_iconst (v := 4) hx hb d_La_law_1262 (by decide) ?_
  refine lv_iadd hx hb d_La_law_1263 ?_
  refine va_sld hx hb hX hbl hbA hS h4 d_La_law_1264 ?_
  refine lv_aload_n hx hb d_La_law_1265 rfl (lv_at hl 1 rfl) ?_
  refine lv_iload hx hb d_La_law_1266 (lv_at hl 5 rfl) ?_
  refine lv_iconst (v := 5) hx hb d_La_law_1268 (by decide) ?_
  refine lv_iadd hx hb d_La_law_1269 ?_
  refine va_sld hx hb hX hbl hbA hS h5 d_La_law_1270 ?_
  refine lv_if_eq (tgt := 1278) hx hb d_La_law_1271 (by decide) (fun c9 => absurd c9 cb) (fun _ => ?_)
  refine lv_iconst (v := 1) hx hb d_La_law_1274 (by decide) ?_
  refine lv_goto (tgt := 1279) hx hb d_La_law_1275 (by decide) ?_
  refine lv_aload_n hx hb d_La_law_1279 rfl (lv_at hl 1 rfl) ?_
  refine lv_iload hx hb d_La_law_1280 (lv_at hl 5 rfl) ?_
  refine lv_bipush (v := 6) hx hb d_La_law_1282 (by decide) ?_
  refine lv_iadd hx hb d_La_law_1284 ?_
  refine va_sld hx hb hX hbl hbA hS h6 d_La_law_1285 ?_
  replace hP := kp_P (kp_perm A u ρ f) hP
  replace hD := kp_D (kp_perm A u ρ f) hD
  refine ka_i (va_runV (As := [.int (xs (x4 + 1).toNatClampNeg), .int (xs (x4 + 2).toNatClampNeg), .int (xs (x4 + 3).toNatClampNeg), .int (xs (x4 + 4).toNatClampNeg), .int 1, .int (xs (x4 + 6).toNatClampNeg)]) (rest := []) S9 (c_Mo_access l hl9 D A (GW A u [ka_oc A f]) _ ρ (xs (x4 + 1).toNatClampNeg) (xs (x4 + 2).toNatClampNeg) (xs (x4 + 3).toNatClampNeg) (xs (x4 + 4).toNatClampNeg) 1 (xs (x4 + 6).toNatClampNeg) z e2) (cwV 6 hts (tg_V wl_La_156 wm_Mo_access we_Mo_access wi_Mo wo_Mo_access) rfl rfl rfl wq_Mo_access ⟨Nat.le_of_ble_eq_true rfl, Nat.le_of_ble_eq_true rfl⟩) (ka_preV X9 hP hD hS 0 rfl rfl) rfl rfl hl.1 rfl (lv_room (Nat.le_of_ble_eq_true rfl)) d_La_law_1286 ⟨hc, hsl⟩) X9 hD hS rfl (fun H locs hP hD hS => ?_)
  refine lv_istore (lv' := (6, .int z.1) :: (5, .int (nI k)) :: [(0, .ref b), (1, .ref (A 0)), (2, .ref (A 60)), (3, .ref (A 63)), (4, .int x4)]) hx hb d_La_law_1289 hl (by decide) rfl (fun ls hl => ?_)
  replace hP := kp_P (kp_perm A u z.2 f).symm hP
  replace hD := kp_D (kp_perm A u z.2 f).symm hD
  refine lv_goto (tgt := 1453) hx hb d_La_law_1291 (by decide) ?_
  refine W.widen (k := cells + 1) (n := slots + 6) (by omega) (by omega) ?_
  exact kk u z.2 f _ _ _ hI hP hD hS (lv_sub hl [2, 3, 4, 5, 6] rfl)
set_option maxRecDepth 100000 in
set_option maxHeartbeats 4000000 in
theorem lc_19 {p : Program} {l : Launch} {e : Env} {s : State} {m : MethodId} {below : List Frame} {meth : Method} {c : Code} {b L : Nat} {xs : Nat → Int32} {D : va_G} {A : Nat → Nat} (I : KS → RS → Prop) (X : lx_ p l s m meth c b L xs D A) {cells slots : Nat} (hc : cells + 1 ≤ room_1.cells) (hsl : slots + 6 ≤ room_1.slots) (x4 : Int32)  (σ : KS) (ρ : RS) (f : Nat → Int64) (sim : ∃ (v : Int32 × KS) (z : Int32 × RS), f_Ke_snapshot σ = some v ∧ f_Mo_snapshot ρ = some z ∧ I v.2 z.2) {H : Heap} {locs : List Loc} {ls : Array Slot} (hP : va_P D vwCl (kp_C A σ ρ f) H) (hD : va_D (fun q : Nat => s.heap.size ≤ q) (kp_C A σ ρ f)) (hS : va_S (fun q : Nat => s.heap.size ≤ q) s.heap H locs) (hl : lv_has ls 7 [(0, .ref b), (1, .ref (A 0)), (2, .ref (A 60)), (3, .ref (A 63)), (4, .int x4)])
    (kk : ∀ (u : KS) (ρ1 : RS) (f1 : Nat → Int64) (H : Heap) (locs : List Loc) (ls : Array Slot), I u ρ1 → va_P D vwCl (kp_C A u ρ1 f1) H → va_D (fun q : Nat => s.heap.size ≤ q) (kp_C A u ρ1 f1) → va_S (fun q : Nat => s.heap.size ≤ q) s.heap H locs → lv_has ls 7 [(0, .ref b), (1, .ref (A 0)), (2, .ref (A 60)), (3, .ref (A 63)), (4, .int x4)] → W p l e room_1 s m #[Value.ref b] below meth c H locs (cells + 1) (slots + 6) (lw_Z below #[Value.ref b] s) (F0 m 1453 ls [])) : W p l e room_1 s m #[Value.ref b] below meth c H locs cells slots (lw_Z below #[Value.ref b] s) (F0 m 1294 ls []) := by
  obtain ⟨hl9, S9, hX, hbl, hlk, hr, hC, X9⟩ := X
  obtain ⟨hx, hb, hml, hown, hts⟩ := id S9
  have hK := X9.2.1
  have hbA : ¬ (fun q : Nat => s.heap.size ≤ q) b := Nat.not_le.mpr hbl
  obtain ⟨v, z, e1, e2, hI⟩ := sim
  refine lv_aload_n hx hb d_La_law_1294 rfl (lv_at hl 1 rfl) ?_
  refine ka_i (va_runV (As := []) (rest := []) S9 (c_Ke_snapshot l hl9 D A (ka_oc A f :: MW A ρ []) _ σ v e1) (cwV 0 hts (tg_V wl_La_157 wm_Ke_snapshot we_Ke_snapshot wi_Ke wo_Ke_snapshot) rfl rfl rfl wq_Ke_snapshot ⟨Nat.le_of_ble_eq_true rfl, Nat.le_of_ble_eq_true rfl⟩) (ka_preV X9 hP hD hS 0 rfl rfl) rfl rfl hl.1 rfl (lv_room (Nat.le_of_ble_eq_true rfl)) d_La_law_1295 ⟨Nat.le_trans (Nat.le_succ _) hc, Nat.le_trans (Nat.le_add_right _ 6) hsl⟩) X9 hD hS rfl (fun H locs hP hD hS => ?_)
  refine lv_pop hx hb d_La_law_1298 rfl ?_
  refine lv_aload_n hx hb d_La_law_1299 rfl (lv_at hl 2 rfl) ?_
  replace hP := kp_P (kp_perm A v.2 ρ f) hP
  replace hD := kp_D (kp_perm A v.2 ρ f) hD
  refine ka_i (va_runV (As := []) (rest := []) S9 (c_Mo_snapshot l hl9 D A (GW A v.2 [ka_oc A f]) _ ρ z e2) (cwV 0 hts (tg_V wl_La_161 wm_Mo_snapshot we_Mo_snapshot wi_Mo wo_Mo_snapshot) rfl rfl rfl wq_Mo_snapshot ⟨Nat.le_of_ble_eq_true rfl, Nat.le_of_ble_eq_true rfl⟩) (ka_preV X9 hP hD hS 0 rfl rfl) rfl rfl hl.1 rfl (lv_room (Nat.le_of_ble_eq_true rfl)) d_La_law_1300 ⟨Nat.le_trans (Nat.le_succ _) hc, Nat.le_trans (Nat.le_add_right _ 6) hsl⟩) X9 hD hS rfl (fun H locs hP hD hS => ?_)
  replace hP := kp_P (kp_perm A v.2 z.2 f).symm hP
  replace hD := kp_D (kp_perm A v.2 z.2 f).symm hD
  refine lv_pop hx hb d_La_law_1303 rfl ?_
  refine lv_goto (tgt := 1453) hx hb d_La_law_1304 (by decide) ?_
  refine W.widen (k := cells + 1) (n := slots + 6) (by omega) (by omega) ?_
  exact kk v.2 z.2 f _ _ _ hI hP hD hS hl
set_option maxRecDepth 100000 in
set_option maxHeartbeats 4000000 in
theorem lc_20 {p : Program} {l : Launch} {e : Env} {s : State} {m : MethodId} {below : List Frame} {meth : Method} {c : Code} {b L : Nat} {xs : Nat → Int32} {D : va_G} {A : Nat → Nat} (I : KS → RS → Prop) (X : lx_ p l s m meth c b L xs D A) {cells slots : Nat} (hc : cells + 1 ≤ room_1.cells) (hsl : slots + 6 ≤ room_1.slots) (x4 : Int32)  (σ : KS) (ρ : RS) (f : Nat → Int64) (sim : ∃ (v : Int32 × KS) (z : Int32 × RS), f_Ke_crash σ = some v ∧ f_Mo_crash ρ = some z ∧ I v.2 z.2) {H : Heap} {locs : List Loc} {ls : Array Slot} (hP : va_P D vwCl (kp_C A σ ρ f) H) (hD : va_D (fun q : Nat => s.heap.size ≤ q) (kp_C A σ ρ f)) (hS : va_S (fun q : Nat => s.heap.size ≤ q) s.heap H locs) (hl : lv_has ls 7 [(0, .ref b), (1, .ref (A 0)), (2, .ref (A 60)), (3, .ref (A 63)), (4, .int x4)])
    (kk : ∀ (u : KS) (ρ1 : RS) (f1 : Nat → Int64) (H : Heap) (locs : List Loc) (ls : Array Slot), I u ρ1 → va_P D vwCl (kp_C A u ρ1 f1) H → va_D (fun q : Nat => s.heap.size ≤ q) (kp_C A u ρ1 f1) → va_S (fun q : Nat => s.heap.size ≤ q) s.heap H locs → lv_has ls 7 [(0, .ref b), (1, .ref (A 0)), (2, .ref (A 60)), (3, .ref (A 63)), (4, .int x4)] → W p l e room_1 s m #[Value.ref b] below meth c H locs (cells + 1) (slots + 6) (lw_Z below #[Value.ref b] s) (F0 m 1453 ls [])) : W p l e room_1 s m #[Value.ref b] below meth c H locs cells slots (lw_Z below #[Value.ref b] s) (F0 m 1307 ls []) := by
  obtain ⟨hl9, S9, hX, hbl, hlk, hr, hC, X9⟩ := X
  obtain ⟨hx, hb, hml, hown, hts⟩ := id S9
  have hK := X9.2.1
  have hbA : ¬ (fun q : Nat => s.heap.size ≤ q) b := Nat.not_le.mpr hbl
  obtain ⟨v, z, e1, e2, hI⟩ := sim
  refine lv_aload_n hx hb d_La_law_1307 rfl (lv_at hl 1 rfl) ?_
  refine ka_i (va_runV (As := []) (rest := []) S9 (c_Ke_crash l hl9 D A (ka_oc A f :: MW A ρ []) _ σ v e1) (cwV 0 hts (tg_V wl_La_162 wm_Ke_crash we_Ke_crash wi_Ke wo_Ke_crash) rfl rfl rfl wq_Ke_crash ⟨Nat.le_of_ble_eq_true rfl, Nat.le_of_ble_eq_true rfl⟩) (ka_preV X9 hP hD hS 0 rfl rfl) rfl rfl hl.1 rfl (lv_room (Nat.le_of_ble_eq_true rfl)) d_La_law_1308 ⟨Nat.le_trans (Nat.le_succ _) hc, Nat.le_trans (Nat.le_add_right _ 6) hsl⟩) X9 hD hS rfl (fun H locs hP hD hS => ?_)
  refine lv_pop hx hb d_La_law_1311 rfl ?_
  refine lv_aload_n hx hb d_La_law_1312 rfl (lv_at hl 2 rfl) ?_
  replace hP := kp_P (kp_perm A v.2 ρ f) hP
  replace hD := kp_D (kp_perm A v.2 ρ f) hD
  refine ka_i (va_runV (As := []) (rest := []) S9 (c_Mo_crash l hl9 D A (GW A v.2 [ka_oc A f]) _ ρ z e2) (cwV 0 hts (tg_V wl_La_165 wm_Mo_crash we_Mo_crash wi_Mo wo_Mo_crash) rfl rfl rfl wq_Mo_crash ⟨Nat.le_of_ble_eq_true rfl, Nat.le_of_ble_eq_true rfl⟩) (ka_preV X9 hP hD hS 0 rfl rfl) rfl rfl hl.1 rfl (lv_room (Nat.le_of_ble_eq_true rfl)) d_La_law_1313 ⟨Nat.le_trans (Nat.le_succ _) hc, Nat.le_trans (Nat.le_add_right _ 6) hsl⟩) X9 hD hS rfl (fun H locs hP hD hS => ?_)
  replace hP := kp_P (kp_perm A v.2 z.2 f).symm hP
  replace hD := kp_D (kp_perm A v.2 z.2 f).symm hD
  refine lv_pop hx hb d_La_law_1316 rfl ?_
  refine lv_goto (tgt := 1453) hx hb d_La_law_1317 (by decide) ?_
  refine W.widen (k := cells + 1) (n := slots + 6) (by omega) (by omega) ?_
  exact kk v.2 z.2 f _ _ _ hI hP hD hS hl
set_option maxRecDepth 100000 in
set_option maxHeartbeats 4000000 in
theorem lc_21 {p : Program} {l : Launch} {e : Env} {s : State} {m : MethodId} {below : List Frame} {meth : Method} {c : Code} {b L : Nat} {xs : Nat → Int32} {D : va_G} {A : Nat → Nat} (I : KS → RS → Prop) (X : lx_ p l s m meth c b L xs D A) {cells slots : Nat} (hc : cells + 1 ≤ room_1.cells) (hsl : slots + 6 ≤ room_1.slots) (x4 : Int32) (h1 : vp_in (x4 + 1) L) (h2 : vp_in (x4 + 2) L) (σ : KS) (ρ : RS) (f : Nat → Int64) (sim : ∀ x1 x2 : Int32, (∃ (v : Int32) (u : KS) (z : Int32 × RS), f_Ke_object σ x1 x2 = some (.ok v, u) ∧ f_Mo_object ρ x1 x2 = some z ∧ I u z.2) ∨ (∃ (k : Nat) (u : KS) (z : Int32 × RS), (k = 1 ∨ k = 2 ∨ k = 3 ∨ k = 4) ∧ f_Ke_object σ x1 x2 = some (.error k, u) ∧ f_Mo_object ρ x1 x2 = some z ∧ I u z.2)) {H : Heap} {locs : List Loc} {ls : Array Slot} (hP : va_P D vwCl (kp_C A σ ρ f) H) (hD : va_D (fun q : Nat => s.heap.size ≤ q) (kp_C A σ ρ f)) (hS : va_S (fun q : Nat => s.heap.size ≤ q) s.heap H locs) (hl : lv_has ls 7 [(0, .ref b), (1, .ref (A 0)), (2, .ref (A 60)), (3, .ref (A 63)), (4, .int x4)])
    (kk : ∀ (u : KS) (ρ1 : RS) (f1 : Nat → Int64) (H : Heap) (locs : List Loc) (ls : Array Slot), I u ρ1 → va_P D vwCl (kp_C A u ρ1 f1) H → va_D (fun q : Nat => s.heap.size ≤ q) (kp_C A u ρ1 f1) → va_S (fun q : Nat => s.heap.size ≤ q) s.heap H locs → lv_has ls 7 [(0, .ref b), (1, .ref (A 0)), (2, .ref (A 60)), (3, .ref (A 63)), (4, .int x4)] → W p l e room_1 s m #[Value.ref b] below meth c H locs (cells + 1) (slots + 6) (lw_Z below #[Value.ref b] s) (F0 m 1453 ls [])) : W p l e room_1 s m #[Value.ref b] below meth c H locs cells slots (lw_Z below #[Value.ref b] s) (F0 m 1320 ls []) := by
  obtain ⟨hl9, S9, hX, hbl, hlk, hr, hC, X9⟩ := X
  obtain ⟨hx, hb, hml, hown, hts⟩ := id S9
  have hK := X9.2.1
  have hbA : ¬ (fun q : Nat => s.heap.size ≤ q) b := Nat.not_le.mpr hbl
  rcases sim (xs (x4 + 1).toNatClampNeg) (xs (x4 + 2).toNatClampNeg) with ⟨v, u, z, e1, e2, hI⟩ | ⟨k, u, z, hk, e1, e2, hI⟩
  · refine lv_aload_n hx hb d_La_law_1320 rfl (lv_at hl 1 rfl) ?_
    refine lv_aload_n hx hb d_La_law_1321 rfl (lv_at hl 0 rfl) ?_
    refine lv_iload hx hb d_La_law_1322 (lv_at hl 4 rfl) ?_
    refine lv_iconst (v := 1) hx hb d_La_law_1324 (by decide) ?_
    refine lv_iadd hx hb d_La_law_1325 ?_
    refine va_sld hx hb hX hbl hbA hS h1 d_La_law_1326 ?_
    refine lv_aload_n hx hb d_La_law_1327 rfl (lv_at hl 0 rfl) ?_
    refine lv_iload hx hb d_La_law_1328 (lv_at hl 4 rfl) ?_
    refine lv_iconst (v := 2) hx hb d_La_law_1330 (by decide) ?_
    refine lv_iadd hx hb d_La_law_1331 ?_
    refine va_sld hx hb hX hbl hbA hS h2 d_La_law_1332 ?_
    refine lv_aload_n hx hb d_La_law_1333 rfl (lv_at hl 3 rfl) ?_
    refine ka_i (vx_runSW (As := [.ref (A 0), .int (xs (x4 + 1).toNatClampNeg), .int (xs (x4 + 2).toNatClampNeg), .ref (A 63)]) (rest := []) S9 (c_La_object_ok l hl9 D A (MW A ρ []) f _ σ (xs (x4 + 1).toNatClampNeg) (xs (x4 + 2).toNatClampNeg) v u e1) (vx_cwSW 4 hts (tg_SW wl_La_166 ws_La_object wi_La wo_La_object) rfl rfl rfl wq_La_object.2 ⟨Nat.le_of_ble_eq_true rfl, Nat.le_of_ble_eq_true rfl⟩) (ka_preC X9 hC hP hD hS) rfl rfl hl.1 rfl (lv_room (Nat.le_of_ble_eq_true rfl)) d_La_law_1334 ⟨Nat.le_trans (Nat.le_succ _) hc, Nat.le_trans (Nat.le_add_right _ 6) hsl⟩) X9 hD hS rfl (fun H locs hP hD hS => ?_)
    refine lv_istore (lv' := (5, .int 0) :: [(0, .ref b), (1, .ref (A 0)), (2, .ref (A 60)), (3, .ref (A 63)), (4, .int x4)]) hx hb d_La_law_1337 hl (by decide) rfl (fun ls hl => ?_)
    refine lv_aload_n hx hb d_La_law_1339 rfl (lv_at hl 3 rfl) ?_
    refine lv_aload_n hx hb d_La_law_1340 rfl (lv_at hl 1 rfl) ?_
    refine lv_iload hx hb d_La_law_1341 (lv_at hl 5 rfl) ?_
    refine lv_iconst (v := 1) hx hb d_La_law_1343 (by decide) ?_
    refine lv_iadd hx hb d_La_law_1344 ?_
    refine va_sld hx hb hX hbl hbA hS h1 d_La_law_1345 ?_
    refine lv_aload_n hx hb d_La_law_1346 rfl (lv_at hl 1 rfl) ?_
    refine lv_iload hx hb d_La_law_1347 (lv_at hl 5 rfl) ?_
    refine lv_iconst (v := 2) hx hb d_La_law_1349 (by decide) ?_
    refine lv_iadd hx hb d_La_law_1350 ?_
    refine va_sld hx hb hX hbl hbA hS h2 d_La_law_1351 ?_
    replace hP := kp_P (kp_perm A u ρ (vp_updL f 0 v.toInt64)) hP
    replace hD := kp_D (kp_perm A u ρ (vp_updL f 0 v.toInt64)) hD
    refine ka_i (va_runV (As := [.int (xs (x4 + 1).toNatClampNeg), .int (xs (x4 + 2).toNatClampNeg)]) (rest := []) S9 (c_Mo_object l hl9 D A (GW A u [ka_oc A (vp_updL f 0 v.toInt64)]) _ ρ (xs (x4 + 1).toNatClampNeg) (xs (x4 + 2).toNatClampNeg) z e2) (cwV 2 hts (tg_V wl_La_168 wm_Mo_object we_Mo_object wi_Mo wo_Mo_object) rfl rfl rfl wq_Mo_object ⟨Nat.le_of_ble_eq_true rfl, Nat.le_of_ble_eq_true rfl⟩) (ka_preV X9 hP hD hS 0 rfl rfl) rfl rfl hl.1 rfl (lv_room (Nat.le_of_ble_eq_true rfl)) d_La_law_1352 ⟨Nat.le_trans (Nat.le_succ _) hc, Nat.le_trans (Nat.le_add_right _ 6) hsl⟩) X9 hD hS rfl (fun H locs hP hD hS => ?_)
    refine lv_istore (lv' := (6, .int z.1) :: (5, .int 0) :: [(0, .ref b), (1, .ref (A 0)), (2, .ref (A 60)), (3, .ref (A 63)), (4, .int x4)]) hx hb d_La_law_1355 hl (by decide) rfl (fun ls hl => ?_)
    replace hP := kp_P (kp_perm A u z.2 (vp_updL f 0 v.toInt64)).symm hP
    replace hD := kp_D (kp_perm A u z.2 (vp_updL f 0 v.toInt64)).symm hD
    refine lv_goto (tgt := 1453) hx hb d_La_law_1357 (by decide) ?_
    refine W.widen (k := cells + 1) (n := slots + 6) (by omega) (by omega) ?_
    exact kk u z.2 (vp_updL f 0 v.toInt64) _ _ _ hI hP hD hS (lv_sub hl [2, 3, 4, 5, 6] rfl)
  refine lv_aload_n hx hb d_La_law_1320 rfl (lv_at hl 1 rfl) ?_
  refine lv_aload_n hx hb d_La_law_1321 rfl (lv_at hl 0 rfl) ?_
  refine lv_iload hx hb d_La_law_1322 (lv_at hl 4 rfl) ?_
  refine lv_iconst (v := 1) hx hb d_La_law_1324 (by decide) ?_
  refine lv_iadd hx hb d_La_law_1325 ?_
  refine va_sld hx hb hX hbl hbA hS h1 d_La_law_1326 ?_
  refine lv_aload_n hx hb d_La_law_1327 rfl (lv_at hl 0 rfl) ?_
  refine lv_iload hx hb d_La_law_1328 (lv_at hl 4 rfl) ?_
  refine lv_iconst (v := 2) hx hb d_La_law_1330 (by decide) ?_
  refine lv_iadd hx hb d_La_law_1331 ?_
  refine va_sld hx hb hX hbl hbA hS h2 d_La_law_1332 ?_
  refine lv_aload_n hx hb d_La_law_1333 rfl (lv_at hl 3 rfl) ?_
  refine ka_i (vx_runSW (As := [.ref (A 0), .int (xs (x4 + 1).toNatClampNeg), .int (xs (x4 + 2).toNatClampNeg), .ref (A 63)]) (rest := []) S9 (c_La_object_err l hl9 D A (MW A ρ []) f _ σ (xs (x4 + 1).toNatClampNeg) (xs (x4 + 2).toNatClampNeg) k hk u e1) (vx_cwSW 4 hts (tg_SW wl_La_166 ws_La_object wi_La wo_La_object) rfl rfl rfl wq_La_object.2 ⟨Nat.le_of_ble_eq_true rfl, Nat.le_of_ble_eq_true rfl⟩) (ka_preC X9 hC hP hD hS) rfl rfl hl.1 rfl (lv_room (Nat.le_of_ble_eq_true rfl)) d_La_law_1334 ⟨hc, hsl⟩) X9 hD hS rfl (fun H locs hP hD hS => ?_)
  refine lv_istore (lv' := (5, .int (nI k)) :: [(0, .ref b), (1, .ref (A 0)), (2, .ref (A 60)), (3, .ref (A 63)), (4, .int x4)]) hx hb d_La_law_1337 hl (by decide) rfl (fun ls hl => ?_)
  refine lv_aload_n hx hb d_La_law_1339 rfl (lv_at hl 3 rfl) ?_
  refine lv_aload_n hx hb d_La_law_1340 rfl (lv_at hl 1 rfl) ?_
  refine lv_iload hx hb d_La_law_1341 (lv_at hl 5 rfl) ?_
  refine lv_iconst (v := 1) hx hb d_La_law_1343 (by decide) ?_
  refine lv_iadd hx hb d_La_law_1344 ?_
  refine va_sld hx hb hX hbl hbA hS h1 d_La_law_1345 ?_
  refine lv_aload_n hx hb d_La_law_1346 rfl (lv_at hl 1 rfl) ?_
  refine lv_iload hx hb d_La_law_1347 (lv_at hl 5 rfl) ?_
  refine lv_iconst (v := 2) hx hb d_La_law_1349 (by decide) ?_
  refine lv_iadd hx hb d_La_law_1350 ?_
  refine va_sld hx hb hX hbl hbA hS h2 d_La_law_1351 ?_
  replace hP := kp_P (kp_perm A u ρ f) hP
  replace hD := kp_D (kp_perm A u ρ f) hD
  refine ka_i (va_runV (As := [.int (xs (x4 + 1).toNatClampNeg), .int (xs (x4 + 2).toNatClampNeg)]) (rest := []) S9 (c_Mo_object l hl9 D A (GW A u [ka_oc A f]) _ ρ (xs (x4 + 1).toNatClampNeg) (xs (x4 + 2).toNatClampNeg) z e2) (cwV 2 hts (tg_V wl_La_168 wm_Mo_object we_Mo_object wi_Mo wo_Mo_object) rfl rfl rfl wq_Mo_object ⟨Nat.le_of_ble_eq_true rfl, Nat.le_of_ble_eq_true rfl⟩) (ka_preV X9 hP hD hS 0 rfl rfl) rfl rfl hl.1 rfl (lv_room (Nat.le_of_ble_eq_true rfl)) d_La_law_1352 ⟨hc, hsl⟩) X9 hD hS rfl (fun H locs hP hD hS => ?_)
  refine lv_istore (lv' := (6, .int z.1) :: (5, .int (nI k)) :: [(0, .ref b), (1, .ref (A 0)), (2, .ref (A 60)), (3, .ref (A 63)), (4, .int x4)]) hx hb d_La_law_1355 hl (by decide) rfl (fun ls hl => ?_)
  replace hP := kp_P (kp_perm A u z.2 f).symm hP
  replace hD := kp_D (kp_perm A u z.2 f).symm hD
  refine lv_goto (tgt := 1453) hx hb d_La_law_1357 (by decide) ?_
  refine W.widen (k := cells + 1) (n := slots + 6) (by omega) (by omega) ?_
  exact kk u z.2 f _ _ _ hI hP hD hS (lv_sub hl [2, 3, 4, 5, 6] rfl)
set_option maxRecDepth 100000 in
set_option maxHeartbeats 4000000 in
theorem lc_22 {p : Program} {l : Launch} {e : Env} {s : State} {m : MethodId} {below : List Frame} {meth : Method} {c : Code} {b L : Nat} {xs : Nat → Int32} {D : va_G} {A : Nat → Nat} (I : KS → RS → Prop) (X : lx_ p l s m meth c b L xs D A) {cells slots : Nat} (hc : cells + 1 ≤ room_1.cells) (hsl : slots + 6 ≤ room_1.slots) (x4 : Int32) (h1 : vp_in (x4 + 1) L) (h2 : vp_in (x4 + 2) L) (σ : KS) (ρ : RS) (f : Nat → Int64) (sim : ∀ x1 x2 : Int32, (∃ (v : Int32) (u : KS) (z : Int32 × RS), f_Ke_in σ x1 x2 = some (.ok v, u) ∧ f_Mo_in ρ x1 x2 = some z ∧ gM_code z.2 = 0 ∧ z.1 = v ∧ I u z.2) ∨ (∃ (k : Nat) (u : KS) (z : Int32 × RS), (k = 1 ∨ k = 2 ∨ k = 3 ∨ k = 4) ∧ f_Ke_in σ x1 x2 = some (.error k, u) ∧ f_Mo_in ρ x1 x2 = some z ∧ gM_code z.2 = nI k ∧ I u z.2)) {H : Heap} {locs : List Loc} {ls : Array Slot} (hP : va_P D vwCl (kp_C A σ ρ f) H) (hD : va_D (fun q : Nat => s.heap.size ≤ q) (kp_C A σ ρ f)) (hS : va_S (fun q : Nat => s.heap.size ≤ q) s.heap H locs) (hl : lv_has ls 7 [(0, .ref b), (1, .ref (A 0)), (2, .ref (A 60)), (3, .ref (A 63)), (4, .int x4)])
    (kk : ∀ (u : KS) (ρ1 : RS) (f1 : Nat → Int64) (H : Heap) (locs : List Loc) (ls : Array Slot), I u ρ1 → va_P D vwCl (kp_C A u ρ1 f1) H → va_D (fun q : Nat => s.heap.size ≤ q) (kp_C A u ρ1 f1) → va_S (fun q : Nat => s.heap.size ≤ q) s.heap H locs → lv_has ls 7 [(0, .ref b), (1, .ref (A 0)), (2, .ref (A 60)), (3, .ref (A 63)), (4, .int x4)] → W p l e room_1 s m #[Value.ref b] below meth c H locs (cells + 1) (slots + 6) (lw_Z below #[Value.ref b] s) (F0 m 1453 ls [])) : W p l e room_1 s m #[Value.ref b] below meth c H locs cells slots (lw_Z below #[Value.ref b] s) (F0 m 1360 ls []) := by
  obtain ⟨hl9, S9, hX, hbl, hlk, hr, hC, X9⟩ := X
  obtain ⟨hx, hb, hml, hown, hts⟩ := id S9
  have hK := X9.2.1
  have hbA : ¬ (fun q : Nat => s.heap.size ≤ q) b := Nat.not_le.mpr hbl
  rcases sim (xs (x4 + 1).toNatClampNeg) (xs (x4 + 2).toNatClampNeg) with ⟨v, u, z, e1, e2, hI⟩ | ⟨k, u, z, hk, e1, e2, hI⟩
  · refine lv_aload_n hx hb d_La_law_1360 rfl (lv_at hl 1 rfl) ?_
    refine lv_aload_n hx hb d_La_law_1361 rfl (lv_at hl 0 rfl) ?_
    refine lv_iload hx hb d_La_law_1362 (lv_at hl 4 rfl) ?_
    refine lv_iconst (v := 1) hx hb d_La_law_1364 (by decide) ?_
    refine lv_iadd hx hb d_La_law_1365 ?_
    refine va_sld hx hb hX hbl hbA hS h1 d_La_law_1366 ?_
    refine lv_aload_n hx hb d_La_law_1367 rfl (lv_at hl 0 rfl) ?_
    refine lv_iload hx hb d_La_law_1368 (lv_at hl 4 rfl) ?_
    refine lv_iconst (v := 2) hx hb d_La_law_1370 (by decide) ?_
    refine lv_iadd hx hb d_La_law_1371 ?_
    refine va_sld hx hb hX hbl hbA hS h2 d_La_law_1372 ?_
    refine lv_aload_n hx hb d_La_law_1373 rfl (lv_at hl 3 rfl) ?_
    refine ka_i (vx_runSW (As := [.ref (A 0), .int (xs (x4 + 1).toNatClampNeg), .int (xs (x4 + 2).toNatClampNeg), .ref (A 63)]) (rest := []) S9 (c_La_in_ok l hl9 D A (MW A ρ []) f _ σ (xs (x4 + 1).toNatClampNeg) (xs (x4 + 2).toNatClampNeg) v u e1) (vx_cwSW 4 hts (tg_SW wl_La_169 ws_La_in wi_La wo_La_in) rfl rfl rfl wq_La_in.2 ⟨Nat.le_of_ble_eq_true rfl, Nat.le_of_ble_eq_true rfl⟩) (ka_preC X9 hC hP hD hS) rfl rfl hl.1 rfl (lv_room (Nat.le_of_ble_eq_true rfl)) d_La_law_1374 ⟨Nat.le_trans (Nat.le_succ _) hc, Nat.le_trans (Nat.le_add_right _ 6) hsl⟩) X9 hD hS rfl (fun H locs hP hD hS => ?_)
    refine lv_istore (lv' := (5, .int 0) :: [(0, .ref b), (1, .ref (A 0)), (2, .ref (A 60)), (3, .ref (A 63)), (4, .int x4)]) hx hb d_La_law_1377 hl (by decide) rfl (fun ls hl => ?_)
    refine lv_aload_n hx hb d_La_law_1379 rfl (lv_at hl 3 rfl) ?_
    refine lv_aload_n hx hb d_La_law_1380 rfl (lv_at hl 1 rfl) ?_
    refine lv_iload hx hb d_La_law_1381 (lv_at hl 5 rfl) ?_
    refine lv_iconst (v := 1) hx hb d_La_law_1383 (by decide) ?_
    refine lv_iadd hx hb d_La_law_1384 ?_
    refine va_sld hx hb hX hbl hbA hS h1 d_La_law_1385 ?_
    refine lv_aload_n hx hb d_La_law_1386 rfl (lv_at hl 1 rfl) ?_
    refine lv_iload hx hb d_La_law_1387 (lv_at hl 5 rfl) ?_
    refine lv_iconst (v := 2) hx hb d_La_law_1389 (by decide) ?_
    refine lv_iadd hx hb d_La_law_1390 ?_
    refine va_sld hx hb hX hbl hbA hS h2 d_La_law_1391 ?_
    replace hP := kp_P (kp_perm A u ρ (vp_updL f 0 v.toInt64)) hP
    replace hD := kp_D (kp_perm A u ρ (vp_updL f 0 v.toInt64)) hD
    refine ka_i (va_runV (As := [.int (xs (x4 + 1).toNatClampNeg), .int (xs (x4 + 2).toNatClampNeg)]) (rest := []) S9 (c_Mo_in l hl9 D A (GW A u [ka_oc A (vp_updL f 0 v.toInt64)]) _ ρ (xs (x4 + 1).toNatClampNeg) (xs (x4 + 2).toNatClampNeg) z e2) (cwV 2 hts (tg_V wl_La_171 wm_Mo_in we_Mo_in wi_Mo wo_Mo_in) rfl rfl rfl wq_Mo_in ⟨Nat.le_of_ble_eq_true rfl, Nat.le_of_ble_eq_true rfl⟩) (ka_preV X9 hP hD hS 0 rfl rfl) rfl rfl hl.1 rfl (lv_room (Nat.le_of_ble_eq_true rfl)) d_La_law_1392 ⟨Nat.le_trans (Nat.le_succ _) hc, Nat.le_trans (Nat.le_add_right _ 6) hsl⟩) X9 hD hS rfl (fun H locs hP hD hS => ?_)
    refine lv_istore (lv' := (6, .int z.1) :: (5, .int 0) :: [(0, .ref b), (1, .ref (A 0)), (2, .ref (A 60)), (3, .ref (A 63)), (4, .int x4)]) hx hb d_La_law_1395 hl (by decide) rfl (fun ls hl => ?_)
    refine lv_aload_n hx hb d_La_law_1397 rfl (lv_at hl 4 rfl) ?_
    refine ka_i (va_runV (As := []) (rest := []) S9 (c_Mo_thrown l hl9 D A (GW A u [ka_oc A (vp_updL f 0 v.toInt64)]) _ z.2 (gM_code z.2) rfl) (cwV 0 hts (tg_V wl_La_172 wm_Mo_thrown we_Mo_thrown wi_Mo wo_Mo_thrown) rfl rfl rfl wq_Mo_thrown ⟨Nat.le_of_ble_eq_true rfl, Nat.le_of_ble_eq_true rfl⟩) (ka_preV X9 hP hD hS 0 rfl rfl) rfl rfl hl.1 rfl (lv_room (Nat.le_of_ble_eq_true rfl)) d_La_law_1398 ⟨Nat.le_trans (Nat.le_succ _) hc, Nat.le_trans (Nat.le_add_right _ 6) hsl⟩) X9 hD hS rfl (fun H locs hP hD hS => ?_)
    replace hP := kp_P (kp_perm A u z.2 (vp_updL f 0 v.toInt64)).symm hP
    replace hD := kp_D (kp_perm A u z.2 (vp_updL f 0 v.toInt64)).symm hD
    refine lv_iload hx hb d_La_law_1401 (lv_at hl 1 rfl) ?_
    refine lv_icmp_eq (tgt := 1408) hx hb d_La_law_1403 (by decide) (fun _ => ?_) (fun c9 => absurd hI.1 c9)
    refine lv_iload hx hb d_La_law_1408 (lv_at hl 1 rfl) ?_
    refine lv_if_ne (tgt := 1425) hx hb d_La_law_1410 (by decide) (fun c9 => absurd rfl c9) (fun _ => ?_)
    refine lv_aload_n hx hb d_La_law_1413 rfl (lv_at hl 5 rfl) ?_
    refine lv_iconst (v := 0) hx hb d_La_law_1414 (by decide) ?_
    refine va_lald hx hb hK hP 47 2 rfl rfl (by unfold vp_in; decide) d_La_law_1415 ?_
    refine lv_iload hx hb d_La_law_1416 (lv_at hl 0 rfl) ?_
    refine lv_i2l (v := z.1.toInt64) hx hb d_La_law_1418 rfl ?_
    refine W.lcmp hx hb d_La_law_1419 ?_
    refine lv_if_eq (tgt := 1425) hx hb d_La_law_1420 (by decide) (fun _ => ?_) (fun c9 => absurd (kp_cmp (by rw [hI.2.1]; rfl)) c9)
    refine lv_goto (tgt := 1453) hx hb d_La_law_1425 (by decide) ?_
    refine W.widen (k := cells + 1) (n := slots + 6) (by omega) (by omega) ?_
    exact kk u z.2 (vp_updL f 0 v.toInt64) _ _ _ hI.2.2 hP hD hS (lv_sub hl [2, 3, 4, 5, 6] rfl)
  refine lv_aload_n hx hb d_La_law_1360 rfl (lv_at hl 1 rfl) ?_
  refine lv_aload_n hx hb d_La_law_1361 rfl (lv_at hl 0 rfl) ?_
  refine lv_iload hx hb d_La_law_1362 (lv_at hl 4 rfl) ?_
  refine lv_iconst (v := 1) hx hb d_La_law_1364 (by decide) ?_
  refine lv_iadd hx hb d_La_law_1365 ?_
  refine va_sld hx hb hX hbl hbA hS h1 d_La_law_1366 ?_
  refine lv_aload_n hx hb d_La_law_1367 rfl (lv_at hl 0 rfl) ?_
  refine lv_iload hx hb d_La_law_1368 (lv_at hl 4 rfl) ?_
  refine lv_iconst (v := 2) hx hb d_La_law_1370 (by decide) ?_
  refine lv_iadd hx hb d_La_law_1371 ?_
  refine va_sld hx hb hX hbl hbA hS h2 d_La_law_1372 ?_
  refine lv_aload_n hx hb d_La_law_1373 rfl (lv_at hl 3 rfl) ?_
  refine ka_i (vx_runSW (As := [.ref (A 0), .int (xs (x4 + 1).toNatClampNeg), .int (xs (x4 + 2).toNatClampNeg), .ref (A 63)]) (rest := []) S9 (c_La_in_err l hl9 D A (MW A ρ []) f _ σ (xs (x4 + 1).toNatClampNeg) (xs (x4 + 2).toNatClampNeg) k hk u e1) (vx_cwSW 4 hts (tg_SW wl_La_169 ws_La_in wi_La wo_La_in) rfl rfl rfl wq_La_in.2 ⟨Nat.le_of_ble_eq_true rfl, Nat.le_of_ble_eq_true rfl⟩) (ka_preC X9 hC hP hD hS) rfl rfl hl.1 rfl (lv_room (Nat.le_of_ble_eq_true rfl)) d_La_law_1374 ⟨hc, hsl⟩) X9 hD hS rfl (fun H locs hP hD hS => ?_)
  refine lv_istore (lv' := (5, .int (nI k)) :: [(0, .ref b), (1, .ref (A 0)), (2, .ref (A 60)), (3, .ref (A 63)), (4, .int x4)]) hx hb d_La_law_1377 hl (by decide) rfl (fun ls hl => ?_)
  refine lv_aload_n hx hb d_La_law_1379 rfl (lv_at hl 3 rfl) ?_
  refine lv_aload_n hx hb d_La_law_1380 rfl (lv_at hl 1 rfl) ?_
  refine lv_iload hx hb d_La_law_1381 (lv_at hl 5 rfl) ?_
  refine lv_iconst (v := 1) hx hb d_La_law_1383 (by decide) ?_
  refine lv_iadd hx hb d_La_law_1384 ?_
  refine va_sld hx hb hX hbl hbA hS h1 d_La_law_1385 ?_
  refine lv_aload_n hx hb d_La_law_1386 rfl (lv_at hl 1 rfl) ?_
  refine lv_iload hx hb d_La_law_1387 (lv_at hl 5 rfl) ?_
  refine lv_iconst (v := 2) hx hb d_La_law_1389 (by decide) ?_
  refine lv_iadd hx hb d_La_law_1390 ?_
  refine va_sld hx hb hX hbl hbA hS h2 d_La_law_1391 ?_
  replace hP := kp_P (kp_perm A u ρ f) hP
  replace hD := kp_D (kp_perm A u ρ f) hD
  refine ka_i (va_runV (As := [.int (xs (x4 + 1).toNatClampNeg), .int (xs (x4 + 2).toNatClampNeg)]) (rest := []) S9 (c_Mo_in l hl9 D A (GW A u [ka_oc A f]) _ ρ (xs (x4 + 1).toNatClampNeg) (xs (x4 + 2).toNatClampNeg) z e2) (cwV 2 hts (tg_V wl_La_171 wm_Mo_in we_Mo_in wi_Mo wo_Mo_in) rfl rfl rfl wq_Mo_in ⟨Nat.le_of_ble_eq_true rfl, Nat.le_of_ble_eq_true rfl⟩) (ka_preV X9 hP hD hS 0 rfl rfl) rfl rfl hl.1 rfl (lv_room (Nat.le_of_ble_eq_true rfl)) d_La_law_1392 ⟨hc, hsl⟩) X9 hD hS rfl (fun H locs hP hD hS => ?_)
  refine lv_istore (lv' := (6, .int z.1) :: (5, .int (nI k)) :: [(0, .ref b), (1, .ref (A 0)), (2, .ref (A 60)), (3, .ref (A 63)), (4, .int x4)]) hx hb d_La_law_1395 hl (by decide) rfl (fun ls hl => ?_)
  refine lv_aload_n hx hb d_La_law_1397 rfl (lv_at hl 4 rfl) ?_
  refine ka_i (va_runV (As := []) (rest := []) S9 (c_Mo_thrown l hl9 D A (GW A u [ka_oc A f]) _ z.2 (gM_code z.2) rfl) (cwV 0 hts (tg_V wl_La_172 wm_Mo_thrown we_Mo_thrown wi_Mo wo_Mo_thrown) rfl rfl rfl wq_Mo_thrown ⟨Nat.le_of_ble_eq_true rfl, Nat.le_of_ble_eq_true rfl⟩) (ka_preV X9 hP hD hS 0 rfl rfl) rfl rfl hl.1 rfl (lv_room (Nat.le_of_ble_eq_true rfl)) d_La_law_1398 ⟨hc, hsl⟩) X9 hD hS rfl (fun H locs hP hD hS => ?_)
  replace hP := kp_P (kp_perm A u z.2 f).symm hP
  replace hD := kp_D (kp_perm A u z.2 f).symm hD
  refine lv_iload hx hb d_La_law_1401 (lv_at hl 1 rfl) ?_
  refine lv_icmp_eq (tgt := 1408) hx hb d_La_law_1403 (by decide) (fun _ => ?_) (fun c9 => absurd hI.1 c9)
  refine lv_iload hx hb d_La_law_1408 (lv_at hl 1 rfl) ?_
  refine lv_if_ne (tgt := 1425) hx hb d_La_law_1410 (by decide) (fun _ => ?_) (fun c9 => absurd c9 (by rcases hk with rfl | rfl | rfl | rfl <;> decide))
  refine lv_goto (tgt := 1453) hx hb d_La_law_1425 (by decide) ?_
  refine W.widen (k := cells + 1) (n := slots + 6) (by omega) (by omega) ?_
  exact kk u z.2 f _ _ _ hI.2 hP hD hS (lv_sub hl [2, 3, 4, 5, 6] rfl)
set_option maxRecDepth 100000 in
set_option maxHeartbeats 4000000 in
theorem lc_23 {p : Program} {l : Launch} {e : Env} {s : State} {m : MethodId} {below : List Frame} {meth : Method} {c : Code} {b L : Nat} {xs : Nat → Int32} {D : va_G} {A : Nat → Nat} (I : KS → RS → Prop) (X : lx_ p l s m meth c b L xs D A) {cells slots : Nat} (hc : cells + 1 ≤ room_1.cells) (hsl : slots + 6 ≤ room_1.slots) (x4 : Int32) (h1 : vp_in (x4 + 1) L) (σ : KS) (ρ : RS) (f : Nat → Int64) (sim : ∀ x1 : Int32, ∃ (v : Int32) (z : Int32 × RS), f_Ke_count σ x1 = some v ∧ f_Mo_count ρ x1 = some z ∧ I σ z.2) {H : Heap} {locs : List Loc} {ls : Array Slot} (hP : va_P D vwCl (kp_C A σ ρ f) H) (hD : va_D (fun q : Nat => s.heap.size ≤ q) (kp_C A σ ρ f)) (hS : va_S (fun q : Nat => s.heap.size ≤ q) s.heap H locs) (hl : lv_has ls 7 [(0, .ref b), (1, .ref (A 0)), (2, .ref (A 60)), (3, .ref (A 63)), (4, .int x4)])
    (kk : ∀ (u : KS) (ρ1 : RS) (f1 : Nat → Int64) (H : Heap) (locs : List Loc) (ls : Array Slot), I u ρ1 → va_P D vwCl (kp_C A u ρ1 f1) H → va_D (fun q : Nat => s.heap.size ≤ q) (kp_C A u ρ1 f1) → va_S (fun q : Nat => s.heap.size ≤ q) s.heap H locs → lv_has ls 7 [(0, .ref b), (1, .ref (A 0)), (2, .ref (A 60)), (3, .ref (A 63)), (4, .int x4)] → W p l e room_1 s m #[Value.ref b] below meth c H locs (cells + 1) (slots + 6) (lw_Z below #[Value.ref b] s) (F0 m 1453 ls [])) : W p l e room_1 s m #[Value.ref b] below meth c H locs cells slots (lw_Z below #[Value.ref b] s) (F0 m 1428 ls []) := by
  obtain ⟨hl9, S9, hX, hbl, hlk, hr, hC, X9⟩ := X
  obtain ⟨hx, hb, hml, hown, hts⟩ := id S9
  have hK := X9.2.1
  have hbA : ¬ (fun q : Nat => s.heap.size ≤ q) b := Nat.not_le.mpr hbl
  obtain ⟨v, z, e1, e2, hI⟩ := sim (xs (x4 + 1).toNatClampNeg)
  refine lv_aload_n hx hb d_La_law_1428 rfl (lv_at hl 1 rfl) ?_
  refine lv_aload_n hx hb d_La_law_1429 rfl (lv_at hl 0 rfl) ?_
  refine lv_iload hx hb d_La_law_1430 (lv_at hl 4 rfl) ?_
  refine lv_iconst (v := 1) hx hb d_La_law_1432 (by decide) ?_
  refine lv_iadd hx hb d_La_law_1433 ?_
  refine va_sld hx hb hX hbl hbA hS h1 d_La_law_1434 ?_
  refine ka_i (va_runV (As := [.int (xs (x4 + 1).toNatClampNeg)]) (rest := []) S9 (c_Ke_count l hl9 D A (ka_oc A f :: MW A ρ []) _ σ (xs (x4 + 1).toNatClampNeg) v e1) (cwV 1 hts (tg_V wl_La_175 wm_Ke_count we_Ke_count wi_Ke wo_Ke_count) rfl rfl rfl wq_Ke_count ⟨Nat.le_of_ble_eq_true rfl, Nat.le_of_ble_eq_true rfl⟩) (ka_preV X9 hP hD hS 0 rfl rfl) rfl rfl hl.1 rfl (lv_room (Nat.le_of_ble_eq_true rfl)) d_La_law_1435 ⟨Nat.le_trans (Nat.le_succ _) hc, Nat.le_trans (Nat.le_add_right _ 6) hsl⟩) X9 hD hS rfl (fun H locs hP hD hS => ?_)
  refine lv_pop hx hb d_La_law_1438 rfl ?_
  refine lv_aload_n hx hb d_La_law_1439 rfl (lv_at hl 2 rfl) ?_
  refine lv_aload_n hx hb d_La_law_1440 rfl (lv_at hl 0 rfl) ?_
  refine lv_iload hx hb d_La_law_1441 (lv_at hl 4 rfl) ?_
  refine lv_iconst (v := 1) hx hb d_La_law_1443 (by decide) ?_
  refine lv_iadd hx hb d_La_law_1444 ?_
  refine va_sld hx hb hX hbl hbA hS h1 d_La_law_1445 ?_
  replace hP := kp_P (kp_perm A σ ρ f) hP
  replace hD := kp_D (kp_perm A σ ρ f) hD
  refine ka_i (va_runV (As := [.int (xs (x4 + 1).toNatClampNeg)]) (rest := []) S9 (c_Mo_count l hl9 D A (GW A σ [ka_oc A f]) _ ρ (xs (x4 + 1).toNatClampNeg) z e2) (cwV 1 hts (tg_V wl_La_178 wm_Mo_count we_Mo_count wi_Mo wo_Mo_count) rfl rfl rfl wq_Mo_count ⟨Nat.le_of_ble_eq_true rfl, Nat.le_of_ble_eq_true rfl⟩) (ka_preV X9 hP hD hS 0 rfl rfl) rfl rfl hl.1 rfl (lv_room (Nat.le_of_ble_eq_true rfl)) d_La_law_1446 ⟨Nat.le_trans (Nat.le_succ _) hc, Nat.le_trans (Nat.le_add_right _ 6) hsl⟩) X9 hD hS rfl (fun H locs hP hD hS => ?_)
  replace hP := kp_P (kp_perm A σ z.2 f).symm hP
  replace hD := kp_D (kp_perm A σ z.2 f).symm hD
  refine lv_pop hx hb d_La_law_1449 rfl ?_
  refine lv_goto (tgt := 1453) hx hb d_La_law_1450 (by decide) ?_
  refine W.widen (k := cells + 1) (n := slots + 6) (by omega) (by omega) ?_
  exact kk σ z.2 f _ _ _ hI hP hD hS hl
