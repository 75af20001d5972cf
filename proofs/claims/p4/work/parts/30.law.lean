/-! THE CLAIM OUT OF ONE WALK OF THE LAW'S BODY. Your part is whole_start (and what it stands on); all else here is the same for every law, but numbers. -/
def R_law : String := "LabelKernelLaw"
def lw_P (b : Addr) (xs : List Int32) (args : Array Value) (s : State) : Prop := args = #[.ref b] ∧ s.IntsAt b xs ∧ xs.length ≤ 3584 ∧ (Jvm.Cond.and given_1 narrow_1).before args s = true
def lw_Q (_ : Array Value) (s : State) (o : Outcome) (t : State) : Prop := o = .returned (some (.int 1)) ∧ Framed s o t [] 1079 13751
def lw_Z (below : List Frame) (a : Array Value) (s : State) : State → Prop := fun t => ∃ o, t.status = .running ∧ Ended t below o ∧ lw_Q a s o t
/-- the law's own end, with 1 on the stack, nothing written that was there before, its room as the claim has it -/
theorem lw_ret {p : Program} {l : Launch} {e : Env} {s : State} {m : MethodId} {below : List Frame} {meth : Method} {c : Code} {b : Nat} (hx : p.tables.exec = Jvm.exec) (hb : c.code = code) (hr : meth.sig.returnType = ret) (hlocks : meth.locks = false) {pc : Nat} {H : Heap} {ls : Array Slot} (hdg : decode code pc = .ok (.ireturn, 1)) : W p l e room_1 s m #[Value.ref b] below meth c H [] 1079 13751 (lw_Z below #[Value.ref b] s) (F0 m pc ls [.int 1]) := by
  intro T hT X
  obtain ⟨fs, hret, hrun, hended, hW, hframe⟩ := X.leave (v := some (.int 1)) (hlocks := hlocks) (fun h => by rw [hr] at h; cases h)
  have hmeth' : T.vm.method? m = some meth := X.method'
  refine ⟨T.setFrames fs, ?_, .returned (some (.int 1)), hrun, hended, rfl, ⟨_, rfl⟩, hW, hframe⟩
  jvm_step X.here [X.here.top, hx, hb, hdg, hmeth', hr, ret, narrow_b1]
  (try refine ⟨rfl, ?_⟩); (try refine ⟨rfl, ?_⟩)
  first | (intro acts; rw [hret _ acts rfl rfl rfl]) | rw [hret _ _ rfl rfl rfl]
  exact Steps.refl _
/-- what holds at the law's entry: the machine, the code, the tables' words (any of lw_tbl by 'hts w (by decide +kernel)'), the script of L ints xs at the cell b, what the Statement gives of the start (any of its parts by flat_of_before) -/
def lw_At (p : Program) (s : State) (m : MethodId) (meth : Method) (c : Code) (b L : Nat) (xs : Nat → Int32) : Prop :=
  p.tables.exec = Jvm.exec ∧ c.code = code ∧ meth.sig.returnType = ret ∧ c.maxLocals = 7 ∧ s.vm.findClass R_law = some m.cls ∧ (∀ w ∈ lw_tbl, w.before #[Value.ref b] s = true) ∧ va_X b L xs s s.heap ∧ b < s.heap.size ∧ meth.locks = false ∧ (Jvm.Cond.and given_1 narrow_1).before #[Value.ref b] s = true
theorem kp_cmp {x y : Int64} (h : x = y) : lg_cmp x y = 0 := by
  subst h
  simp [lg_cmp]
/-- what holds all through the law -/
def lx_ (p : Program) (l : Launch) (s : State) (m : MethodId) (meth : Method) (c : Code) (b L : Nat) (xs : Nat → Int32) (D : va_G) (A : Nat → Nat) : Prop :=
  l.stackTraces = false ∧ CallFix p m c code 7 s #[Value.ref b] T0 R_La ∧ va_X b L xs s s.heap ∧ b < s.heap.size ∧ meth.locks = false ∧ meth.sig.returnType = ret ∧ ka_C s ∧ ka_X D A (fun q : Nat => s.heap.size ≤ q) s
set_option maxRecDepth 100000 in
set_option maxHeartbeats 4000000 in
theorem lc_0 {p : Program} {l : Launch} {e : Env} {s : State} {m : MethodId} {below : List Frame} {meth : Method} {c : Code} {b L : Nat} {xs : Nat → Int32} {D : va_G} {A : Nat → Nat} (I : KS → RS → Prop) (X : lx_ p l s m meth c b L xs D A) {cells slots : Nat} (hc : cells + 1 ≤ room_1.cells) (hsl : slots + 6 ≤ room_1.slots) (x4 : Int32) (h1 : vp_in (x4 + 1) L) (h2 : vp_in (x4 + 2) L) (h3 : vp_in (x4 + 3) L) (σ : KS) (ρ : RS) (f : Nat → Int64) (sim : ∀ x1 x2 x3 : Int32, (∃ (v : Int32) (u : KS) (z : Int32 × RS), f_Ke_label σ x1 x2 x3 = some (.ok v, u) ∧ f_Mo_label ρ x1 x2 x3 = some z ∧ I u z.2) ∨ (∃ (k : Nat) (u : KS) (z : Int32 × RS), (k = 1 ∨ k = 2 ∨ k = 3 ∨ k = 4) ∧ f_Ke_label σ x1 x2 x3 = some (.error k, u) ∧ f_Mo_label ρ x1 x2 x3 = some z ∧ I u z.2)) {H : Heap} {locs : List Loc} {ls : Array Slot} (hP : va_P D vwCl (kp_C A σ ρ f) H) (hD : va_D (fun q : Nat => s.heap.size ≤ q) (kp_C A σ ρ f)) (hS : va_S (fun q : Nat => s.heap.size ≤ q) s.heap H locs) (hl : lv_has ls 7 [(0, .ref b), (1, .ref (A 0)), (2, .ref (A 60)), (3, .ref (A 63)), (4, .int x4)])
    (kk : ∀ (u : KS) (ρ1 : RS) (f1 : Nat → Int64) (H : Heap) (locs : List Loc) (ls : Array Slot), I u ρ1 → va_P D vwCl (kp_C A u ρ1 f1) H → va_D (fun q : Nat => s.heap.size ≤ q) (kp_C A u ρ1 f1) → va_S (fun q : Nat => s.heap.size ≤ q) s.heap H locs → lv_has ls 7 [(0, .ref b), (1, .ref (A 0)), (2, .ref (A 60)), (3, .ref (A 63)), (4, .int x4)] → W p l e room_1 s m #[Value.ref b] below meth c H locs (cells + 1) (slots + 6) (lw_Z below #[Value.ref b] s) (F0 m 1460 ls [])) : W p l e room_1 s m #[Value.ref b] below meth c H locs cells slots (lw_Z below #[Value.ref b] s) (F0 m 152 ls []) := by
  obtain ⟨hl9, S9, hX, hbl, hlk, hr, hC, X9⟩ := X
  obtain ⟨hx, hb, hml, hown, hts⟩ := id S9
  have hK := X9.2.1
  have hbA : ¬ (fun q : Nat => s.heap.size ≤ q) b := Nat.not_le.mpr hbl
  rcases sim (xs (x4 + 1).toNatClampNeg) (xs (x4 + 2).toNatClampNeg) (xs (x4 + 3).toNatClampNeg) with ⟨v, u, z, e1, e2, hI⟩ | ⟨k, u, z, hk, e1, e2, hI⟩
  · refine lv_aload_n hx hb d_La_law_152 rfl (lv_at hl 1 rfl) ?_
    refine lv_aload_n hx hb d_La_law_153 rfl (lv_at hl 0 rfl) ?_
    refine lv_iload hx hb d_La_law_154 (lv_at hl 4 rfl) ?_
    refine lv_iconst (v := 1) hx hb d_La_law_156 (by decide) ?_
    refine lv_iadd hx hb d_La_law_157 ?_
    refine va_sld hx hb hX hbl hbA hS h1 d_La_law_158 ?_
    refine lv_aload_n hx hb d_La_law_159 rfl (lv_at hl 0 rfl) ?_
    refine lv_iload hx hb d_La_law_160 (lv_at hl 4 rfl) ?_
    refine lv_iconst (v := 2) hx hb d_La_law_162 (by decide) ?_
    refine lv_iadd hx hb d_La_law_163 ?_
    refine va_sld hx hb hX hbl hbA hS h2 d_La_law_164 ?_
    refine lv_aload_n hx hb d_La_law_165 rfl (lv_at hl 0 rfl) ?_
    refine lv_iload hx hb d_La_law_166 (lv_at hl 4 rfl) ?_
    refine lv_iconst (v := 3) hx hb d_La_law_168 (by decide) ?_
    refine lv_iadd hx hb d_La_law_169 ?_
    refine va_sld hx hb hX hbl hbA hS h3 d_La_law_170 ?_
    refine lv_aload_n hx hb d_La_law_171 rfl (lv_at hl 3 rfl) ?_
    refine ka_i (vx_runSW (As := [.ref (A 0), .int (xs (x4 + 1).toNatClampNeg), .int (xs (x4 + 2).toNatClampNeg), .int (xs (x4 + 3).toNatClampNeg), .ref (A 63)]) (rest := []) S9 (c_La_label_ok l hl9 D A (MW A ρ []) f _ σ (xs (x4 + 1).toNatClampNeg) (xs (x4 + 2).toNatClampNeg) (xs (x4 + 3).toNatClampNeg) v u e1) (vx_cwSW 5 hts (tg_SW wl_La_91 ws_La_label wi_La wo_La_label) rfl rfl rfl wq_La_label.2 ⟨Nat.le_of_ble_eq_true rfl, Nat.le_of_ble_eq_true rfl⟩) (ka_preC X9 hC hP hD hS) rfl rfl hl.1 rfl (lv_room (Nat.le_of_ble_eq_true rfl)) d_La_law_172 ⟨Nat.le_trans (Nat.le_succ _) hc, Nat.le_trans (Nat.le_add_right _ 6) hsl⟩) X9 hD hS rfl (fun H locs hP hD hS => ?_)
    refine lv_istore (lv' := (5, .int 0) :: [(0, .ref b), (1, .ref (A 0)), (2, .ref (A 60)), (3, .ref (A 63)), (4, .int x4)]) hx hb d_La_law_175 hl (by decide) rfl (fun ls hl => ?_)
    refine lv_aload_n hx hb d_La_law_177 rfl (lv_at hl 3 rfl) ?_
    refine lv_aload_n hx hb d_La_law_178 rfl (lv_at hl 1 rfl) ?_
    refine lv_iload hx hb d_La_law_179 (lv_at hl 5 rfl) ?_
    refine lv_iconst (v := 1) hx hb d_La_law_181 (by decide) ?_
    refine lv_iadd hx hb d_La_law_182 ?_
    refine va_sld hx hb hX hbl hbA hS h1 d_La_law_183 ?_
    refine lv_aload_n hx hb d_La_law_184 rfl (lv_at hl 1 rfl) ?_
    refine lv_iload hx hb d_La_law_185 (lv_at hl 5 rfl) ?_
    refine lv_iconst (v := 2) hx hb d_La_law_187 (by decide) ?_
    refine lv_iadd hx hb d_La_law_188 ?_
    refine va_sld hx hb hX hbl hbA hS h2 d_La_law_189 ?_
    refine lv_aload_n hx hb d_La_law_190 rfl (lv_at hl 1 rfl) ?_
    refine lv_iload hx hb d_La_law_191 (lv_at hl 5 rfl) ?_
    refine lv_iconst (v := 3) hx hb d_La_law_193 (by decide) ?_
    refine lv_iadd hx hb d_La_law_194 ?_
    refine va_sld hx hb hX hbl hbA hS h3 d_La_law_195 ?_
    replace hP := kp_P (kp_perm A u ρ (vp_updL f 0 v.toInt64)) hP
    replace hD := kp_D (kp_perm A u ρ (vp_updL f 0 v.toInt64)) hD
    refine ka_i (va_runV (As := [.int (xs (x4 + 1).toNatClampNeg), .int (xs (x4 + 2).toNatClampNeg), .int (xs (x4 + 3).toNatClampNeg)]) (rest := []) S9 (c_Mo_label l hl9 D A (GW A u [ka_oc A (vp_updL f 0 v.toInt64)]) _ ρ (xs (x4 + 1).toNatClampNeg) (xs (x4 + 2).toNatClampNeg) (xs (x4 + 3).toNatClampNeg) z e2) (cwV 3 hts (tg_V wl_La_96 wm_Mo_label we_Mo_label wi_Mo wo_Mo_label) rfl rfl rfl wq_Mo_label ⟨Nat.le_of_ble_eq_true rfl, Nat.le_of_ble_eq_true rfl⟩) (ka_preV X9 hP hD hS 0 rfl rfl) rfl rfl hl.1 rfl (lv_room (Nat.le_of_ble_eq_true rfl)) d_La_law_196 ⟨Nat.le_trans (Nat.le_succ _) hc, Nat.le_trans (Nat.le_add_right _ 6) hsl⟩) X9 hD hS rfl (fun H locs hP hD hS => ?_)
    refine lv_istore (lv' := (6, .int z.1) :: (5, .int 0) :: [(0, .ref b), (1, .ref (A 0)), (2, .ref (A 60)), (3, .ref (A 63)), (4, .int x4)]) hx hb d_La_law_199 hl (by decide) rfl (fun ls hl => ?_)
    replace hP := kp_P (kp_perm A u z.2 (vp_updL f 0 v.toInt64)).symm hP
    replace hD := kp_D (kp_perm A u z.2 (vp_updL f 0 v.toInt64)).symm hD
    refine lv_goto (tgt := 1460) hx hb d_La_law_201 (by decide) ?_
    refine W.widen (k := cells + 1) (n := slots + 6) (by omega) (by omega) ?_
    exact kk u z.2 (vp_updL f 0 v.toInt64) _ _ _ hI hP hD hS (lv_sub hl [2, 3, 4, 5, 6] rfl)
  refine lv_aload_n hx hb d_La_law_152 rfl (lv_at hl 1 rfl) ?_
  refine lv_aload_n hx hb d_La_law_153 rfl (lv_at hl 0 rfl) ?_
  refine lv_iload hx hb d_La_law_154 (lv_at hl 4 rfl) ?_
  refine lv_iconst (v := 1) hx hb d_La_law_156 (by decide) ?_
  refine lv_iadd hx hb d_La_law_157 ?_
  refine va_sld hx hb hX hbl hbA hS h1 d_La_law_158 ?_
  refine lv_aload_n hx hb d_La_law_159 rfl (lv_at hl 0 rfl) ?_
  refine lv_iload hx hb d_La_law_160 (lv_at hl 4 rfl) ?_
  refine lv_iconst (v := 2) hx hb d_La_law_162 (by decide) ?_
  refine lv_iadd hx hb d_La_law_163 ?_
  refine va_sld hx hb hX hbl hbA hS h2 d_La_law_164 ?_
  refine lv_aload_n hx hb d_La_law_165 rfl (lv_at hl 0 rfl) ?_
  refine lv_iload hx hb d_La_law_166 (lv_at hl 4 rfl) ?_
  refine lv_iconst (v := 3) hx hb d_La_law_168 (by decide) ?_
  refine lv_iadd hx hb d_La_law_169 ?_
  refine va_sld hx hb hX hbl hbA hS h3 d_La_law_170 ?_
  refine lv_aload_n hx hb d_La_law_171 rfl (lv_at hl 3 rfl) ?_
  refine ka_i (vx_runSW (As := [.ref (A 0), .int (xs (x4 + 1).toNatClampNeg), .int (xs (x4 + 2).toNatClampNeg), .int (xs (x4 + 3).toNatClampNeg), .ref (A 63)]) (rest := []) S9 (c_La_label_err l hl9 D A (MW A ρ []) f _ σ (xs (x4 + 1).toNatClampNeg) (xs (x4 + 2).toNatClampNeg) (xs (x4 + 3).toNatClampNeg) k hk u e1) (vx_cwSW 5 hts (tg_SW wl_La_91 ws_La_label wi_La wo_La_label) rfl rfl rfl wq_La_label.2 ⟨Nat.le_of_ble_eq_true rfl, Nat.le_of_ble_eq_true rfl⟩) (ka_preC X9 hC hP hD hS) rfl rfl hl.1 rfl (lv_room (Nat.le_of_ble_eq_true rfl)) d_La_law_172 ⟨hc, hsl⟩) X9 hD hS rfl (fun H locs hP hD hS => ?_)
  refine lv_istore (lv' := (5, .int (nI k)) :: [(0, .ref b), (1, .ref (A 0)), (2, .ref (A 60)), (3, .ref (A 63)), (4, .int x4)]) hx hb d_La_law_175 hl (by decide) rfl (fun ls hl => ?_)
  refine lv_aload_n hx hb d_La_law_177 rfl (lv_at hl 3 rfl) ?_
  refine lv_aload_n hx hb d_La_law_178 rfl (lv_at hl 1 rfl) ?_
  refine lv_iload hx hb d_La_law_179 (lv_at hl 5 rfl) ?_
  refine lv_iconst (v := 1) hx hb d_La_law_181 (by decide) ?_
  refine lv_iadd hx hb d_La_law_182 ?_
  refine va_sld hx hb hX hbl hbA hS h1 d_La_law_183 ?_
  refine lv_aload_n hx hb d_La_law_184 rfl (lv_at hl 1 rfl) ?_
  refine lv_iload hx hb d_La_law_185 (lv_at hl 5 rfl) ?_
  refine lv_iconst (v := 2) hx hb d_La_law_187 (by decide) ?_
  refine lv_iadd hx hb d_La_law_188 ?_
  refine va_sld hx hb hX hbl hbA hS h2 d_La_law_189 ?_
  refine lv_aload_n hx hb d_La_law_190 rfl (lv_at hl 1 rfl) ?_
  refine lv_iload hx hb d_La_law_191 (lv_at hl 5 rfl) ?_
  refine lv_iconst (v := 3) hx hb d_La_law_193 (by decide) ?_
  refine lv_iadd hx hb d_La_law_194 ?_
  refine va_sld hx hb hX hbl hbA hS h3 d_La_law_195 ?_
  replace hP := kp_P (kp_perm A u ρ f) hP
  replace hD := kp_D (kp_perm A u ρ f) hD
  refine ka_i (va_runV (As := [.int (xs (x4 + 1).toNatClampNeg), .int (xs (x4 + 2).toNatClampNeg), .int (xs (x4 + 3).toNatClampNeg)]) (rest := []) S9 (c_Mo_label l hl9 D A (GW A u [ka_oc A f]) _ ρ (xs (x4 + 1).toNatClampNeg) (xs (x4 + 2).toNatClampNeg) (xs (x4 + 3).toNatClampNeg) z e2) (cwV 3 hts (tg_V wl_La_96 wm_Mo_label we_Mo_label wi_Mo wo_Mo_label) rfl rfl rfl wq_Mo_label ⟨Nat.le_of_ble_eq_true rfl, Nat.le_of_ble_eq_true rfl⟩) (ka_preV X9 hP hD hS 0 rfl rfl) rfl rfl hl.1 rfl (lv_room (Nat.le_of_ble_eq_true rfl)) d_La_law_196 ⟨hc, hsl⟩) X9 hD hS rfl (fun H locs hP hD hS => ?_)
  refine lv_istore (lv' := (6, .int z.1) :: (5, .int (nI k)) :: [(0, .ref b), (1, .ref (A 0)), (2, .ref (A 60)), (3, .ref (A 63)), (4, .int x4)]) hx hb d_La_law_199 hl (by decide) rfl (fun ls hl => ?_)
  replace hP := kp_P (kp_perm A u z.2 f).symm hP
  replace hD := kp_D (kp_perm A u z.2 f).symm hD
  refine lv_goto (tgt := 1460) hx hb d_La_law_201 (by decide) ?_
  refine W.widen (k := cells + 1) (n := slots + 6) (by omega) (by omega) ?_
  exact kk u z.2 f _ _ _ hI hP hD hS (lv_sub hl [2, 3, 4, 5, 6] rfl)
set_option maxRecDepth 100000 in
set_option maxHeartbeats 4000000 in
theorem lc_1 {p : Program} {l : Launch} {e : Env} {s : State} {m : MethodId} {below : List Frame} {meth : Method} {c : Code} {b L : Nat} {xs : Nat → Int32} {D : va_G} {A : Nat → Nat} (I : KS → RS → Prop) (X : lx_ p l s m meth c b L xs D A) {cells slots : Nat} (hc : cells + 1 ≤ room_1.cells) (hsl : slots + 6 ≤ room_1.slots) (x4 : Int32) (h1 : vp_in (x4 + 1) L) (h2 : vp_in (x4 + 2) L) (σ : KS) (ρ : RS) (f : Nat → Int64) (sim : ∀ x1 x2 : Int32, (∃ (v : Int32) (u : KS) (z : Int32 × RS), f_Ke_level σ x1 x2 = some (.ok v, u) ∧ f_Mo_level ρ x1 x2 = some z ∧ I u z.2) ∨ (∃ (k : Nat) (u : KS) (z : Int32 × RS), (k = 1 ∨ k = 2 ∨ k = 3 ∨ k = 4) ∧ f_Ke_level σ x1 x2 = some (.error k, u) ∧ f_Mo_level ρ x1 x2 = some z ∧ I u z.2)) {H : Heap} {locs : List Loc} {ls : Array Slot} (hP : va_P D vwCl (kp_C A σ ρ f) H) (hD : va_D (fun q : Nat => s.heap.size ≤ q) (kp_C A σ ρ f)) (hS : va_S (fun q : Nat => s.heap.size ≤ q) s.heap H locs) (hl : lv_has ls 7 [(0, .ref b), (1, .ref (A 0)), (2, .ref (A 60)), (3, .ref (A 63)), (4, .int x4)])
    (kk : ∀ (u : KS) (ρ1 : RS) (f1 : Nat → Int64) (H : Heap) (locs : List Loc) (ls : Array Slot), I u ρ1 → va_P D vwCl (kp_C A u ρ1 f1) H → va_D (fun q : Nat => s.heap.size ≤ q) (kp_C A u ρ1 f1) → va_S (fun q : Nat => s.heap.size ≤ q) s.heap H locs → lv_has ls 7 [(0, .ref b), (1, .ref (A 0)), (2, .ref (A 60)), (3, .ref (A 63)), (4, .int x4)] → W p l e room_1 s m #[Value.ref b] below meth c H locs (cells + 1) (slots + 6) (lw_Z below #[Value.ref b] s) (F0 m 1460 ls [])) : W p l e room_1 s m #[Value.ref b] below meth c H locs cells slots (lw_Z below #[Value.ref b] s) (F0 m 204 ls []) := by
  obtain ⟨hl9, S9, hX, hbl, hlk, hr, hC, X9⟩ := X
  obtain ⟨hx, hb, hml, hown, hts⟩ := id S9
  have hK := X9.2.1
  have hbA : ¬ (fun q : Nat => s.heap.size ≤ q) b := Nat.not_le.mpr hbl
  rcases sim (xs (x4 + 1).toNatClampNeg) (xs (x4 + 2).toNatClampNeg) with ⟨v, u, z, e1, e2, hI⟩ | ⟨k, u, z, hk, e1, e2, hI⟩
  · refine lv_aload_n hx hb d_La_law_204 rfl (lv_at hl 1 rfl) ?_
    refine lv_aload_n hx hb d_La_law_205 rfl (lv_at hl 0 rfl) ?_
    refine lv_iload hx hb d_La_law_206 (lv_at hl 4 rfl) ?_
    refine lv_iconst (v := 1) hx hb d_La_law_208 (by decide) ?_
    refine lv_iadd hx hb d_La_law_209 ?_
    refine va_sld hx hb hX hbl hbA hS h1 d_La_law_210 ?_
    refine lv_aload_n hx hb d_La_law_211 rfl (lv_at hl 0 rfl) ?_
    refine lv_iload hx hb d_La_law_212 (lv_at hl 4 rfl) ?_
    refine lv_iconst (v := 2) hx hb d_La_law_214 (by decide) ?_
    refine lv_iadd hx hb d_La_law_215 ?_
    refine va_sld hx hb hX hbl hbA hS h2 d_La_law_216 ?_
    refine lv_aload_n hx hb d_La_law_217 rfl (lv_at hl 3 rfl) ?_
    refine ka_i (vx_runSW (As := [.ref (A 0), .int (xs (x4 + 1).toNatClampNeg), .int (xs (x4 + 2).toNatClampNeg), .ref (A 63)]) (rest := []) S9 (c_La_level_ok l hl9 D A (MW A ρ []) f _ σ (xs (x4 + 1).toNatClampNeg) (xs (x4 + 2).toNatClampNeg) v u e1) (vx_cwSW 4 hts (tg_SW wl_La_97 ws_La_level wi_La wo_La_level) rfl rfl rfl wq_La_level.2 ⟨Nat.le_of_ble_eq_true rfl, Nat.le_of_ble_eq_true rfl⟩) (ka_preC X9 hC hP hD hS) rfl rfl hl.1 rfl (lv_room (Nat.le_of_ble_eq_true rfl)) d_La_law_218 ⟨Nat.le_trans (Nat.le_succ _) hc, Nat.le_trans (Nat.le_add_right _ 6) hsl⟩) X9 hD hS rfl (fun H locs hP hD hS => ?_)
    refine lv_istore (lv' := (5, .int 0) :: [(0, .ref b), (1, .ref (A 0)), (2, .ref (A 60)), (3, .ref (A 63)), (4, .int x4)]) hx hb d_La_law_221 hl (by decide) rfl (fun ls hl => ?_)
    refine lv_aload_n hx hb d_La_law_223 rfl (lv_at hl 3 rfl) ?_
    refine lv_aload_n hx hb d_La_law_224 rfl (lv_at hl 1 rfl) ?_
    refine lv_iload hx hb d_La_law_225 (lv_at hl 5 rfl) ?_
    refine lv_iconst (v := 1) hx hb d_La_law_227 (by decide) ?_
    refine lv_iadd hx hb d_La_law_228 ?_
    refine va_sld hx hb hX hbl hbA hS h1 d_La_law_229 ?_
    refine lv_aload_n hx hb d_La_law_230 rfl (lv_at hl 1 rfl) ?_
    refine lv_iload hx hb d_La_law_231 (lv_at hl 5 rfl) ?_
    refine lv_iconst (v := 2) hx hb d_La_law_233 (by decide) ?_
    refine lv_iadd hx hb d_La_law_234 ?_
    refine va_sld hx hb hX hbl hbA hS h2 d_La_law_235 ?_
    replace hP := kp_P (kp_perm A u ρ (vp_updL f 0 v.toInt64)) hP
    replace hD := kp_D (kp_perm A u ρ (vp_updL f 0 v.toInt64)) hD
    refine ka_i (va_runV (As := [.int (xs (x4 + 1).toNatClampNeg), .int (xs (x4 + 2).toNatClampNeg)]) (rest := []) S9 (c_Mo_level l hl9 D A (GW A u [ka_oc A (vp_updL f 0 v.toInt64)]) _ ρ (xs (x4 + 1).toNatClampNeg) (xs (x4 + 2).toNatClampNeg) z e2) (cwV 2 hts (tg_V wl_La_100 wm_Mo_level we_Mo_level wi_Mo wo_Mo_level) rfl rfl rfl wq_Mo_level ⟨Nat.le_of_ble_eq_true rfl, Nat.le_of_ble_eq_true rfl⟩) (ka_preV X9 hP hD hS 0 rfl rfl) rfl rfl hl.1 rfl (lv_room (Nat.le_of_ble_eq_true rfl)) d_La_law_236 ⟨Nat.le_trans (Nat.le_succ _) hc, Nat.le_trans (Nat.le_add_right _ 6) hsl⟩) X9 hD hS rfl (fun H locs hP hD hS => ?_)
    refine lv_istore (lv' := (6, .int z.1) :: (5, .int 0) :: [(0, .ref b), (1, .ref (A 0)), (2, .ref (A 60)), (3, .ref (A 63)), (4, .int x4)]) hx hb d_La_law_239 hl (by decide) rfl (fun ls hl => ?_)
    replace hP := kp_P (kp_perm A u z.2 (vp_updL f 0 v.toInt64)).symm hP
    replace hD := kp_D (kp_perm A u z.2 (vp_updL f 0 v.toInt64)).symm hD
    refine lv_goto (tgt := 1460) hx hb d_La_law_241 (by decide) ?_
    refine W.widen (k := cells + 1) (n := slots + 6) (by omega) (by omega) ?_
    exact kk u z.2 (vp_updL f 0 v.toInt64) _ _ _ hI hP hD hS (lv_sub hl [2, 3, 4, 5, 6] rfl)
  refine lv_aload_n hx hb d_La_law_204 rfl (lv_at hl 1 rfl) ?_
  refine lv_aload_n hx hb d_La_law_205 rfl (lv_at hl 0 rfl) ?_
  refine lv_iload hx hb d_La_law_206 (lv_at hl 4 rfl) ?_
  refine lv_iconst (v := 1) hx hb d_La_law_208 (by decide) ?_
  refine lv_iadd hx hb d_La_law_209 ?_
  refine va_sld hx hb hX hbl hbA hS h1 d_La_law_210 ?_
  refine lv_aload_n hx hb d_La_law_211 rfl (lv_at hl 0 rfl) ?_
  refine lv_iload hx hb d_La_law_212 (lv_at hl 4 rfl) ?_
  refine lv_iconst (v := 2) hx hb d_La_law_214 (by decide) ?_
  refine lv_iadd hx hb d_La_law_215 ?_
  refine va_sld hx hb hX hbl hbA hS h2 d_La_law_216 ?_
  refine lv_aload_n hx hb d_La_law_217 rfl (lv_at hl 3 rfl) ?_
  refine ka_i (vx_runSW (As := [.ref (A 0), .int (xs (x4 + 1).toNatClampNeg), .int (xs (x4 + 2).toNatClampNeg), .ref (A 63)]) (rest := []) S9 (c_La_level_err l hl9 D A (MW A ρ []) f _ σ (xs (x4 + 1).toNatClampNeg) (xs (x4 + 2).toNatClampNeg) k hk u e1) (vx_cwSW 4 hts (tg_SW wl_La_97 ws_La_level wi_La wo_La_level) rfl rfl rfl wq_La_level.2 ⟨Nat.le_of_ble_eq_true rfl, Nat.le_of_ble_eq_true rfl⟩) (ka_preC X9 hC hP hD hS) rfl rfl hl.1 rfl (lv_room (Nat.le_of_ble_eq_true rfl)) d_La_law_218 ⟨hc, hsl⟩) X9 hD hS rfl (fun H locs hP hD hS => ?_)
  refine lv_istore (lv' := (5, .int (nI k)) :: [(0, .ref b), (1, .ref (A 0)), (2, .ref (A 60)), (3, .ref (A 63)), (4, .int x4)]) hx hb d_La_law_221 hl (by decide) rfl (fun ls hl => ?_)
  refine lv_aload_n hx hb d_La_law_223 rfl (lv_at hl 3 rfl) ?_
  refine lv_aload_n hx hb d_La_law_224 rfl (lv_at hl 1 rfl) ?_
  refine lv_iload hx hb d_La_law_225 (lv_at hl 5 rfl) ?_
  refine lv_iconst (v := 1) hx hb d_La_law_227 (by decide) ?_
  refine lv_iadd hx hb d_La_law_228 ?_
  refine va_sld hx hb hX hbl hbA hS h1 d_La_law_229 ?_
  refine lv_aload_n hx hb d_La_law_230 rfl (lv_at hl 1 rfl) ?_
  refine lv_iload hx hb d_La_law_231 (lv_at hl 5 rfl) ?_
  refine lv_iconst (v := 2) hx hb d_La_law_233 (by decide) ?_
  refine lv_iadd hx hb d_La_law_234 ?_
  refine va_sld hx hb hX hbl hbA hS h2 d_La_law_235 ?_
  replace hP := kp_P (kp_perm A u ρ f) hP
  replace hD := kp_D (kp_perm A u ρ f) hD
  refine ka_i (va_runV (As := [.int (xs (x4 + 1).toNatClampNeg), .int (xs (x4 + 2).toNatClampNeg)]) (rest := []) S9 (c_Mo_level l hl9 D A (GW A u [ka_oc A f]) _ ρ (xs (x4 + 1).toNatClampNeg) (xs (x4 + 2).toNatClampNeg) z e2) (cwV 2 hts (tg_V wl_La_100 wm_Mo_level we_Mo_level wi_Mo wo_Mo_level) rfl rfl rfl wq_Mo_level ⟨Nat.le_of_ble_eq_true rfl, Nat.le_of_ble_eq_true rfl⟩) (ka_preV X9 hP hD hS 0 rfl rfl) rfl rfl hl.1 rfl (lv_room (Nat.le_of_ble_eq_true rfl)) d_La_law_236 ⟨hc, hsl⟩) X9 hD hS rfl (fun H locs hP hD hS => ?_)
  refine lv_istore (lv' := (6, .int z.1) :: (5, .int (nI k)) :: [(0, .ref b), (1, .ref (A 0)), (2, .ref (A 60)), (3, .ref (A 63)), (4, .int x4)]) hx hb d_La_law_239 hl (by decide) rfl (fun ls hl => ?_)
  replace hP := kp_P (kp_perm A u z.2 f).symm hP
  replace hD := kp_D (kp_perm A u z.2 f).symm hD
  refine lv_goto (tgt := 1460) hx hb d_La_law_241 (by decide) ?_
  refine W.widen (k := cells + 1) (n := slots + 6) (by omega) (by omega) ?_
  exact kk u z.2 f _ _ _ hI hP hD hS (lv_sub hl [2, 3, 4, 5, 6] rfl)
set_option maxRecDepth 100000 in
set_option maxHeartbeats 4000000 in
theorem lc_2 {p : Program} {l : Launch} {e : Env} {s : State} {m : MethodId} {below : List Frame} {meth : Method} {c : Code} {b L : Nat} {xs : Nat → Int32} {D : va_G} {A : Nat → Nat} (I : KS → RS → Prop) (X : lx_ p l s m meth c b L xs D A) {cells slots : Nat} (hc : cells + 1 ≤ room_1.cells) (hsl : slots + 6 ≤ room_1.slots) (x4 : Int32) (h1 : vp_in (x4 + 1) L) (h2 : vp_in (x4 + 2) L) (h3 : vp_in (x4 + 3) L) (σ : KS) (ρ : RS) (f : Nat → Int64) (sim : ∀ x1 x2 x3 : Int32, (∃ (v : Int32) (u : KS) (z : Int32 × RS), f_Ke_fits σ x1 x2 x3 = some (.ok v, u) ∧ f_Mo_fits ρ x1 x2 x3 = some z ∧ gM_code z.2 = 0 ∧ z.1 = v ∧ I u z.2) ∨ (∃ (k : Nat) (u : KS) (z : Int32 × RS), (k = 1 ∨ k = 2 ∨ k = 3 ∨ k = 4) ∧ f_Ke_fits σ x1 x2 x3 = some (.error k, u) ∧ f_Mo_fits ρ x1 x2 x3 = some z ∧ gM_code z.2 = nI k ∧ I u z.2)) {H : Heap} {locs : List Loc} {ls : Array Slot} (hP : va_P D vwCl (kp_C A σ ρ f) H) (hD : va_D (fun q : Nat => s.heap.size ≤ q) (kp_C A σ ρ f)) (hS : va_S (fun q : Nat => s.heap.size ≤ q) s.heap H locs) (hl : lv_has ls 7 [(0, .ref b), (1, .ref (A 0)), (2, .ref (A 60)), (3, .ref (A 63)), (4, .int x4)])
    (kk : ∀ (u : KS) (ρ1 : RS) (f1 : Nat → Int64) (H : Heap) (locs : List Loc) (ls : Array Slot), I u ρ1 → va_P D vwCl (kp_C A u ρ1 f1) H → va_D (fun q : Nat => s.heap.size ≤ q) (kp_C A u ρ1 f1) → va_S (fun q : Nat => s.heap.size ≤ q) s.heap H locs → lv_has ls 7 [(0, .ref b), (1, .ref (A 0)), (2, .ref (A 60)), (3, .ref (A 63)), (4, .int x4)] → W p l e room_1 s m #[Value.ref b] below meth c H locs (cells + 1) (slots + 6) (lw_Z below #[Value.ref b] s) (F0 m 1460 ls [])) : W p l e room_1 s m #[Value.ref b] below meth c H locs cells slots (lw_Z below #[Value.ref b] s) (F0 m 244 ls []) := by
  obtain ⟨hl9, S9, hX, hbl, hlk, hr, hC, X9⟩ := X
  obtain ⟨hx, hb, hml, hown, hts⟩ := id S9
  have hK := X9.2.1
  have hbA : ¬ (fun q : Nat => s.heap.size ≤ q) b := Nat.not_le.mpr hbl
  by_cases cb : xs (x4 + 3).toNatClampNeg = 0
  · rcases sim (xs (x4 + 1).toNatClampNeg) (xs (x4 + 2).toNatClampNeg) 0 with ⟨v, u, z, e1, e2, hI⟩ | ⟨k, u, z, hk, e1, e2, hI⟩
    · refine lv_aload_n hx hb d_La_law_244 rfl (lv_at hl 1 rfl) ?_
      refine lv_aload_n hx hb d_La_law_245 rfl (lv_at hl 0 rfl) ?_
      refine lv_iload hx hb d_La_law_246 (lv_at hl 4 rfl) ?_
      refine lv_iconst (v := 1) hx hb d_La_law_248 (by decide) ?_
      refine lv_iadd hx hb d_La_law_249 ?_
      refine va_sld hx hb hX hbl hbA hS h1 d_La_law_250 ?_
      refine lv_aload_n hx hb d_La_law_251 rfl (lv_at hl 0 rfl) ?_
      refine lv_iload hx hb d_La_law_252 (lv_at hl 4 rfl) ?_
      refine lv_iconst (v := 2) hx hb d_La_law_254 (by decide) ?_
      refine lv_iadd hx hb d_La_law_255 ?_
      refine va_sld hx hb hX hbl hbA hS h2 d_La_law_256 ?_
      refine lv_aload_n hx hb d_La_law_257 rfl (lv_at hl 0 rfl) ?_
      refine lv_iload hx hb d_La_law_258 (lv_at hl 4 rfl) ?_
      refine lv_iconst (v := 3) hx hb d_La_law_260 (by decide) ?_
      refine lv_iadd hx hb d_La_law_261 ?_
      refine va_sld hx hb hX hbl hbA hS h3 d_La_law_262 ?_
      refine lv_if_eq (tgt := 270) hx hb d_La_law_263 (by decide) (fun _ => ?_) (fun c9 => absurd cb c9)
      refine lv_iconst (v := 0) hx hb d_La_law_270 (by decide) ?_
      refine lv_aload_n hx hb d_La_law_271 rfl (lv_at hl 3 rfl) ?_
      refine ka_i (vx_runSW (As := [.ref (A 0), .int (xs (x4 + 1).toNatClampNeg), .int (xs (x4 + 2).toNatClampNeg), .int 0, .ref (A 63)]) (rest := []) S9 (c_La_fits_ok l hl9 D A (MW A ρ []) f _ σ (xs (x4 + 1).toNatClampNeg) (xs (x4 + 2).toNatClampNeg) 0 v u e1) (vx_cwSW 5 hts (tg_SW wl_La_101 ws_La_fits wi_La wo_La_fits) rfl rfl rfl wq_La_fits.2 ⟨Nat.le_of_ble_eq_true rfl, Nat.le_of_ble_eq_true rfl⟩) (ka_preC X9 hC hP hD hS) rfl rfl hl.1 rfl (lv_room (Nat.le_of_ble_eq_true rfl)) d_La_law_272 ⟨Nat.le_trans (Nat.le_succ _) hc, Nat.le_trans (Nat.le_add_right _ 6) hsl⟩) X9 hD hS rfl (fun H locs hP hD hS => ?_)
      refine lv_istore (lv' := (5, .int 0) :: [(0, .ref b), (1, .ref (A 0)), (2, .ref (A 60)), (3, .ref (A 63)), (4, .int x4)]) hx hb d_La_law_275 hl (by decide) rfl (fun ls hl => ?_)
      refine lv_aload_n hx hb d_La_law_277 rfl (lv_at hl 3 rfl) ?_
      refine lv_aload_n hx hb d_La_law_278 rfl (lv_at hl 1 rfl) ?_
      refine lv_iload hx hb d_La_law_279 (lv_at hl 5 rfl) ?_
      refine lv_iconst (v := 1) hx hb d_La_law_281 (by decide) ?_
      refine lv_iadd hx hb d_La_law_282 ?_
      refine va_sld hx hb hX hbl hbA hS h1 d_La_law_283 ?_
      refine lv_aload_n hx hb d_La_law_284 rfl (lv_at hl 1 rfl) ?_
      refine lv_iload hx hb d_La_law_285 (lv_at hl 5 rfl) ?_
      refine lv_iconst (v := 2) hx hb d_La_law_287 (by decide) ?_
      refine lv_iadd hx hb d_La_law_288 ?_
      refine va_sld hx hb hX hbl hbA hS h2 d_La_law_289 ?_
      refine lv_aload_n hx hb d_La_law_290 rfl (lv_at hl 1 rfl) ?_
      refine lv_iload hx hb d_La_law_291 (lv_at hl 5 rfl) ?_
      refine lv_iconst (v := 3) hx hb d_La_law_293 (by decide) ?_
      refine lv_iadd hx hb d_La_law_294 ?_
      refine va_sld hx hb hX hbl hbA hS h3 d_La_law_295 ?_
      refine lv_if_eq (tgt := 303) hx hb d_La_law_296 (by decide) (fun _ => ?_) (fun c9 => absurd cb c9)
      refine lv_iconst (v := 0) hx hb d_La_law_303 (by decide) ?_
      replace hP := kp_P (kp_perm A u ρ (vp_updL f 0 (if v = 0 then 0 else 1))) hP
      replace hD := kp_D (kp_perm A u ρ (vp_updL f 0 (if v = 0 then 0 else 1))) hD
      refine ka_i (va_runV (As := [.int (xs (x4 + 1).toNatClampNeg), .int (xs (x4 + 2).toNatClampNeg), .int 0]) (rest := []) S9 (c_Mo_fits l hl9 D A (GW A u [ka_oc A (vp_updL f 0 (if v = 0 then 0 else 1))]) _ ρ (xs (x4 + 1).toNatClampNeg) (xs (x4 + 2).toNatClampNeg) 0 z e2) (cwV 3 hts (tg_V wl_La_104 wm_Mo_fits we_Mo_fits wi_Mo wo_Mo_fits) rfl rfl rfl wq_Mo_fits ⟨Nat.le_of_ble_eq_true rfl, Nat.le_of_ble_eq_true rfl⟩) (ka_preV X9 hP hD hS 0 rfl rfl) rfl rfl hl.1 rfl (lv_room (Nat.le_of_ble_eq_true rfl)) d_La_law_304 ⟨Nat.le_trans (Nat.le_succ _) hc, Nat.le_trans (Nat.le_add_right _ 6) hsl⟩) X9 hD hS rfl (fun H locs hP hD hS => ?_)
      refine lv_istore (lv' := (6, .int z.1) :: (5, .int 0) :: [(0, .ref b), (1, .ref (A 0)), (2, .ref (A 60)), (3, .ref (A 63)), (4, .int x4)]) hx hb d_La_law_307 hl (by decide) rfl (fun ls hl => ?_)
      refine lv_aload_n hx hb d_La_law_309 rfl (lv_at hl 4 rfl) ?_
      refine ka_i (va_runV (As := []) (rest := []) S9 (c_Mo_thrown l hl9 D A (GW A u [ka_oc A (vp_updL f 0 (if v = 0 then 0 else 1))]) _ z.2 (gM_code z.2) rfl) (cwV 0 hts (tg_V wl_La_105 wm_Mo_thrown we_Mo_thrown wi_Mo wo_Mo_thrown) rfl rfl rfl wq_Mo_thrown ⟨Nat.le_of_ble_eq_true rfl, Nat.le_of_ble_eq_true rfl⟩) (ka_preV X9 hP hD hS 0 rfl rfl) rfl rfl hl.1 rfl (lv_room (Nat.le_of_ble_eq_true rfl)) d_La_law_310 ⟨Nat.le_trans (Nat.le_succ _) hc, Nat.le_trans (Nat.le_add_right _ 6) hsl⟩) X9 hD hS rfl (fun H locs hP hD hS => ?_)
      replace hP := kp_P (kp_perm A u z.2 (vp_updL f 0 (if v = 0 then 0 else 1))).symm hP
      replace hD := kp_D (kp_perm A u z.2 (vp_updL f 0 (if v = 0 then 0 else 1))).symm hD
      refine lv_iload hx hb d_La_law_313 (lv_at hl 1 rfl) ?_
      refine lv_icmp_eq (tgt := 320) hx hb d_La_law_315 (by decide) (fun _ => ?_) (fun c9 => absurd hI.1 c9)
      refine lv_iload hx hb d_La_law_320 (lv_at hl 1 rfl) ?_
      refine lv_if_ne (tgt := 344) hx hb d_La_law_322 (by decide) (fun c9 => absurd rfl c9) (fun _ => ?_)
      refine lv_aload_n hx hb d_La_law_325 rfl (lv_at hl 5 rfl) ?_
      refine lv_iconst (v := 0) hx hb d_La_law_326 (by decide) ?_
      refine va_lald hx hb hK hP 47 2 rfl rfl (by unfold vp_in; decide) d_La_law_327 ?_
      refine lv_iload hx hb d_La_law_328 (lv_at hl 0 rfl) ?_
      refine lv_if_eq (tgt := 337) hx hb d_La_law_330 (by decide) (fun c8 => ?_) (fun c8 => ?_)
      · refine lv_lconst (v := 0) hx hb d_La_law_337 (by decide) ?_
        refine W.lcmp hx hb d_La_law_338 ?_
        refine lv_if_eq (tgt := 344) hx hb d_La_law_339 (by decide) (fun _ => ?_) (fun c9 => absurd (kp_cmp (by show (if v = 0 then (0 : Int64) else 1) = 0; rw [if_pos (by rw [← hI.2.1]; exact c8)])) c9)
        refine lv_goto (tgt := 1460) hx hb d_La_law_344 (by decide) ?_
        refine W.widen (k := cells + 1) (n := slots + 6) (by omega) (by omega) ?_
        exact kk u z.2 (vp_updL f 0 (if v = 0 then 0 else 1)) _ _ _ hI.2.2 hP hD hS (lv_sub hl [2, 3, 4, 5, 6] rfl)
      refine lv_lconst (v := 1) hx hb d_La_law_333 (by decide) ?_
      refine lv_goto (tgt := 338) hx hb d_La_law_334 (by decide) ?_
      refine W.lcmp hx hb d_La_law_338 ?_
      refine lv_if_eq (tgt := 344) hx hb d_La_law_339 (by decide) (fun _ => ?_) (fun c9 => absurd (kp_cmp (by show (if v = 0 then (0 : Int64) else 1) = 1; rw [if_neg (by rw [← hI.2.1]; exact c8)])) c9)
      refine lv_goto (tgt := 1460) hx hb d_La_law_344 (by decide) ?_
      refine W.widen (k := cells + 1) (n := slots + 6) (by omega) (by omega) ?_
      exact kk u z.2 (vp_updL f 0 (if v = 0 then 0 else 1)) _ _ _ hI.2.2 hP hD hS (lv_sub hl [2, 3, 4, 5, 6] rfl)
    refine lv_aload_n hx hb d_La_law_244 rfl (lv_at hl 1 rfl) ?_
    refine lv_aload_n hx hb d_La_law_245 rfl (lv_at hl 0 rfl) ?_
    refine lv_iload hx hb d_La_law_246 (lv_at hl 4 rfl) ?_
    refine lv_iconst (v := 1) hx hb d_La_law_248 (by decide) ?_
    refine lv_iadd hx hb d_La_law_249 ?_
    refine va_sld hx hb hX hbl hbA hS h1 d_La_law_250 ?_
    refine lv_aload_n hx hb d_La_law_251 rfl (lv_at hl 0 rfl) ?_
    refine lv_iload hx hb d_La_law_252 (lv_at hl 4 rfl) ?_
    refine lv_iconst (v := 2) hx hb d_La_law_254 (by decide) ?_
    refine lv_iadd hx hb d_La_law_255 ?_
    refine va_sld hx hb hX hbl hbA hS h2 d_La_law_256 ?_
    refine lv_aload_n hx hb d_La_law_257 rfl (lv_at hl 0 rfl) ?_
    refine lv_iload hx hb d_La_law_258 (lv_at hl 4 rfl) ?_
    refine lv_iconst (v := 3) hx hb d_La_law_260 (by decide) ?_
    refine lv_iadd hx hb d_La_law_261 ?_
    refine va_sld hx hb hX hbl hbA hS h3 d_La_law_262 ?_
    refine lv_if_eq (tgt := 270) hx hb d_La_law_263 (by decide) (fun _ => ?_) (fun c9 => absurd cb c9)
    refine lv_iconst (v := 0) hx hb d_La_law_270 (by decide) ?_
    refine lv_aload_n hx hb d_La_law_271 rfl (lv_at hl 3 rfl) ?_
    refine ka_i (vx_runSW (As := [.ref (A 0), .int (xs (x4 + 1).toNatClampNeg), .int (xs (x4 + 2).toNatClampNeg), .int 0, .ref (A 63)]) (rest := []) S9 (c_La_fits_err l hl9 D A (MW A ρ []) f _ σ (xs (x4 + 1).toNatClampNeg) (xs (x4 + 2).toNatClampNeg) 0 k hk u e1) (vx_cwSW 5 hts (tg_SW wl_La_101 ws_La_fits wi_La wo_La_fits) rfl rfl rfl wq_La_fits.2 ⟨Nat.le_of_ble_eq_true rfl, Nat.le_of_ble_eq_true rfl⟩) (ka_preC X9 hC hP hD hS) rfl rfl hl.1 rfl (lv_room (Nat.le_of_ble_eq_true rfl)) d_La_law_272 ⟨hc, hsl⟩) X9 hD hS rfl (fun H locs hP hD hS => ?_)
    refine lv_istore (lv' := (5, .int (nI k)) :: [(0, .ref b), (1, .ref (A 0)), (2, .ref (A 60)), (3, .ref (A 63)), (4, .int x4)]) hx hb d_La_law_275 hl (by decide) rfl (fun ls hl => ?_)
    refine lv_aload_n hx hb d_La_law_277 rfl (lv_at hl 3 rfl) ?_
    refine lv_aload_n hx hb d_La_law_278 rfl (lv_at hl 1 rfl) ?_
    refine lv_iload hx hb d_La_law_279 (lv_at hl 5 rfl) ?_
    refine lv_iconst (v := 1) hx hb d_La_law_281 (by decide) ?_
    refine lv_iadd hx hb d_La_law_282 ?_
    refine va_sld hx hb hX hbl hbA hS h1 d_La_law_283 ?_
    refine lv_aload_n hx hb d_La_law_284 rfl (lv_at hl 1 rfl) ?_
    refine lv_iload hx hb d_La_law_285 (lv_at hl 5 rfl) ?_
    refine lv_iconst (v := 2) hx hb d_La_law_287 (by decide) ?_
    refine lv_iadd hx hb d_La_law_288 ?_
    refine va_sld hx hb hX hbl hbA hS h2 d_La_law_289 ?_
    refine lv_aload_n hx hb d_La_law_290 rfl (lv_at hl 1 rfl) ?_
    refine lv_iload hx hb d_La_law_291 (lv_at hl 5 rfl) ?_
    refine lv_iconst (v := 3) hx hb d_La_law_293 (by decide) ?_
    refine lv_iadd hx hb d_La_law_294 ?_
    refine va_sld hx hb hX hbl hbA hS h3 d_La_law_295 ?_
    refine lv_if_eq (tgt := 303) hx hb d_La_law_296 (by decide) (fun _ => ?_) (fun c9 => absurd cb c9)
    refine lv_iconst (v := 0) hx hb d_La_law_303 (by decide) ?_
    replace hP := kp_P (kp_perm A u ρ f) hP
    replace hD := kp_D (kp_perm A u ρ f) hD
    refine ka_i (va_runV (As := [.int (xs (x4 + 1).toNatClampNeg), .int (xs (x4 + 2).toNatClampNeg), .int 0]) (rest := []) S9 (c_Mo_fits l hl9 D A (GW A u [ka_oc A f]) _ ρ (xs (x4 + 1).toNatClampNeg) (xs (x4 + 2).toNatClampNeg) 0 z e2) (cwV 3 hts (tg_V wl_La_104 wm_Mo_fits we_Mo_fits wi_Mo wo_Mo_fits) rfl rfl rfl wq_Mo_fits ⟨Nat.le_of_ble_eq_true rfl, Nat.le_of_ble_eq_true rfl⟩) (ka_preV X9 hP hD hS 0 rfl rfl) rfl rfl hl.1 rfl (lv_room (Nat.le_of_ble_eq_true rfl)) d_La_law_304 ⟨hc, hsl⟩) X9 hD hS rfl (fun H locs hP hD hS => ?_)
    refine lv_istore (lv' := (6, .int z.1) :: (5, .int (nI k)) :: [(0, .ref b), (1, .ref (A 0)), (2, .ref (A 60)), (3, .ref (A 63)), (4, .int x4)]) hx hb d_La_law_307 hl (by decide) rfl (fun ls hl => ?_)
    refine lv_aload_n hx hb d_La_law_309 rfl (lv_at hl 4 rfl) ?_
    refine ka_i (va_runV (As := []) (rest := []) S9 (c_Mo_thrown l hl9 D A (GW A u [ka_oc A f]) _ z.2 (gM_code z.2) rfl) (cwV 0 hts (tg_V wl_La_105 wm_Mo_thrown we_Mo_thrown wi_Mo wo_Mo_thrown) rfl rfl rfl wq_Mo_thrown ⟨Nat.le_of_ble_eq_true rfl, Nat.le_of_ble_eq_true rfl⟩) (ka_preV X9 hP hD hS 0 rfl rfl) rfl rfl hl.1 rfl (lv_room (Nat.le_of_ble_eq_true rfl)) d_La_law_310 ⟨hc, hsl⟩) X9 hD hS rfl (fun H locs hP hD hS => ?_)
    replace hP := kp_P (kp_perm A u z.2 f).symm hP
    replace hD := kp_D (kp_perm A u z.2 f).symm hD
    refine lv_iload hx hb d_La_law_313 (lv_at hl 1 rfl) ?_
    refine lv_icmp_eq (tgt := 320) hx hb d_La_law_315 (by decide) (fun _ => ?_) (fun c9 => absurd hI.1 c9)
    refine lv_iload hx hb d_La_law_320 (lv_at hl 1 rfl) ?_
    refine lv_if_ne (tgt := 344) hx hb d_La_law_322 (by decide) (fun _ => ?_) (fun c9 => absurd c9 (by rcases hk with rfl | rfl | rfl | rfl <;> decide))
    refine lv_goto (tgt := 1460) hx hb d_La_law_344 (by decide) ?_
    refine W.widen (k := cells + 1) (n := slots + 6) (by omega) (by omega) ?_
    exact kk u z.2 f _ _ _ hI.2 hP hD hS (lv_sub hl [2, 3, 4, 5, 6] rfl)
  rcases sim (xs (x4 + 1).toNatClampNeg) (xs (x4 + 2).toNatClampNeg) 1 with ⟨v, u, z, e1, e2, hI⟩ | ⟨k, u, z, hk, e1, e2, hI⟩
  · refine lv_aload_n hx hb d_La_law_244 rfl (lv_at hl 1 rfl) ?_
    refine lv_aload_n hx hb d_La_law_245 rfl (lv_at hl 0 rfl) ?_
    refine lv_iload hx hb d_La_law_246 (lv_at hl 4 rfl) ?_
    refine lv_iconst (v := 1) hx hb d_La_law_248 (by decide) ?_
    refine lv_iadd hx hb d_La_law_249 ?_
    refine va_sld hx hb hX hbl hbA hS h1 d_La_law_250 ?_
    refine lv_aload_n hx hb d_La_law_251 rfl (lv_at hl 0 rfl) ?_
    refine lv_iload hx hb d_La_law_252 (lv_at hl 4 rfl) ?_
    refine lv_iconst (v := 2) hx hb d_La_law_254 (by decide) ?_
    refine lv_iadd hx hb d_La_law_255 ?_
    refine va_sld hx hb hX hbl hbA hS h2 d_La_law_256 ?_
    refine lv_aload_n hx hb d_La_law_257 rfl (lv_at hl 0 rfl) ?_
    refine lv_iload hx hb d_La_law_258 (lv_at hl 4 rfl) ?_
    refine lv_iconst (v := 3) hx hb d_La_law_260 (by decide) ?_
    refine lv_iadd hx hb d_La_law_261 ?_
    refine va_sld hx hb hX hbl hbA hS h3 d_La_law_262 ?_
    refine lv_if_eq (tgt := 270) hx hb d_La_law_263 (by decide) (fun c9 => absurd c9 cb) (fun _ => ?_)
    refine lv_iconst (v := 1) hx hb d_La_law_266 (by decide) ?_
    refine lv_goto (tgt := 271) hx hb d_La_law_267 (by decide) ?_
    refine lv_aload_n hx hb d_La_law_271 rfl (lv_at hl 3 rfl) ?_
    refine ka_i (vx_runSW (As := [.ref (A 0), .int (xs (x4 + 1).toNatClampNeg), .int (xs (x4 + 2).toNatClampNeg), .int 1, .ref (A 63)]) (rest := []) S9 (c_La_fits_ok l hl9 D A (MW A ρ []) f _ σ (xs (x4 + 1).toNatClampNeg) (xs (x4 + 2).toNatClampNeg) 1 v u e1) (vx_cwSW 5 hts (tg_SW wl_La_101 ws_La_fits wi_La wo_La_fits) rfl rfl rfl wq_La_fits.2 ⟨Nat.le_of_ble_eq_true rfl, Nat.le_of_ble_eq_true rfl⟩) (ka_preC X9 hC hP hD hS) rfl rfl hl.1 rfl (lv_room (Nat.le_of_ble_eq_true rfl)) d_La_law_272 ⟨Nat.le_trans (Nat.le_succ _) hc, Nat.le_trans (Nat.le_add_right _ 6) hsl⟩) X9 hD hS rfl (fun H locs hP hD hS => ?_)
    refine lv_istore (lv' := (5, .int 0) :: [(0, .ref b), (1, .ref (A 0)), (2, .ref (A 60)), (3, .ref (A 63)), (4, .int x4)]) hx hb d_La_law_275 hl (by decide) rfl (fun ls hl => ?_)
    refine lv_aload_n hx hb d_La_law_277 rfl (lv_at hl 3 rfl) ?_
    refine lv_aload_n hx hb d_La_law_278 rfl (lv_at hl 1 rfl) ?_
    refine lv_iload hx hb d_La_law_279 (lv_at hl 5 rfl) ?_
    refine lv_iconst (v := 1) hx hb d_La_law_281 (by decide) ?_
    refine lv_iadd hx hb d_La_law_282 ?_
    refine va_sld hx hb hX hbl hbA hS h1 d_La_law_283 ?_
    refine lv_aload_n hx hb d_La_law_284 rfl (lv_at hl 1 rfl) ?_
    refine lv_iload hx hb d_La_law_285 (lv_at hl 5 rfl) ?_
    refine lv_iconst (v := 2) hx hb d_La_law_287 (by decide) ?_
    refine lv_iadd hx hb d_La_law_288 ?_
    refine va_sld hx hb hX hbl hbA hS h2 d_La_law_289 ?_
    refine lv_aload_n hx hb d_La_law_290 rfl (lv_at hl 1 rfl) ?_
    refine lv_iload hx hb d_La_law_291 (lv_at hl 5 rfl) ?_
    refine lv_iconst (v := 3) hx hb d_La_law_293 (by decide) ?_
    refine lv_iadd hx hb d_La_law_294 ?_
    refine va_sld hx hb hX hbl hbA hS h3 d_La_law_295 ?_
    refine lv_if_eq (tgt := 303) hx hb d_La_law_296 (by decide) (fun c9 => absurd c9 cb) (fun _ => ?_)
    refine lv_iconst (v := 1) hx hb d_La_law_299 (by decide) ?_
    refine lv_goto (tgt := 304) hx hb d_La_law_300 (by decide) ?_
    replace hP := kp_P (kp_perm A u ρ (vp_updL f 0 (if v = 0 then 0 else 1))) hP
    replace hD := kp_D (kp_perm A u ρ (vp_updL f 0 (if v = 0 then 0 else 1))) hD
    refine ka_i (va_runV (As := [.int (xs (x4 + 1).toNatClampNeg), .int (xs (x4 + 2).toNatClampNeg), .int 1]) (rest := []) S9 (c_Mo_fits l hl9 D A (GW A u [ka_oc A (vp_updL f 0 (if v = 0 then 0 else 1))]) _ ρ (xs (x4 + 1).toNatClampNeg) (xs (x4 + 2).toNatClampNeg) 1 z e2) (cwV 3 hts (tg_V wl_La_104 wm_Mo_fits we_Mo_fits wi_Mo wo_Mo_fits) rfl rfl rfl wq_Mo_fits ⟨Nat.le_of_ble_eq_true rfl, Nat.le_of_ble_eq_true rfl⟩) (ka_preV X9 hP hD hS 0 rfl rfl) rfl rfl hl.1 rfl (lv_room (Nat.le_of_ble_eq_true rfl)) d_La_law_304 ⟨Nat.le_trans (Nat.le_succ _) hc, Nat.le_trans (Nat.le_add_right _ 6) hsl⟩) X9 hD hS rfl (fun H locs hP hD hS => ?_)
    refine lv_istore (lv' := (6, .int z.1) :: (5, .int 0) :: [(0, .ref b), (1, .ref (A 0)), (2, .ref (A 60)), (3, .ref (A 63)), (4, .int x4)]) hx hb d_La_law_307 hl (by decide) rfl (fun ls hl => ?_)
    refine lv_aload_n hx hb d_La_law_309 rfl (lv_at hl 4 rfl) ?_
    refine ka_i (va_runV (As := []) (rest := []) S9 (c_Mo_thrown l hl9 D A (GW A u [ka_oc A (vp_updL f 0 (if v = 0 then 0 else 1))]) _ z.2 (gM_code z.2) rfl) (cwV 0 hts (tg_V wl_La_105 wm_Mo_thrown we_Mo_thrown wi_Mo wo_Mo_thrown) rfl rfl rfl wq_Mo_thrown ⟨Nat.le_of_ble_eq_true rfl, Nat.le_of_ble_eq_true rfl⟩) (ka_preV X9 hP hD hS 0 rfl rfl) rfl rfl hl.1 rfl (lv_room (Nat.le_of_ble_eq_true rfl)) d_La_law_310 ⟨Nat.le_trans (Nat.le_succ _) hc, Nat.le_trans (Nat.le_add_right _ 6) hsl⟩) X9 hD hS rfl (fun H locs hP hD hS => ?_)
    replace hP := kp_P (kp_perm A u z.2 (vp_updL f 0 (if v = 0 then 0 else 1))).symm hP
    replace hD := kp_D (kp_perm A u z.2 (vp_updL f 0 (if v = 0 then 0 else 1))).symm hD
    refine lv_iload hx hb d_La_law_313 (lv_at hl 1 rfl) ?_
    refine lv_icmp_eq (tgt := 320) hx hb d_La_law_315 (by decide) (fun _ => ?_) (fun c9 => absurd hI.1 c9)
    refine lv_iload hx hb d_La_law_320 (lv_at hl 1 rfl) ?_
    refine lv_if_ne (tgt := 344) hx hb d_La_law_322 (by decide) (fun c9 => absurd rfl c9) (fun _ => ?_)
    refine lv_aload_n hx hb d_La_law_325 rfl (lv_at hl 5 rfl) ?_
    refine lv_iconst (v := 0) hx hb d_La_law_326 (by decide) ?_
    refine va_lald hx hb hK hP 47 2 rfl rfl (by unfold vp_in; decide) d_La_law_327 ?_
    refine lv_iload hx hb d_La_law_328 (lv_at hl 0 rfl) ?_
    refine lv_if_eq (tgt := 337) hx hb d_La_law_330 (by decide) (fun c8 => ?_) (fun c8 => ?_)
    · refine lv_lconst (v := 0) hx hb d_La_law_337 (by decide) ?_
      refine W.lcmp hx hb d_La_law_338 ?_
      refine lv_if_eq (tgt := 344) hx hb d_La_law_339 (by decide) (fun _ => ?_) (fun c9 => absurd (kp_cmp (by show (if v = 0 then (0 : Int64) else 1) = 0; rw [if_pos (by rw [← hI.2.1]; exact c8)])) c9)
      refine lv_goto (tgt := 1460) hx hb d_La_law_344 (by decide) ?_
      refine W.widen (k := cells + 1) (n := slots + 6) (by omega) (by omega) ?_
      exact kk u z.2 (vp_updL f 0 (if v = 0 then 0 else 1)) _ _ _ hI.2.2 hP hD hS (lv_sub hl [2, 3, 4, 5, 6] rfl)
    refine lv_lconst (v := 1) hx hb d_La_law_333 (by decide) ?_
    refine lv_goto (tgt := 338) hx hb d_La_law_334 (by decide) ?_
    refine W.lcmp hx hb d_La_law_338 ?_
    refine lv_if_eq (tgt := 344) hx hb d_La_law_339 (by decide) (fun _ => ?_) (fun c9 => absurd (kp_cmp (by show (if v = 0 then (0 : Int64) else 1) = 1; rw [if_neg (by rw [← hI.2.1]; exact c8)])) c9)
    refine lv_goto (tgt := 1460) hx hb d_La_law_344 (by decide) ?_
    refine W.widen (k := cells + 1) (n := slots + 6) (by omega) (by omega) ?_
    exact kk u z.2 (vp_updL f 0 (if v = 0 then 0 else 1)) _ _ _ hI.2.2 hP hD hS (lv_sub hl [2, 3, 4, 5, 6] rfl)
  refine lv_aload_n hx hb d_La_law_244 rfl (lv_at hl 1 rfl) ?_
  refine lv_aload_n hx hb d_La_law_245 rfl (lv_at hl 0 rfl) ?_
  refine lv_iload hx hb d_La_law_246 (lv_at hl 4 rfl) ?_
  refine lv_iconst (v := 1) hx hb d_La_law_248 (by decide) ?_
  refine lv_iadd hx hb d_La_law_249 ?_
  refine va_sld hx hb hX hbl hbA hS h1 d_La_law_250 ?_
  refine lv_aload_n hx hb d_La_law_251 rfl (lv_at hl 0 rfl) ?_
  refine lv_iload hx hb d_La_law_252 (lv_at hl 4 rfl) ?_
  refine lv_iconst (v := 2) hx hb d_La_law_254 (by decide) ?_
  refine lv_iadd hx hb d_La_law_255 ?_
  refine va_sld hx hb hX hbl hbA hS h2 d_La_law_256 ?_
  refine lv_aload_n hx hb d_La_law_257 rfl (lv_at hl 0 rfl) ?_
  refine lv_iload hx hb d_La_law_258 (lv_at hl 4 rfl) ?_
  refine lv_iconst (v := 3) hx hb d_La_law_260 (by decide) ?_
  refine lv_iadd hx hb d_La_law_261 ?_
  refine va_sld hx hb hX hbl hbA hS h3 d_La_law_262 ?_
  refine lv_if_eq (tgt := 270) hx hb d_La_law_263 (by decide) (fun c9 => absurd c9 cb) (fun _ => ?_)
  refine lv_iconst (v := 1) hx hb d_La_law_266 (by decide) ?_
  refine lv_goto (tgt := 271) hx hb d_La_law_267 (by decide) ?_
  refine lv_aload_n hx hb d_La_law_271 rfl (lv_at hl 3 rfl) ?_
  refine ka_i (vx_runSW (As := [.ref (A 0), .int (xs (x4 + 1).toNatClampNeg), .int (xs (x4 + 2).toNatClampNeg), .int 1, .ref (A 63)]) (rest := []) S9 (c_La_fits_err l hl9 D A (MW A ρ []) f _ σ (xs (x4 + 1).toNatClampNeg) (xs (x4 + 2).toNatClampNeg) 1 k hk u e1) (vx_cwSW 5 hts (tg_SW wl_La_101 ws_La_fits wi_La wo_La_fits) rfl rfl rfl wq_La_fits.2 ⟨Nat.le_of_ble_eq_true rfl, Nat.le_of_ble_eq_true rfl⟩) (ka_preC X9 hC hP hD hS) rfl rfl hl.1 rfl (lv_room (Nat.le_of_ble_eq_true rfl)) d_La_law_272 ⟨hc, hsl⟩) X9 hD hS rfl (fun H locs hP hD hS => ?_)
  refine lv_istore (lv' := (5, .int (nI k)) :: [(0, .ref b), (1, .ref (A 0)), (2, .ref (A 60)), (3, .ref (A 63)), (4, .int x4)]) hx hb d_La_law_275 hl (by decide) rfl (fun ls hl => ?_)
  refine lv_aload_n hx hb d_La_law_277 rfl (lv_at hl 3 rfl) ?_
  refine lv_aload_n hx hb d_La_law_278 rfl (lv_at hl 1 rfl) ?_
  refine lv_iload hx hb d_La_law_279 (lv_at hl 5 rfl) ?_
  refine lv_iconst (v := 1) hx hb d_La_law_281 (by decide) ?_
  refine lv_iadd hx hb d_La_law_282 ?_
  refine va_sld hx hb hX hbl hbA hS h1 d_La_law_283 ?_
  refine lv_aload_n hx hb d_La_law_284 rfl (lv_at hl 1 rfl) ?_
  refine lv_iload hx hb d_La_law_285 (lv_at hl 5 rfl) ?_
  refine lv_iconst (v := 2) hx hb d_La_law_287 (by decide) ?_
  refine lv_iadd hx hb d_La_law_288 ?_
  refine va_sld hx hb hX hbl hbA hS h2 d_La_law_289 ?_
  refine lv_aload_n hx hb d_La_law_290 rfl (lv_at hl 1 rfl) ?_
  refine lv_iload hx hb d_La_law_291 (lv_at hl 5 rfl) ?_
  refine lv_iconst (v := 3) hx hb d_La_law_293 (by decide) ?_
  refine lv_iadd hx hb d_La_law_294 ?_
  refine va_sld hx hb hX hbl hbA hS h3 d_La_law_295 ?_
  refine lv_if_eq (tgt := 303) hx hb d_La_law_296 (by decide) (fun c9 => absurd c9 cb) (fun _ => ?_)
  refine lv_iconst (v := 1) hx hb d_La_law_299 (by decide) ?_
  refine lv_goto (tgt := 304) hx hb d_La_law_300 (by decide) ?_
  replace hP := kp_P (kp_perm A u ρ f) hP
  replace hD := kp_D (kp_perm A u ρ f) hD
  refine ka_i (va_runV (As := [.int (xs (x4 + 1).toNatClampNeg), .int (xs (x4 + 2).toNatClampNeg), .int 1]) (rest := []) S9 (c_Mo_fits l hl9 D A (GW A u [ka_oc A f]) _ ρ (xs (x4 + 1).toNatClampNeg) (xs (x4 + 2).toNatClampNeg) 1 z e2) (cwV 3 hts (tg_V wl_La_104 wm_Mo_fits we_Mo_fits wi_Mo wo_Mo_fits) rfl rfl rfl wq_Mo_fits ⟨Nat.le_of_ble_eq_true rfl, Nat.le_of_ble_eq_true rfl⟩) (ka_preV X9 hP hD hS 0 rfl rfl) rfl rfl hl.1 rfl (lv_room (Nat.le_of_ble_eq_true rfl)) d_La_law_304 ⟨hc, hsl⟩) X9 hD hS rfl (fun H locs hP hD hS => ?_)
  refine lv_istore (lv' := (6, .int z.1) :: (5, .int (nI k)) :: [(0, .ref b), (1, .ref (A 0)), (2, .ref (A 60)), (3, .ref (A 63)), (4, .int x4)]) hx hb d_La_law_307 hl (by decide) rfl (fun ls hl => ?_)
  refine lv_aload_n hx hb d_La_law_309 rfl (lv_at hl 4 rfl) ?_
  refine ka_i (va_runV (As := []) (rest := []) S9 (c_Mo_thrown l hl9 D A (GW A u [ka_oc A f]) _ z.2 (gM_code z.2) rfl) (cwV 0 hts (tg_V wl_La_105 wm_Mo_thrown we_Mo_thrown wi_Mo wo_Mo_thrown) rfl rfl rfl wq_Mo_thrown ⟨Nat.le_of_ble_eq_true rfl, Nat.le_of_ble_eq_true rfl⟩) (ka_preV X9 hP hD hS 0 rfl rfl) rfl rfl hl.1 rfl (lv_room (Nat.le_of_ble_eq_true rfl)) d_La_law_310 ⟨hc, hsl⟩) X9 hD hS rfl (fun H locs hP hD hS => ?_)
  replace hP := kp_P (kp_perm A u z.2 f).symm hP
  replace hD := kp_D (kp_perm A u z.2 f).symm hD
  refine lv_iload hx hb d_La_law_313 (lv_at hl 1 rfl) ?_
  refine lv_icmp_eq (tgt := 320) hx hb d_La_law_315 (by decide) (fun _ => ?_) (fun c9 => absurd hI.1 c9)
  refine lv_iload hx hb d_La_law_320 (lv_at hl 1 rfl) ?_
  refine lv_if_ne (tgt := 344) hx hb d_La_law_322 (by decide) (fun _ => ?_) (fun c9 => absurd c9 (by rcases hk with rfl | rfl | rfl | rfl <;> decide))
  refine lv_goto (tgt := 1460) hx hb d_La_law_344 (by decide) ?_
  refine W.widen (k := cells + 1) (n := slots + 6) (by omega) (by omega) ?_
  exact kk u z.2 f _ _ _ hI.2 hP hD hS (lv_sub hl [2, 3, 4, 5, 6] rfl)
set_option maxRecDepth 100000 in
set_option maxHeartbeats 4000000 in
theorem lc_3 {p : Program} {l : Launch} {e : Env} {s : State} {m : MethodId} {below : List Frame} {meth : Method} {c : Code} {b L : Nat} {xs : Nat → Int32} {D : va_G} {A : Nat → Nat} (I : KS → RS → Prop) (X : lx_ p l s m meth c b L xs D A) {cells slots : Nat} (hc : cells + 1 ≤ room_1.cells) (hsl : slots + 6 ≤ room_1.slots) (x4 : Int32) (h1 : vp_in (x4 + 1) L) (σ : KS) (ρ : RS) (f : Nat → Int64) (sim : ∀ x1 : Int32, (∃ (v : Int32) (u : KS) (z : Int32 × RS), f_Ke_category σ x1 = some (.ok v, u) ∧ f_Mo_category ρ x1 = some z ∧ I u z.2) ∨ (∃ (k : Nat) (u : KS) (z : Int32 × RS), (k = 1 ∨ k = 2 ∨ k = 3 ∨ k = 4) ∧ f_Ke_category σ x1 = some (.error k, u) ∧ f_Mo_category ρ x1 = some z ∧ I u z.2)) {H : Heap} {locs : List Loc} {ls : Array Slot} (hP : va_P D vwCl (kp_C A σ ρ f) H) (hD : va_D (fun q : Nat => s.heap.size ≤ q) (kp_C A σ ρ f)) (hS : va_S (fun q : Nat => s.heap.size ≤ q) s.heap H locs) (hl : lv_has ls 7 [(0, .ref b), (1, .ref (A 0)), (2, .ref (A 60)), (3, .ref (A 63)), (4, .int x4)])
    (kk : ∀ (u : KS) (ρ1 : RS) (f1 : Nat → Int64) (H : Heap) (locs : List Loc) (ls : Array Slot), I u ρ1 → va_P D vwCl (kp_C A u ρ1 f1) H → va_D (fun q : Nat => s.heap.size ≤ q) (kp_C A u ρ1 f1) → va_S (fun q : Nat => s.heap.size ≤ q) s.heap H locs → lv_has ls 7 [(0, .ref b), (1, .ref (A 0)), (2, .ref (A 60)), (3, .ref (A 63)), (4, .int x4)] → W p l e room_1 s m #[Value.ref b] below meth c H locs (cells + 1) (slots + 6) (lw_Z below #[Value.ref b] s) (F0 m 1460 ls [])) : W p l e room_1 s m #[Value.ref b] below meth c H locs cells slots (lw_Z below #[Value.ref b] s) (F0 m 347 ls []) := by
  obtain ⟨hl9, S9, hX, hbl, hlk, hr, hC, X9⟩ := X
  obtain ⟨hx, hb, hml, hown, hts⟩ := id S9
  have hK := X9.2.1
  have hbA : ¬ (fun q : Nat => s.heap.size ≤ q) b := Nat.not_le.mpr hbl
  rcases sim (xs (x4 + 1).toNatClampNeg) with ⟨v, u, z, e1, e2, hI⟩ | ⟨k, u, z, hk, e1, e2, hI⟩
  · refine lv_aload_n hx hb d_La_law_347 rfl (lv_at hl 1 rfl) ?_
    refine lv_aload_n hx hb d_La_law_348 rfl (lv_at hl 0 rfl) ?_
    refine lv_iload hx hb d_La_law_349 (lv_at hl 4 rfl) ?_
    refine lv_iconst (v := 1) hx hb d_La_law_351 (by decide) ?_
    refine lv_iadd hx hb d_La_law_352 ?_
    refine va_sld hx hb hX hbl hbA hS h1 d_La_law_353 ?_
    refine lv_aload_n hx hb d_La_law_354 rfl (lv_at hl 3 rfl) ?_
    refine ka_i (vx_runSW (As := [.ref (A 0), .int (xs (x4 + 1).toNatClampNeg), .ref (A 63)]) (rest := []) S9 (c_La_category_ok l hl9 D A (MW A ρ []) f _ σ (xs (x4 + 1).toNatClampNeg) v u e1) (vx_cwSW 3 hts (tg_SW wl_La_109 ws_La_category wi_La wo_La_category) rfl rfl rfl wq_La_category.2 ⟨Nat.le_of_ble_eq_true rfl, Nat.le_of_ble_eq_true rfl⟩) (ka_preC X9 hC hP hD hS) rfl rfl hl.1 rfl (lv_room (Nat.le_of_ble_eq_true rfl)) d_La_law_355 ⟨Nat.le_trans (Nat.le_succ _) hc, Nat.le_trans (Nat.le_add_right _ 6) hsl⟩) X9 hD hS rfl (fun H locs hP hD hS => ?_)
    refine lv_istore (lv' := (5, .int 0) :: [(0, .ref b), (1, .ref (A 0)), (2, .ref (A 60)), (3, .ref (A 63)), (4, .int x4)]) hx hb d_La_law_358 hl (by decide) rfl (fun ls hl => ?_)
    refine lv_aload_n hx hb d_La_law_360 rfl (lv_at hl 3 rfl) ?_
    refine lv_aload_n hx hb d_La_law_361 rfl (lv_at hl 1 rfl) ?_
    refine lv_iload hx hb d_La_law_362 (lv_at hl 5 rfl) ?_
    refine lv_iconst (v := 1) hx hb d_La_law_364 (by decide) ?_
    refine lv_iadd hx hb d_La_law_365 ?_
    refine va_sld hx hb hX hbl hbA hS h1 d_La_law_366 ?_
    replace hP := kp_P (kp_perm A u ρ (vp_updL f 0 v.toInt64)) hP
    replace hD := kp_D (kp_perm A u ρ (vp_updL f 0 v.toInt64)) hD
    refine ka_i (va_runV (As := [.int (xs (x4 + 1).toNatClampNeg)]) (rest := []) S9 (c_Mo_category l hl9 D A (GW A u [ka_oc A (vp_updL f 0 v.toInt64)]) _ ρ (xs (x4 + 1).toNatClampNeg) z e2) (cwV 1 hts (tg_V wl_La_112 wm_Mo_category we_Mo_category wi_Mo wo_Mo_category) rfl rfl rfl wq_Mo_category ⟨Nat.le_of_ble_eq_true rfl, Nat.le_of_ble_eq_true rfl⟩) (ka_preV X9 hP hD hS 0 rfl rfl) rfl rfl hl.1 rfl (lv_room (Nat.le_of_ble_eq_true rfl)) d_La_law_367 ⟨Nat.le_trans (Nat.le_succ _) hc, Nat.le_trans (Nat.le_add_right _ 6) hsl⟩) X9 hD hS rfl (fun H locs hP hD hS => ?_)
    refine lv_istore (lv' := (6, .int z.1) :: (5, .int 0) :: [(0, .ref b), (1, .ref (A 0)), (2, .ref (A 60)), (3, .ref (A 63)), (4, .int x4)]) hx hb d_La_law_370 hl (by decide) rfl (fun ls hl => ?_)
    replace hP := kp_P (kp_perm A u z.2 (vp_updL f 0 v.toInt64)).symm hP
    replace hD := kp_D (kp_perm A u z.2 (vp_updL f 0 v.toInt64)).symm hD
    refine lv_goto (tgt := 1460) hx hb d_La_law_372 (by decide) ?_
    refine W.widen (k := cells + 1) (n := slots + 6) (by omega) (by omega) ?_
    exact kk u z.2 (vp_updL f 0 v.toInt64) _ _ _ hI hP hD hS (lv_sub hl [2, 3, 4, 5, 6] rfl)
  refine lv_aload_n hx hb d_La_law_347 rfl (lv_at hl 1 rfl) ?_
  refine lv_aload_n hx hb d_La_law_348 rfl (lv_at hl 0 rfl) ?_
  refine lv_iload hx hb d_La_law_349 (lv_at hl 4 rfl) ?_
  refine lv_iconst (v := 1) hx hb d_La_law_351 (by decide) ?_
  refine lv_iadd hx hb d_La_law_352 ?_
  refine va_sld hx hb hX hbl hbA hS h1 d_La_law_353 ?_
  refine lv_aload_n hx hb d_La_law_354 rfl (lv_at hl 3 rfl) ?_
  refine ka_i (vx_runSW (As := [.ref (A 0), .int (xs (x4 + 1).toNatClampNeg), .ref (A 63)]) (rest := []) S9 (c_La_category_err l hl9 D A (MW A ρ []) f _ σ (xs (x4 + 1).toNatClampNeg) k hk u e1) (vx_cwSW 3 hts (tg_SW wl_La_109 ws_La_category wi_La wo_La_category) rfl rfl rfl wq_La_category.2 ⟨Nat.le_of_ble_eq_true rfl, Nat.le_of_ble_eq_true rfl⟩) (ka_preC X9 hC hP hD hS) rfl rfl hl.1 rfl (lv_room (Nat.le_of_ble_eq_true rfl)) d_La_law_355 ⟨hc, hsl⟩) X9 hD hS rfl (fun H locs hP hD hS => ?_)
  refine lv_istore (lv' := (5, .int (nI k)) :: [(0, .ref b), (1, .ref (A 0)), (2, .ref (A 60)), (3, .ref (A 63)), (4, .int x4)]) hx hb d_La_law_358 hl (by decide) rfl (fun ls hl => ?_)
  refine lv_aload_n hx hb d_La_law_360 rfl (lv_at hl 3 rfl) ?_
  refine lv_aload_n hx hb d_La_law_361 rfl (lv_at hl 1 rfl) ?_
  refine lv_iload hx hb d_La_law_362 (lv_at hl 5 rfl) ?_
  refine lv_iconst (v := 1) hx hb d_La_law_364 (by decide) ?_
  refine lv_iadd hx hb d_La_law_365 ?_
  refine va_sld hx hb hX hbl hbA hS h1 d_La_law_366 ?_
  replace hP := kp_P (kp_perm A u ρ f) hP
  replace hD := kp_D (kp_perm A u ρ f) hD
  refine ka_i (va_runV (As := [.int (xs (x4 + 1).toNatClampNeg)]) (rest := []) S9 (c_Mo_category l hl9 D A (GW A u [ka_oc A f]) _ ρ (xs (x4 + 1).toNatClampNeg) z e2) (cwV 1 hts (tg_V wl_La_112 wm_Mo_category we_Mo_category wi_Mo wo_Mo_category) rfl rfl rfl wq_Mo_category ⟨Nat.le_of_ble_eq_true rfl, Nat.le_of_ble_eq_true rfl⟩) (ka_preV X9 hP hD hS 0 rfl rfl) rfl rfl hl.1 rfl (lv_room (Nat.le_of_ble_eq_true rfl)) d_La_law_367 ⟨hc, hsl⟩) X9 hD hS rfl (fun H locs hP hD hS => ?_)
  refine lv_istore (lv' := (6, .int z.1) :: (5, .int (nI k)) :: [(0, .ref b), (1, .ref (A 0)), (2, .ref (A 60)), (3, .ref (A 63)), (4, .int x4)]) hx hb d_La_law_370 hl (by decide) rfl (fun ls hl => ?_)
  replace hP := kp_P (kp_perm A u z.2 f).symm hP
  replace hD := kp_D (kp_perm A u z.2 f).symm hD
  refine lv_goto (tgt := 1460) hx hb d_La_law_372 (by decide) ?_
  refine W.widen (k := cells + 1) (n := slots + 6) (by omega) (by omega) ?_
  exact kk u z.2 f _ _ _ hI hP hD hS (lv_sub hl [2, 3, 4, 5, 6] rfl)
set_option maxRecDepth 100000 in
set_option maxHeartbeats 4000000 in
theorem lc_4 {p : Program} {l : Launch} {e : Env} {s : State} {m : MethodId} {below : List Frame} {meth : Method} {c : Code} {b L : Nat} {xs : Nat → Int32} {D : va_G} {A : Nat → Nat} (I : KS → RS → Prop) (X : lx_ p l s m meth c b L xs D A) {cells slots : Nat} (hc : cells + 1 ≤ room_1.cells) (hsl : slots + 6 ≤ room_1.slots) (x4 : Int32) (h1 : vp_in (x4 + 1) L) (h2 : vp_in (x4 + 2) L) (h3 : vp_in (x4 + 3) L) (h4 : vp_in (x4 + 4) L) (σ : KS) (ρ : RS) (f : Nat → Int64) (sim : ∀ x1 x2 x3 x4 : Int32, (∃ (v : Int32) (u : KS) (z : Int32 × RS), f_Ke_container σ x1 x2 x3 x4 = some (.ok v, u) ∧ f_Mo_container ρ x1 x2 x3 x4 = some z ∧ I u z.2) ∨ (∃ (k : Nat) (u : KS) (z : Int32 × RS), (k = 1 ∨ k = 2 ∨ k = 3 ∨ k = 4) ∧ f_Ke_container σ x1 x2 x3 x4 = some (.error k, u) ∧ f_Mo_container ρ x1 x2 x3 x4 = some z ∧ I u z.2)) {H : Heap} {locs : List Loc} {ls : Array Slot} (hP : va_P D vwCl (kp_C A σ ρ f) H) (hD : va_D (fun q : Nat => s.heap.size ≤ q) (kp_C A σ ρ f)) (hS : va_S (fun q : Nat => s.heap.size ≤ q) s.heap H locs) (hl : lv_has ls 7 [(0, .ref b), (1, .ref (A 0)), (2, .ref (A 60)), (3, .ref (A 63)), (4, .int x4)])
    (kk : ∀ (u : KS) (ρ1 : RS) (f1 : Nat → Int64) (H : Heap) (locs : List Loc) (ls : Array Slot), I u ρ1 → va_P D vwCl (kp_C A u ρ1 f1) H → va_D (fun q : Nat => s.heap.size ≤ q) (kp_C A u ρ1 f1) → va_S (fun q : Nat => s.heap.size ≤ q) s.heap H locs → lv_has ls 7 [(0, .ref b), (1, .ref (A 0)), (2, .ref (A 60)), (3, .ref (A 63)), (4, .int x4)] → W p l e room_1 s m #[Value.ref b] below meth c H locs (cells + 1) (slots + 6) (lw_Z below #[Value.ref b] s) (F0 m 1460 ls [])) : W p l e room_1 s m #[Value.ref b] below meth c H locs cells slots (lw_Z below #[Value.ref b] s) (F0 m 375 ls []) := by
  obtain ⟨hl9, S9, hX, hbl, hlk, hr, hC, X9⟩ := X
  obtain ⟨hx, hb, hml, hown, hts⟩ := id S9
  have hK := X9.2.1
  have hbA : ¬ (fun q : Nat => s.heap.size ≤ q) b := Nat.not_le.mpr hbl
  rcases sim (xs (x4 + 1).toNatClampNeg) (xs (x4 + 2).toNatClampNeg) (xs (x4 + 3).toNatClampNeg) (xs (x4 + 4).toNatClampNeg) with ⟨v, u, z, e1, e2, hI⟩ | ⟨k, u, z, hk, e1, e2, hI⟩
  · refine lv_aload_n hx hb d_La_law_375 rfl (lv_at hl 1 rfl) ?_
    refine lv_aload_n hx hb d_La_law_376 rfl (lv_at hl 0 rfl) ?_
    refine lv_iload hx hb d_La_law_377 (lv_at hl 4 rfl) ?_
    refine lv_iconst (v := 1) hx hb d_La_law_379 (by decide) ?_
    refine lv_iadd hx hb d_La_law_380 ?_
    refine va_sld hx hb hX hbl hbA hS h1 d_La_law_381 ?_
    refine lv_aload_n hx hb d_La_law_382 rfl (lv_at hl 0 rfl) ?_
    refine lv_iload hx hb d_La_law_383 (lv_at hl 4 rfl) ?_
    refine lv_iconst (v := 2) hx hb d_La_law_385 (by decide) ?_
    refine lv_iadd hx hb d_La_law_386 ?_
    refine va_sld hx hb hX hbl hbA hS h2 d_La_law_387 ?_
    refine lv_aload_n hx hb d_La_law_388 rfl (lv_at hl 0 rfl) ?_
    refine lv_iload hx hb d_La_law_389 (lv_at hl 4 rfl) ?_
    refine lv_iconst (v := 3) hx hb d_La_law_391 (by decide) ?_
    refine lv_iadd hx hb d_La_law_392 ?_
    refine va_sld hx hb hX hbl hbA hS h3 d_La_law_393 ?_
    refine lv_aload_n hx hb d_La_law_394 rfl (lv_at hl 0 rfl) ?_
    refine lv_iload hx hb d_La_law_395 (lv_at hl 4 rfl) ?_
    refine lv_iconst (v := 4) hx hb d_La_law_397 (by decide) ?_
    refine lv_iadd hx hb d_La_law_398 ?_
    refine va_sld hx hb hX hbl hbA hS h4 d_La_law_399 ?_
    refine lv_aload_n hx hb d_La_law_400 rfl (lv_at hl 3 rfl) ?_
    refine ka_i (vx_runSW (As := [.ref (A 0), .int (xs (x4 + 1).toNatClampNeg), .int (xs (x4 + 2).toNatClampNeg), .int (xs (x4 + 3).toNatClampNeg), .int (xs (x4 + 4).toNatClampNeg), .ref (A 63)]) (rest := []) S9 (c_La_container_ok l hl9 D A (MW A ρ []) f _ σ (xs (x4 + 1).toNatClampNeg) (xs (x4 + 2).toNatClampNeg) (xs (x4 + 3).toNatClampNeg) (xs (x4 + 4).toNatClampNeg) v u e1) (vx_cwSW 6 hts (tg_SW wl_La_113 ws_La_container wi_La wo_La_container) rfl rfl rfl wq_La_container.2 ⟨Nat.le_of_ble_eq_true rfl, Nat.le_of_ble_eq_true rfl⟩) (ka_preC X9 hC hP hD hS) rfl rfl hl.1 rfl (lv_room (Nat.le_of_ble_eq_true rfl)) d_La_law_401 ⟨Nat.le_trans (Nat.le_succ _) hc, Nat.le_trans (Nat.le_add_right _ 6) hsl⟩) X9 hD hS rfl (fun H locs hP hD hS => ?_)
    refine lv_istore (lv' := (5, .int 0) :: [(0, .ref b), (1, .ref (A 0)), (2, .ref (A 60)), (3, .ref (A 63)), (4, .int x4)]) hx hb d_La_law_404 hl (by decide) rfl (fun ls hl => ?_)
    refine lv_aload_n hx hb d_La_law_406 rfl (lv_at hl 3 rfl) ?_
    refine lv_aload_n hx hb d_La_law_407 rfl (lv_at hl 1 rfl) ?_
    refine lv_iload hx hb d_La_law_408 (lv_at hl 5 rfl) ?_
    refine lv_iconst (v := 1) hx hb d_La_law_410 (by decide) ?_
    refine lv_iadd hx hb d_La_law_411 ?_
    refine va_sld hx hb hX hbl hbA hS h1 d_La_law_412 ?_
    refine lv_aload_n hx hb d_La_law_413 rfl (lv_at hl 1 rfl) ?_
    refine lv_iload hx hb d_La_law_414 (lv_at hl 5 rfl) ?_
    refine lv_iconst (v := 2) hx hb d_La_law_416 (by decide) ?_
    refine lv_iadd hx hb d_La_law_417 ?_
    refine va_sld hx hb hX hbl hbA hS h2 d_La_law_418 ?_
    refine lv_aload_n hx hb d_La_law_419 rfl (lv_at hl 1 rfl) ?_
    refine lv_iload hx hb d_La_law_420 (lv_at hl 5 rfl) ?_
    refine lv_iconst (v := 3) hx hb d_La_law_422 (by decide) ?_
    refine lv_iadd hx hb d_La_law_423 ?_
    refine va_sld hx hb hX hbl hbA hS h3 d_La_law_424 ?_
    refine lv_aload_n hx hb d_La_law_425 rfl (lv_at hl 1 rfl) ?_
    refine lv_iload hx hb d_La_law_426 (lv_at hl 5 rfl) ?_
    refine lv_iconst (v := 4) hx hb d_La_law_428 (by decide) ?_
    refine lv_iadd hx hb d_La_law_429 ?_
    refine va_sld hx hb hX hbl hbA hS h4 d_La_law_430 ?_
    replace hP := kp_P (kp_perm A u ρ (vp_updL f 0 v.toInt64)) hP
    replace hD := kp_D (kp_perm A u ρ (vp_updL f 0 v.toInt64)) hD
    refine ka_i (va_runV (As := [.int (xs (x4 + 1).toNatClampNeg), .int (xs (x4 + 2).toNatClampNeg), .int (xs (x4 + 3).toNatClampNeg), .int (xs (x4 + 4).toNatClampNeg)]) (rest := []) S9 (c_Mo_container l hl9 D A (GW A u [ka_oc A (vp_updL f 0 v.toInt64)]) _ ρ (xs (x4 + 1).toNatClampNeg) (xs (x4 + 2).toNatClampNeg) (xs (x4 + 3).toNatClampNeg) (xs (x4 + 4).toNatClampNeg) z e2) (cwV 4 hts (tg_V wl_La_116 wm_Mo_container we_Mo_container wi_Mo wo_Mo_container) rfl rfl rfl wq_Mo_container ⟨Nat.le_of_ble_eq_true rfl, Nat.le_of_ble_eq_true rfl⟩) (ka_preV X9 hP hD hS 0 rfl rfl) rfl rfl hl.1 rfl (lv_room (Nat.le_of_ble_eq_true rfl)) d_La_law_431 ⟨Nat.le_trans (Nat.le_succ _) hc, Nat.le_trans (Nat.le_add_right _ 6) hsl⟩) X9 hD hS rfl (fun H locs hP hD hS => ?_)
    refine lv_istore (lv' := (6, .int z.1) :: (5, .int 0) :: [(0, .ref b), (1, .ref (A 0)), (2, .ref (A 60)), (3, .ref (A 63)), (4, .int x4)]) hx hb d_La_law_434 hl (by decide) rfl (fun ls hl => ?_)
    replace hP := kp_P (kp_perm A u z.2 (vp_updL f 0 v.toInt64)).symm hP
    replace hD := kp_D (kp_perm A u z.2 (vp_updL f 0 v.toInt64)).symm hD
    refine lv_goto (tgt := 1460) hx hb d_La_law_436 (by decide) ?_
    refine W.widen (k := cells + 1) (n := slots + 6) (by omega) (by omega) ?_
    exact kk u z.2 (vp_updL f 0 v.toInt64) _ _ _ hI hP hD hS (lv_sub hl [2, 3, 4, 5, 6] rfl)
  refine lv_aload_n hx hb d_La_law_375 rfl (lv_at hl 1 rfl) ?_
  refine lv_aload_n hx hb d_La_law_376 rfl (lv_at hl 0 rfl) ?_
  refine lv_iload hx hb d_La_law_377 (lv_at hl 4 rfl) ?_
  refine lv_iconst (v := 1) hx hb d_La_law_379 (by decide) ?_
  refine lv_iadd hx hb d_La_law_380 ?_
  refine va_sld hx hb hX hbl hbA hS h1 d_La_law_381 ?_
  refine lv_aload_n hx hb d_La_law_382 rfl (lv_at hl 0 rfl) ?_
  refine lv_iload hx hb d_La_law_383 (lv_at hl 4 rfl) ?_
  refine lv_iconst (v := 2) hx hb d_La_law_385 (by decide) ?_
  refine lv_iadd hx hb d_La_law_386 ?_
  refine va_sld hx hb hX hbl hbA hS h2 d_La_law_387 ?_
  refine lv_aload_n hx hb d_La_law_388 rfl (lv_at hl 0 rfl) ?_
  refine lv_iload hx hb d_La_law_389 (lv_at hl 4 rfl) ?_
  refine lv_iconst (v := 3) hx hb d_La_law_391 (by decide) ?_
  refine lv_iadd hx hb d_La_law_392 ?_
  refine va_sld hx hb hX hbl hbA hS h3 d_La_law_393 ?_
  refine lv_aload_n hx hb d_La_law_394 rfl (lv_at hl 0 rfl) ?_
  refine lv_iload hx hb d_La_law_395 (lv_at hl 4 rfl) ?_
  refine lv_iconst (v := 4) hx hb d_La_law_397 (by decide) ?_
  refine lv_iadd hx hb d_La_law_398 ?_
  refine va_sld hx hb hX hbl hbA hS h4 d_La_law_399 ?_
  refine lv_aload_n hx hb d_La_law_400 rfl (lv_at hl 3 rfl) ?_
  refine ka_i (vx_runSW (As := [.ref (A 0), .int (xs (x4 + 1).toNatClampNeg), .int (xs (x4 + 2).toNatClampNeg), .int (xs (x4 + 3).toNatClampNeg), .int (xs (x4 + 4).toNatClampNeg), .ref (A 63)]) (rest := []) S9 (c_La_container_err l hl9 D A (MW A ρ []) f _ σ (xs (x4 + 1).toNatClampNeg) (xs (x4 + 2).toNatClampNeg) (xs (x4 + 3).toNatClampNeg) (xs (x4 + 4).toNatClampNeg) k hk u e1) (vx_cwSW 6 hts (tg_SW wl_La_113 ws_La_container wi_La wo_La_container) rfl rfl rfl wq_La_container.2 ⟨Nat.le_of_ble_eq_true rfl, Nat.le_of_ble_eq_true rfl⟩) (ka_preC X9 hC hP hD hS) rfl rfl hl.1 rfl (lv_room (Nat.le_of_ble_eq_true rfl)) d_La_law_401 ⟨hc, hsl⟩) X9 hD hS rfl (fun H locs hP hD hS => ?_)
  refine lv_istore (lv' := (5, .int (nI k)) :: [(0, .ref b), (1, .ref (A 0)), (2, .ref (A 60)), (3, .ref (A 63)), (4, .int x4)]) hx hb d_La_law_404 hl (by decide) rfl (fun ls hl => ?_)
  refine lv_aload_n hx hb d_La_law_406 rfl (lv_at hl 3 rfl) ?_
  refine lv_aload_n hx hb d_La_law_407 rfl (lv_at hl 1 rfl) ?_
  refine lv_iload hx hb d_La_law_408 (lv_at hl 5 rfl) ?_
  refine lv_iconst (v := 1) hx hb d_La_law_410 (by decide) ?_
  refine lv_iadd hx hb d_La_law_411 ?_
  refine va_sld hx hb hX hbl hbA hS h1 d_La_law_412 ?_
  refine lv_aload_n hx hb d_La_law_413 rfl (lv_at hl 1 rfl) ?_
  refine lv_iload hx hb d_La_law_414 (lv_at hl 5 rfl) ?_
  refine lv_iconst (v := 2) hx hb d_La_law_416 (by decide) ?_
  refine lv_iadd hx hb d_La_law_417 ?_
  refine va_sld hx hb hX hbl hbA hS h2 d_La_law_418 ?_
  refine lv_aload_n hx hb d_La_law_419 rfl (lv_at hl 1 rfl) ?_
  refine lv_iload hx hb d_La_law_420 (lv_at hl 5 rfl) ?_
  refine lv_iconst (v := 3) hx hb d_La_law_422 (by decide) ?_
  refine lv_iadd hx hb d_La_law_423 ?_
  refine va_sld hx hb hX hbl hbA hS h3 d_La_law_424 ?_
  refine lv_aload_n hx hb d_La_law_425 rfl (lv_at hl 1 rfl) ?_
  refine lv_iload hx hb d_La_law_426 (lv_at hl 5 rfl) ?_
  refine lv_iconst (v := 4) hx hb d_La_law_428 (by decide) ?_
  refine lv_iadd hx hb d_La_law_429 ?_
  refine va_sld hx hb hX hbl hbA hS h4 d_La_law_430 ?_
  replace hP := kp_P (kp_perm A u ρ f) hP
  replace hD := kp_D (kp_perm A u ρ f) hD
  refine ka_i (va_runV (As := [.int (xs (x4 + 1).toNatClampNeg), .int (xs (x4 + 2).toNatClampNeg), .int (xs (x4 + 3).toNatClampNeg), .int (xs (x4 + 4).toNatClampNeg)]) (rest := []) S9 (c_Mo_container l hl9 D A (GW A u [ka_oc A f]) _ ρ (xs (x4 + 1).toNatClampNeg) (xs (x4 + 2).toNatClampNeg) (xs (x4 + 3).toNatClampNeg) (xs (x4 + 4).toNatClampNeg) z e2) (cwV 4 hts (tg_V wl_La_116 wm_Mo_container we_Mo_container wi_Mo wo_Mo_container) rfl rfl rfl wq_Mo_container ⟨Nat.le_of_ble_eq_true rfl, Nat.le_of_ble_eq_true rfl⟩) (ka_preV X9 hP hD hS 0 rfl rfl) rfl rfl hl.1 rfl (lv_room (Nat.le_of_ble_eq_true rfl)) d_La_law_431 ⟨hc, hsl⟩) X9 hD hS rfl (fun H locs hP hD hS => ?_)
  refine lv_istore (lv' := (6, .int z.1) :: (5, .int (nI k)) :: [(0, .ref b), (1, .ref (A 0)), (2, .ref (A 60)), (3, .ref (A 63)), (4, .int x4)]) hx hb d_La_law_434 hl (by decide) rfl (fun ls hl => ?_)
  replace hP := kp_P (kp_perm A u z.2 f).symm hP
  replace hD := kp_D (kp_perm A u z.2 f).symm hD
  refine lv_goto (tgt := 1460) hx hb d_La_law_436 (by decide) ?_
  refine W.widen (k := cells + 1) (n := slots + 6) (by omega) (by omega) ?_
  exact kk u z.2 f _ _ _ hI hP hD hS (lv_sub hl [2, 3, 4, 5, 6] rfl)
set_option maxRecDepth 100000 in
set_option maxHeartbeats 4000000 in
theorem lc_5 {p : Program} {l : Launch} {e : Env} {s : State} {m : MethodId} {below : List Frame} {meth : Method} {c : Code} {b L : Nat} {xs : Nat → Int32} {D : va_G} {A : Nat → Nat} (I : KS → RS → Prop) (X : lx_ p l s m meth c b L xs D A) {cells slots : Nat} (hc : cells + 1 ≤ room_1.cells) (hsl : slots + 6 ≤ room_1.slots) (x4 : Int32) (h1 : vp_in (x4 + 1) L) (h2 : vp_in (x4 + 2) L) (h3 : vp_in (x4 + 3) L) (h4 : vp_in (x4 + 4) L) (σ : KS) (ρ : RS) (f : Nat → Int64) (sim : ∀ x1 x2 x3 x4 : Int32, (∃ (v : Int32) (u : KS) (z : Int32 × RS), f_Ke_segment σ x1 x2 x3 x4 = some (.ok v, u) ∧ f_Mo_segment ρ x1 x2 x3 x4 = some z ∧ I u z.2) ∨ (∃ (k : Nat) (u : KS) (z : Int32 × RS), (k = 1 ∨ k = 2 ∨ k = 3 ∨ k = 4) ∧ f_Ke_segment σ x1 x2 x3 x4 = some (.error k, u) ∧ f_Mo_segment ρ x1 x2 x3 x4 = some z ∧ I u z.2)) {H : Heap} {locs : List Loc} {ls : Array Slot} (hP : va_P D vwCl (kp_C A σ ρ f) H) (hD : va_D (fun q : Nat => s.heap.size ≤ q) (kp_C A σ ρ f)) (hS : va_S (fun q : Nat => s.heap.size ≤ q) s.heap H locs) (hl : lv_has ls 7 [(0, .ref b), (1, .ref (A 0)), (2, .ref (A 60)), (3, .ref (A 63)), (4, .int x4)])
    (kk : ∀ (u : KS) (ρ1 : RS) (f1 : Nat → Int64) (H : Heap) (locs : List Loc) (ls : Array Slot), I u ρ1 → va_P D vwCl (kp_C A u ρ1 f1) H → va_D (fun q : Nat => s.heap.size ≤ q) (kp_C A u ρ1 f1) → va_S (fun q : Nat => s.heap.size ≤ q) s.heap H locs → lv_has ls 7 [(0, .ref b), (1, .ref (A 0)), (2, .ref (A 60)), (3, .ref (A 63)), (4, .int x4)] → W p l e room_1 s m #[Value.ref b] below meth c H locs (cells + 1) (slots + 6) (lw_Z below #[Value.ref b] s) (F0 m 1460 ls [])) : W p l e room_1 s m #[Value.ref b] below meth c H locs cells slots (lw_Z below #[Value.ref b] s) (F0 m 439 ls []) := by
  obtain ⟨hl9, S9, hX, hbl, hlk, hr, hC, X9⟩ := X
  obtain ⟨hx, hb, hml, hown, hts⟩ := id S9
  have hK := X9.2.1
  have hbA : ¬ (fun q : Nat => s.heap.size ≤ q) b := Nat.not_le.mpr hbl
  rcases sim (xs (x4 + 1).toNatClampNeg) (xs (x4 + 2).toNatClampNeg) (xs (x4 + 3).toNatClampNeg) (xs (x4 + 4).toNatClampNeg) with ⟨v, u, z, e1, e2, hI⟩ | ⟨k, u, z, hk, e1, e2, hI⟩
  · refine lv_aload_n hx hb d_La_law_439 rfl (lv_at hl 1 rfl) ?_
    refine lv_aload_n hx hb d_La_law_440 rfl (lv_at hl 0 rfl) ?_
    refine lv_iload hx hb d_La_law_441 (lv_at hl 4 rfl) ?_
    refine lv_iconst (v := 1) hx hb d_La_law_443 (by decide) ?_
    refine lv_iadd hx hb d_La_law_444 ?_
    refine va_sld hx hb hX hbl hbA hS h1 d_La_law_445 ?_
    refine lv_aload_n hx hb d_La_law_446 rfl (lv_at hl 0 rfl) ?_
    refine lv_iload hx hb d_La_law_447 (lv_at hl 4 rfl) ?_
    refine lv_iconst (v := 2) hx hb d_La_law_449 (by decide) ?_
    refine lv_iadd hx hb d_La_law_450 ?_
    refine va_sld hx hb hX hbl hbA hS h2 d_La_law_451 ?_
    refine lv_aload_n hx hb d_La_law_452 rfl (lv_at hl 0 rfl) ?_
    refine lv_iload hx hb d_La_law_453 (lv_at hl 4 rfl) ?_
    refine lv_iconst (v := 3) hx hb d_La_law_455 (by decide) ?_
    refine lv_iadd hx hb d_La_law_456 ?_
    refine va_sld hx hb hX hbl hbA hS h3 d_La_law_457 ?_
    refine lv_aload_n hx hb d_La_law_458 rfl (lv_at hl 0 rfl) ?_
    refine lv_iload hx hb d_La_law_459 (lv_at hl 4 rfl) ?_
    refine lv_iconst (v := 4) hx hb d_La_law_461 (by decide) ?_
    refine lv_iadd hx hb d_La_law_462 ?_
    refine va_sld hx hb hX hbl hbA hS h4 d_La_law_463 ?_
    refine lv_aload_n hx hb d_La_law_464 rfl (lv_at hl 3 rfl) ?_
    refine ka_i (vx_runSW (As := [.ref (A 0), .int (xs (x4 + 1).toNatClampNeg), .int (xs (x4 + 2).toNatClampNeg), .int (xs (x4 + 3).toNatClampNeg), .int (xs (x4 + 4).toNatClampNeg), .ref (A 63)]) (rest := []) S9 (c_La_segment_ok l hl9 D A (MW A ρ []) f _ σ (xs (x4 + 1).toNatClampNeg) (xs (x4 + 2).toNatClampNeg) (xs (x4 + 3).toNatClampNeg) (xs (x4 + 4).toNatClampNeg) v u e1) (vx_cwSW 6 hts (tg_SW wl_La_117 ws_La_segment wi_La wo_La_segment) rfl rfl rfl wq_La_segment.2 ⟨Nat.le_of_ble_eq_true rfl, Nat.le_of_ble_eq_true rfl⟩) (ka_preC X9 hC hP hD hS) rfl rfl hl.1 rfl (lv_room (Nat.le_of_ble_eq_true rfl)) d_La_law_465 ⟨Nat.le_trans (Nat.le_succ _) hc, Nat.le_trans (Nat.le_add_right _ 6) hsl⟩) X9 hD hS rfl (fun H locs hP hD hS => ?_)
    refine lv_istore (lv' := (5, .int 0) :: [(0, .ref b), (1, .ref (A 0)), (2, .ref (A 60)), (3, .ref (A 63)), (4, .int x4)]) hx hb d_La_law_468 hl (by decide) rfl (fun ls hl => ?_)
    refine lv_aload_n hx hb d_La_law_470 rfl (lv_at hl 3 rfl) ?_
    refine lv_aload_n hx hb d_La_law_471 rfl (lv_at hl 1 rfl) ?_
    refine lv_iload hx hb d_La_law_472 (lv_at hl 5 rfl) ?_
    refine lv_iconst (v := 1) hx hb d_La_law_474 (by decide) ?_
    refine lv_iadd hx hb d_La_law_475 ?_
    refine va_sld hx hb hX hbl hbA hS h1 d_La_law_476 ?_
    refine lv_aload_n hx hb d_La_law_477 rfl (lv_at hl 1 rfl) ?_
    refine lv_iload hx hb d_La_law_478 (lv_at hl 5 rfl) ?_
    refine lv_iconst (v := 2) hx hb d_La_law_480 (by decide) ?_
    refine lv_iadd hx hb d_La_law_481 ?_
    refine va_sld hx hb hX hbl hbA hS h2 d_La_law_482 ?_
    refine lv_aload_n hx hb d_La_law_483 rfl (lv_at hl 1 rfl) ?_
    refine lv_iload hx hb d_La_law_484 (lv_at hl 5 rfl) ?_
    refine lv_iconst (v := 3) hx hb d_La_law_486 (by decide) ?_
    refine lv_iadd hx hb d_La_law_487 ?_
    refine va_sld hx hb hX hbl hbA hS h3 d_La_law_488 ?_
    refine lv_aload_n hx hb d_La_law_489 rfl (lv_at hl 1 rfl) ?_
    refine lv_iload hx hb d_La_law_490 (lv_at hl 5 rfl) ?_
    refine lv_iconst (v := 4) hx hb d_La_law_492 (by decide) ?_
    refine lv_iadd hx hb d_La_law_493 ?_
    refine va_sld hx hb hX hbl hbA hS h4 d_La_law_494 ?_
    replace hP := kp_P (kp_perm A u ρ (vp_updL f 0 v.toInt64)) hP
    replace hD := kp_D (kp_perm A u ρ (vp_updL f 0 v.toInt64)) hD
    refine ka_i (va_runV (As := [.int (xs (x4 + 1).toNatClampNeg), .int (xs (x4 + 2).toNatClampNeg), .int (xs (x4 + 3).toNatClampNeg), .int (xs (x4 + 4).toNatClampNeg)]) (rest := []) S9 (c_Mo_segment l hl9 D A (GW A u [ka_oc A (vp_updL f 0 v.toInt64)]) _ ρ (xs (x4 + 1).toNatClampNeg) (xs (x4 + 2).toNatClampNeg) (xs (x4 + 3).toNatClampNeg) (xs (x4 + 4).toNatClampNeg) z e2) (cwV 4 hts (tg_V wl_La_119 wm_Mo_segment we_Mo_segment wi_Mo wo_Mo_segment) rfl rfl rfl wq_Mo_segment ⟨Nat.le_of_ble_eq_true rfl, Nat.le_of_ble_eq_true rfl⟩) (ka_preV X9 hP hD hS 0 rfl rfl) rfl rfl hl.1 rfl (lv_room (Nat.le_of_ble_eq_true rfl)) d_La_law_495 ⟨Nat.le_trans (Nat.le_succ _) hc, Nat.le_trans (Nat.le_add_right _ 6) hsl⟩) X9 hD hS rfl (fun H locs hP hD hS => ?_)
    refine lv_istore (lv' := (6, .int z.1) :: (5, .int 0) :: [(0, .ref b), (1, .ref (A 0)), (2, .ref (A 60)), (3, .ref (A 63)), (4, .int x4)]) hx hb d_La_law_498 hl (by decide) rfl (fun ls hl => ?_)
    replace hP := kp_P (kp_perm A u z.2 (vp_updL f 0 v.toInt64)).symm hP
    replace hD := kp_D (kp_perm A u z.2 (vp_updL f 0 v.toInt64)).symm hD
    refine lv_goto (tgt := 1460) hx hb d_La_law_500 (by decide) ?_
    refine W.widen (k := cells + 1) (n := slots + 6) (by omega) (by omega) ?_
    exact kk u z.2 (vp_updL f 0 v.toInt64) _ _ _ hI hP hD hS (lv_sub hl [2, 3, 4, 5, 6] rfl)
  refine lv_aload_n hx hb d_La_law_439 rfl (lv_at hl 1 rfl) ?_
  refine lv_aload_n hx hb d_La_law_440 rfl (lv_at hl 0 rfl) ?_
  refine lv_iload hx hb d_La_law_441 (lv_at hl 4 rfl) ?_
  refine lv_iconst (v := 1) hx hb d_La_law_443 (by decide) ?_
  refine lv_iadd hx hb d_La_law_444 ?_
  refine va_sld hx hb hX hbl hbA hS h1 d_La_law_445 ?_
  refine lv_aload_n hx hb d_La_law_446 rfl (lv_at hl 0 rfl) ?_
  refine lv_iload hx hb d_La_law_447 (lv_at hl 4 rfl) ?_
  refine lv_iconst (v := 2) hx hb d_La_law_449 (by decide) ?_
  refine lv_iadd hx hb d_La_law_450 ?_
  refine va_sld hx hb hX hbl hbA hS h2 d_La_law_451 ?_
  refine lv_aload_n hx hb d_La_law_452 rfl (lv_at hl 0 rfl) ?_
  refine lv_iload hx hb d_La_law_453 (lv_at hl 4 rfl) ?_
  refine lv_iconst (v := 3) hx hb d_La_law_455 (by decide) ?_
  refine lv_iadd hx hb d_La_law_456 ?_
  refine va_sld hx hb hX hbl hbA hS h3 d_La_law_457 ?_
  refine lv_aload_n hx hb d_La_law_458 rfl (lv_at hl 0 rfl) ?_
  refine lv_iload hx hb d_La_law_459 (lv_at hl 4 rfl) ?_
  refine lv_iconst (v := 4) hx hb d_La_law_461 (by decide) ?_
  refine lv_iadd hx hb d_La_law_462 ?_
  refine va_sld hx hb hX hbl hbA hS h4 d_La_law_463 ?_
  refine lv_aload_n hx hb d_La_law_464 rfl (lv_at hl 3 rfl) ?_
  refine ka_i (vx_runSW (As := [.ref (A 0), .int (xs (x4 + 1).toNatClampNeg), .int (xs (x4 + 2).toNatClampNeg), .int (xs (x4 + 3).toNatClampNeg), .int (xs (x4 + 4).toNatClampNeg), .ref (A 63)]) (rest := []) S9 (c_La_segment_err l hl9 D A (MW A ρ []) f _ σ (xs (x4 + 1).toNatClampNeg) (xs (x4 + 2).toNatClampNeg) (xs (x4 + 3).toNatClampNeg) (xs (x4 + 4).toNatClampNeg) k hk u e1) (vx_cwSW 6 hts (tg_SW wl_La_117 ws_La_segment wi_La wo_La_segment) rfl rfl rfl wq_La_segment.2 ⟨Nat.le_of_ble_eq_true rfl, Nat.le_of_ble_eq_true rfl⟩) (ka_preC X9 hC hP hD hS) rfl rfl hl.1 rfl (lv_room (Nat.le_of_ble_eq_true rfl)) d_La_law_465 ⟨hc, hsl⟩) X9 hD hS rfl (fun H locs hP hD hS => ?_)
  refine lv_istore (lv' := (5, .int (nI k)) :: [(0, .ref b), (1, .ref (A 0)), (2, .ref (A 60)), (3, .ref (A 63)), (4, .int x4)]) hx hb d_La_law_468 hl (by decide) rfl (fun ls hl => ?_)
  refine lv_aload_n hx hb d_La_law_470 rfl (lv_at hl 3 rfl) ?_
  refine lv_aload_n hx hb d_La_law_471 rfl (lv_at hl 1 rfl) ?_
  refine lv_iload hx hb d_La_law_472 (lv_at hl 5 rfl) ?_
  refine lv_iconst (v := 1) hx hb d_La_law_474 (by decide) ?_
  refine lv_iadd hx hb d_La_law_475 ?_
  refine va_sld hx hb hX hbl hbA hS h1 d_La_law_476 ?_
  refine lv_aload_n hx hb d_La_law_477 rfl (lv_at hl 1 rfl) ?_
  refine lv_iload hx hb d_La_law_478 (lv_at hl 5 rfl) ?_
  refine lv_iconst (v := 2) hx hb d_La_law_480 (by decide) ?_
  refine lv_iadd hx hb d_La_law_481 ?_
  refine va_sld hx hb hX hbl hbA hS h2 d_La_law_482 ?_
  refine lv_aload_n hx hb d_La_law_483 rfl (lv_at hl 1 rfl) ?_
  refine lv_iload hx hb d_La_law_484 (lv_at hl 5 rfl) ?_
  refine lv_iconst (v := 3) hx hb d_La_law_486 (by decide) ?_
  refine lv_iadd hx hb d_La_law_487 ?_
  refine va_sld hx hb hX hbl hbA hS h3 d_La_law_488 ?_
  refine lv_aload_n hx hb d_La_law_489 rfl (lv_at hl 1 rfl) ?_
  refine lv_iload hx hb d_La_law_490 (lv_at hl 5 rfl) ?_
  refine lv_iconst (v := 4) hx hb d_La_law_492 (by decide) ?_
  refine lv_iadd hx hb d_La_law_493 ?_
  refine va_sld hx hb hX hbl hbA hS h4 d_La_law_494 ?_
  replace hP := kp_P (kp_perm A u ρ f) hP
  replace hD := kp_D (kp_perm A u ρ f) hD
  refine ka_i (va_runV (As := [.int (xs (x4 + 1).toNatClampNeg), .int (xs (x4 + 2).toNatClampNeg), .int (xs (x4 + 3).toNatClampNeg), .int (xs (x4 + 4).toNatClampNeg)]) (rest := []) S9 (c_Mo_segment l hl9 D A (GW A u [ka_oc A f]) _ ρ (xs (x4 + 1).toNatClampNeg) (xs (x4 + 2).toNatClampNeg) (xs (x4 + 3).toNatClampNeg) (xs (x4 + 4).toNatClampNeg) z e2) (cwV 4 hts (tg_V wl_La_119 wm_Mo_segment we_Mo_segment wi_Mo wo_Mo_segment) rfl rfl rfl wq_Mo_segment ⟨Nat.le_of_ble_eq_true rfl, Nat.le_of_ble_eq_true rfl⟩) (ka_preV X9 hP hD hS 0 rfl rfl) rfl rfl hl.1 rfl (lv_room (Nat.le_of_ble_eq_true rfl)) d_La_law_495 ⟨hc, hsl⟩) X9 hD hS rfl (fun H locs hP hD hS => ?_)
  refine lv_istore (lv' := (6, .int z.1) :: (5, .int (nI k)) :: [(0, .ref b), (1, .ref (A 0)), (2, .ref (A 60)), (3, .ref (A 63)), (4, .int x4)]) hx hb d_La_law_498 hl (by decide) rfl (fun ls hl => ?_)
  replace hP := kp_P (kp_perm A u z.2 f).symm hP
  replace hD := kp_D (kp_perm A u z.2 f).symm hD
  refine lv_goto (tgt := 1460) hx hb d_La_law_500 (by decide) ?_
  refine W.widen (k := cells + 1) (n := slots + 6) (by omega) (by omega) ?_
  exact kk u z.2 f _ _ _ hI hP hD hS (lv_sub hl [2, 3, 4, 5, 6] rfl)
set_option maxRecDepth 100000 in
set_option maxHeartbeats 4000000 in
theorem lc_6 {p : Program} {l : Launch} {e : Env} {s : State} {m : MethodId} {below : List Frame} {meth : Method} {c : Code} {b L : Nat} {xs : Nat → Int32} {D : va_G} {A : Nat → Nat} (I : KS → RS → Prop) (X : lx_ p l s m meth c b L xs D A) {cells slots : Nat} (hc : cells + 1 ≤ room_1.cells) (hsl : slots + 6 ≤ room_1.slots) (x4 : Int32) (h1 : vp_in (x4 + 1) L) (h2 : vp_in (x4 + 2) L) (h3 : vp_in (x4 + 3) L) (h4 : vp_in (x4 + 4) L) (h5 : vp_in (x4 + 5) L) (σ : KS) (ρ : RS) (f : Nat → Int64) (sim : ∀ x1 x2 x3 x4 x5 : Int32, (∃ (v : Int32) (u : KS) (z : Int32 × RS), f_Ke_gate σ x1 x2 x3 x4 x5 = some (.ok v, u) ∧ f_Mo_gate ρ x1 x2 x3 x4 x5 = some z ∧ I u z.2) ∨ (∃ (k : Nat) (u : KS) (z : Int32 × RS), (k = 1 ∨ k = 2 ∨ k = 3 ∨ k = 4) ∧ f_Ke_gate σ x1 x2 x3 x4 x5 = some (.error k, u) ∧ f_Mo_gate ρ x1 x2 x3 x4 x5 = some z ∧ I u z.2)) {H : Heap} {locs : List Loc} {ls : Array Slot} (hP : va_P D vwCl (kp_C A σ ρ f) H) (hD : va_D (fun q : Nat => s.heap.size ≤ q) (kp_C A σ ρ f)) (hS : va_S (fun q : Nat => s.heap.size ≤ q) s.heap H locs) (hl : lv_has ls 7 [(0, .ref b), (1, .ref (A 0)), (2, .ref (A 60)), (3, .ref (A 63)), (4, .int x4)])
    (kk : ∀ (u : KS) (ρ1 : RS) (f1 : Nat → Int64) (H : Heap) (locs : List Loc) (ls : Array Slot), I u ρ1 → va_P D vwCl (kp_C A u ρ1 f1) H → va_D (fun q : Nat => s.heap.size ≤ q) (kp_C A u ρ1 f1) → va_S (fun q : Nat => s.heap.size ≤ q) s.heap H locs → lv_has ls 7 [(0, .ref b), (1, .ref (A 0)), (2, .ref (A 60)), (3, .ref (A 63)), (4, .int x4)] → W p l e room_1 s m #[Value.ref b] below meth c H locs (cells + 1) (slots + 6) (lw_Z below #[Value.ref b] s) (F0 m 1460 ls [])) : W p l e room_1 s m #[Value.ref b] below meth c H locs cells slots (lw_Z below #[Value.ref b] s) (F0 m 503 ls []) := by
  obtain ⟨hl9, S9, hX, hbl, hlk, hr, hC, X9⟩ := X
  obtain ⟨hx, hb, hml, hown, hts⟩ := id S9
  have hK := X9.2.1
  have hbA : ¬ (fun q : Nat => s.heap.size ≤ q) b := Nat.not_le.mpr hbl
  rcases sim (xs (x4 + 1).toNatClampNeg) (xs (x4 + 2).toNatClampNeg) (xs (x4 + 3).toNatClampNeg) (xs (x4 + 4).toNatClampNeg) (xs (x4 + 5).toNatClampNeg) with ⟨v, u, z, e1, e2, hI⟩ | ⟨k, u, z, hk, e1, e2, hI⟩
  · refine lv_aload_n hx hb d_La_law_503 rfl (lv_at hl 1 rfl) ?_
    refine lv_aload_n hx hb d_La_law_504 rfl (lv_at hl 0 rfl) ?_
    refine lv_iload hx hb d_La_law_505 (lv_at hl 4 rfl) ?_
    refine lv_iconst (v := 1) hx hb d_La_law_507 (by decide) ?_
    refine lv_iadd hx hb d_La_law_508 ?_
    refine va_sld hx hb hX hbl hbA hS h1 d_La_law_509 ?_
    refine lv_aload_n hx hb d_La_law_510 rfl (lv_at hl 0 rfl) ?_
    refine lv_iload hx hb d_La_law_511 (lv_at hl 4 rfl) ?_
    refine lv_iconst (v := 2) hx hb d_La_law_513 (by decide) ?_
    refine lv_iadd hx hb d_La_law_514 ?_
    refine va_sld hx hb hX hbl hbA hS h2 d_La_law_515 ?_
    refine lv_aload_n hx hb d_La_law_516 rfl (lv_at hl 0 rfl) ?_
    refine lv_iload hx hb d_La_law_517 (lv_at hl 4 rfl) ?_
    refine lv_iconst (v := 3) hx hb d_La_law_519 (by decide) ?_
    refine lv_iadd hx hb d_La_law_520 ?_
    refine va_sld hx hb hX hbl hbA hS h3 d_La_law_521 ?_
    refine lv_aload_n hx hb d_La_law_522 rfl (lv_at hl 0 rfl) ?_
    refine lv_iload hx hb d_La_law_523 (lv_at hl 4 rfl) ?_
    refine lv_iconst (v := 4) hx hb d_La_law_525 (by decide) ?_
    refine lv_iadd hx hb d_La_law_526 ?_
    refine va_sld hx hb hX hbl hbA hS h4 d_La_law_527 ?_
    refine lv_aload_n hx hb d_La_law_528 rfl (lv_at hl 0 rfl) ?_
    refine lv_iload hx hb d_La_law_529 (lv_at hl 4 rfl) ?_
    refine lv_iconst (v := 5) hx hb d_La_law_531 (by decide) ?_
    refine lv_iadd hx hb d_La_law_532 ?_
    refine va_sld hx hb hX hbl hbA hS h5 d_La_law_533 ?_
    refine lv_aload_n hx hb d_La_law_534 rfl (lv_at hl 3 rfl) ?_
    refine ka_i (vx_runSW (As := [.ref (A 0), .int (xs (x4 + 1).toNatClampNeg), .int (xs (x4 + 2).toNatClampNeg), .int (xs (x4 + 3).toNatClampNeg), .int (xs (x4 + 4).toNatClampNeg), .int (xs (x4 + 5).toNatClampNeg), .ref (A 63)]) (rest := []) S9 (c_La_gate_ok l hl9 D A (MW A ρ []) f _ σ (xs (x4 + 1).toNatClampNeg) (xs (x4 + 2).toNatClampNeg) (xs (x4 + 3).toNatClampNeg) (xs (x4 + 4).toNatClampNeg) (xs (x4 + 5).toNatClampNeg) v u e1) (vx_cwSW 7 hts (tg_SW wl_La_120 ws_La_gate wi_La wo_La_gate) rfl rfl rfl wq_La_gate.2 ⟨Nat.le_of_ble_eq_true rfl, Nat.le_of_ble_eq_true rfl⟩) (ka_preC X9 hC hP hD hS) rfl rfl hl.1 rfl (lv_room (Nat.le_of_ble_eq_true rfl)) d_La_law_535 ⟨Nat.le_trans (Nat.le_succ _) hc, Nat.le_trans (Nat.le_add_right _ 6) hsl⟩) X9 hD hS rfl (fun H locs hP hD hS => ?_)
    refine lv_istore (lv' := (5, .int 0) :: [(0, .ref b), (1, .ref (A 0)), (2, .ref (A 60)), (3, .ref (A 63)), (4, .int x4)]) hx hb d_La_law_538 hl (by decide) rfl (fun ls hl => ?_)
    refine lv_aload_n hx hb d_La_law_540 rfl (lv_at hl 3 rfl) ?_
    refine lv_aload_n hx hb d_La_law_541 rfl (lv_at hl 1 rfl) ?_
    refine lv_iload hx hb d_La_law_542 (lv_at hl 5 rfl) ?_
    refine lv_iconst (v := 1) hx hb d_La_law_544 (by decide) ?_
    refine lv_iadd hx hb d_La_law_545 ?_
    refine va_sld hx hb hX hbl hbA hS h1 d_La_law_546 ?_
    refine lv_aload_n hx hb d_La_law_547 rfl (lv_at hl 1 rfl) ?_
    refine lv_iload hx hb d_La_law_548 (lv_at hl 5 rfl) ?_
    refine lv_iconst (v := 2) hx hb d_La_law_550 (by decide) ?_
    refine lv_iadd hx hb d_La_law_551 ?_
    refine va_sld hx hb hX hbl hbA hS h2 d_La_law_552 ?_
    refine lv_aload_n hx hb d_La_law_553 rfl (lv_at hl 1 rfl) ?_
    refine lv_iload hx hb d_La_law_554 (lv_at hl 5 rfl) ?_
    refine lv_iconst (v := 3) hx hb d_La_law_556 (by decide) ?_
    refine lv_iadd hx hb d_La_law_557 ?_
    refine va_sld hx hb hX hbl hbA hS h3 d_La_law_558 ?_
    refine lv_aload_n hx hb d_La_law_559 rfl (lv_at hl 1 rfl) ?_
    refine lv_iload hx hb d_La_law_560 (lv_at hl 5 rfl) ?_
    refine lv_iconst (v := 4) hx hb d_La_law_562 (by decide) ?_
    refine lv_iadd hx hb d_La_law_563 ?_
    refine va_sld hx hb hX hbl hbA hS h4 d_La_law_564 ?_
    refine lv_aload_n hx hb d_La_law_565 rfl (lv_at hl 1 rfl) ?_
    refine lv_iload hx hb d_La_law_566 (lv_at hl 5 rfl) ?_
    refine lv_iconst (v := 5) hx hb d_La_law_568 (by decide) ?_
    refine lv_iadd hx hb d_La_law_569 ?_
    refine va_sld hx hb hX hbl hbA hS h5 d_La_law_570 ?_
    replace hP := kp_P (kp_perm A u ρ (vp_updL f 0 v.toInt64)) hP
    replace hD := kp_D (kp_perm A u ρ (vp_updL f 0 v.toInt64)) hD
    refine ka_i (va_runV (As := [.int (xs (x4 + 1).toNatClampNeg), .int (xs (x4 + 2).toNatClampNeg), .int (xs (x4 + 3).toNatClampNeg), .int (xs (x4 + 4).toNatClampNeg), .int (xs (x4 + 5).toNatClampNeg)]) (rest := []) S9 (c_Mo_gate l hl9 D A (GW A u [ka_oc A (vp_updL f 0 v.toInt64)]) _ ρ (xs (x4 + 1).toNatClampNeg) (xs (x4 + 2).toNatClampNeg) (xs (x4 + 3).toNatClampNeg) (xs (x4 + 4).toNatClampNeg) (xs (x4 + 5).toNatClampNeg) z e2) (cwV 5 hts (tg_V wl_La_123 wm_Mo_gate we_Mo_gate wi_Mo wo_Mo_gate) rfl rfl rfl wq_Mo_gate ⟨Nat.le_of_ble_eq_true rfl, Nat.le_of_ble_eq_true rfl⟩) (ka_preV X9 hP hD hS 0 rfl rfl) rfl rfl hl.1 rfl (lv_room (Nat.le_of_ble_eq_true rfl)) d_La_law_571 ⟨Nat.le_trans (Nat.le_succ _) hc, Nat.le_trans (Nat.le_add_right _ 6) hsl⟩) X9 hD hS rfl (fun H locs hP hD hS => ?_)
    refine lv_istore (lv' := (6, .int z.1) :: (5, .int 0) :: [(0, .ref b), (1, .ref (A 0)), (2, .ref (A 60)), (3, .ref (A 63)), (4, .int x4)]) hx hb d_La_law_574 hl (by decide) rfl (fun ls hl => ?_)
    replace hP := kp_P (kp_perm A u z.2 (vp_updL f 0 v.toInt64)).symm hP
    replace hD := kp_D (kp_perm A u z.2 (vp_updL f 0 v.toInt64)).symm hD
    refine lv_goto (tgt := 1460) hx hb d_La_law_576 (by decide) ?_
    refine W.widen (k := cells + 1) (n := slots + 6) (by omega) (by omega) ?_
    exact kk u z.2 (vp_updL f 0 v.toInt64) _ _ _ hI hP hD hS (lv_sub hl [2, 3, 4, 5, 6] rfl)
  refine lv_aload_n hx hb d_La_law_503 rfl (lv_at hl 1 rfl) ?_
  refine lv_aload_n hx hb d_La_law_504 rfl (lv_at hl 0 rfl) ?_
  refine lv_iload hx hb d_La_law_505 (lv_at hl 4 rfl) ?_
  refine lv_iconst (v := 1) hx hb d_La_law_507 (by decide) ?_
  refine lv_iadd hx hb d_La_law_508 ?_
  refine va_sld hx hb hX hbl hbA hS h1 d_La_law_509 ?_
  refine lv_aload_n hx hb d_La_law_510 rfl (lv_at hl 0 rfl) ?_
  refine lv_iload hx hb d_La_law_511 (lv_at hl 4 rfl) ?_
  refine lv_iconst (v := 2) hx hb d_La_law_513 (by decide) ?_
  refine lv_iadd hx hb d_La_law_514 ?_
  refine va_sld hx hb hX hbl hbA hS h2 d_La_law_515 ?_
  refine lv_aload_n hx hb d_La_law_516 rfl (lv_at hl 0 rfl) ?_
  refine lv_iload hx hb d_La_law_517 (lv_at hl 4 rfl) ?_
  refine lv_iconst (v := 3) hx hb d_La_law_519 (by decide) ?_
  refine lv_iadd hx hb d_La_law_520 ?_
  refine va_sld hx hb hX hbl hbA hS h3 d_La_law_521 ?_
  refine lv_aload_n hx hb d_La_law_522 rfl (lv_at hl 0 rfl) ?_
  refine lv_iload hx hb d_La_law_523 (lv_at hl 4 rfl) ?_
  refine lv_iconst (v := 4) hx hb d_La_law_525 (by decide) ?_
  refine lv_iadd hx hb d_La_law_526 ?_
  refine va_sld hx hb hX hbl hbA hS h4 d_La_law_527 ?_
  refine lv_aload_n hx hb d_La_law_528 rfl (lv_at hl 0 rfl) ?_
  refine lv_iload hx hb d_La_law_529 (lv_at hl 4 rfl) ?_
  refine lv_iconst (v := 5) hx hb d_La_law_531 (by decide) ?_
  refine lv_iadd hx hb d_La_law_532 ?_
  refine va_sld hx hb hX hbl hbA hS h5 d_La_law_533 ?_
  refine lv_aload_n hx hb d_La_law_534 rfl (lv_at hl 3 rfl) ?_
  refine ka_i (vx_runSW (As := [.ref (A 0), .int (xs (x4 + 1).toNatClampNeg), .int (xs (x4 + 2).toNatClampNeg), .int (xs (x4 + 3).toNatClampNeg), .int (xs (x4 + 4).toNatClampNeg), .int (xs (x4 + 5).toNatClampNeg), .ref (A 63)]) (rest := []) S9 (c_La_gate_err l hl9 D A (MW A ρ []) f _ σ (xs (x4 + 1).toNatClampNeg) (xs (x4 + 2).toNatClampNeg) (xs (x4 + 3).toNatClampNeg) (xs (x4 + 4).toNatClampNeg) (xs (x4 + 5).toNatClampNeg) k hk u e1) (vx_cwSW 7 hts (tg_SW wl_La_120 ws_La_gate wi_La wo_La_gate) rfl rfl rfl wq_La_gate.2 ⟨Nat.le_of_ble_eq_true rfl, Nat.le_of_ble_eq_true rfl⟩) (ka_preC X9 hC hP hD hS) rfl rfl hl.1 rfl (lv_room (Nat.le_of_ble_eq_true rfl)) d_La_law_535 ⟨hc, hsl⟩) X9 hD hS rfl (fun H locs hP hD hS => ?_)
  refine lv_istore (lv' := (5, .int (nI k)) :: [(0, .ref b), (1, .ref (A 0)), (2, .ref (A 60)), (3, .ref (A 63)), (4, .int x4)]) hx hb d_La_law_538 hl (by decide) rfl (fun ls hl => ?_)
  refine lv_aload_n hx hb d_La_law_540 rfl (lv_at hl 3 rfl) ?_
  refine lv_aload_n hx hb d_La_law_541 rfl (lv_at hl 1 rfl) ?_
  refine lv_iload hx hb d_La_law_542 (lv_at hl 5 rfl) ?_
  refine lv_iconst (v := 1) hx hb d_La_law_544 (by decide) ?_
  refine lv_iadd hx hb d_La_law_545 ?_
  refine va_sld hx hb hX hbl hbA hS h1 d_La_law_546 ?_
  refine lv_aload_n hx hb d_La_law_547 rfl (lv_at hl 1 rfl) ?_
  refine lv_iload hx hb d_La_law_548 (lv_at hl 5 rfl) ?_
  refine lv_iconst (v := 2) hx hb d_La_law_550 (by decide) ?_
  refine lv_iadd hx hb d_La_law_551 ?_
  refine va_sld hx hb hX hbl hbA hS h2 d_La_law_552 ?_
  refine lv_aload_n hx hb d_La_law_553 rfl (lv_at hl 1 rfl) ?_
  refine lv_iload hx hb d_La_law_554 (lv_at hl 5 rfl) ?_
  refine lv_iconst (v := 3) hx hb d_La_law_556 (by decide) ?_
  refine lv_iadd hx hb d_La_law_557 ?_
  refine va_sld hx hb hX hbl hbA hS h3 d_La_law_558 ?_
  refine lv_aload_n hx hb d_La_law_559 rfl (lv_at hl 1 rfl) ?_
  refine lv_iload hx hb d_La_law_560 (lv_at hl 5 rfl) ?_
  refine lv_iconst (v := 4) hx hb d_La_law_562 (by decide) ?_
  refine lv_iadd hx hb d_La_law_563 ?_
  refine va_sld hx hb hX hbl hbA hS h4 d_La_law_564 ?_
  refine lv_aload_n hx hb d_La_law_565 rfl (lv_at hl 1 rfl) ?_
  refine lv_iload hx hb d_La_law_566 (lv_at hl 5 rfl) ?_
  refine lv_iconst (v := 5) hx hb d_La_law_568 (by decide) ?_
  refine lv_iadd hx hb d_La_law_569 ?_
  refine va_sld hx hb hX hbl hbA hS h5 d_La_law_570 ?_
  replace hP := kp_P (kp_perm A u ρ f) hP
  replace hD := kp_D (kp_perm A u ρ f) hD
  refine ka_i (va_runV (As := [.int (xs (x4 + 1).toNatClampNeg), .int (xs (x4 + 2).toNatClampNeg), .int (xs (x4 + 3).toNatClampNeg), .int (xs (x4 + 4).toNatClampNeg), .int (xs (x4 + 5).toNatClampNeg)]) (rest := []) S9 (c_Mo_gate l hl9 D A (GW A u [ka_oc A f]) _ ρ (xs (x4 + 1).toNatClampNeg) (xs (x4 + 2).toNatClampNeg) (xs (x4 + 3).toNatClampNeg) (xs (x4 + 4).toNatClampNeg) (xs (x4 + 5).toNatClampNeg) z e2) (cwV 5 hts (tg_V wl_La_123 wm_Mo_gate we_Mo_gate wi_Mo wo_Mo_gate) rfl rfl rfl wq_Mo_gate ⟨Nat.le_of_ble_eq_true rfl, Nat.le_of_ble_eq_true rfl⟩) (ka_preV X9 hP hD hS 0 rfl rfl) rfl rfl hl.1 rfl (lv_room (Nat.le_of_ble_eq_true rfl)) d_La_law_571 ⟨hc, hsl⟩) X9 hD hS rfl (fun H locs hP hD hS => ?_)
  refine lv_istore (lv' := (6, .int z.1) :: (5, .int (nI k)) :: [(0, .ref b), (1, .ref (A 0)), (2, .ref (A 60)), (3, .ref (A 63)), (4, .int x4)]) hx hb d_La_law_574 hl (by decide) rfl (fun ls hl => ?_)
  replace hP := kp_P (kp_perm A u z.2 f).symm hP
  replace hD := kp_D (kp_perm A u z.2 f).symm hD
  refine lv_goto (tgt := 1460) hx hb d_La_law_576 (by decide) ?_
  refine W.widen (k := cells + 1) (n := slots + 6) (by omega) (by omega) ?_
  exact kk u z.2 f _ _ _ hI hP hD hS (lv_sub hl [2, 3, 4, 5, 6] rfl)
set_option maxRecDepth 100000 in
set_option maxHeartbeats 4000000 in
theorem lc_7 {p : Program} {l : Launch} {e : Env} {s : State} {m : MethodId} {below : List Frame} {meth : Method} {c : Code} {b L : Nat} {xs : Nat → Int32} {D : va_G} {A : Nat → Nat} (I : KS → RS → Prop) (X : lx_ p l s m meth c b L xs D A) {cells slots : Nat} (hc : cells + 1 ≤ room_1.cells) (hsl : slots + 6 ≤ room_1.slots) (x4 : Int32) (h1 : vp_in (x4 + 1) L) (h2 : vp_in (x4 + 2) L) (h3 : vp_in (x4 + 3) L) (h4 : vp_in (x4 + 4) L) (σ : KS) (ρ : RS) (f : Nat → Int64) (sim : ∀ x1 x2 x3 x4 : Int32, (∃ (v : Int32) (u : KS) (z : Int32 × RS), f_Ke_thread σ x1 x2 x3 x4 = some (.ok v, u) ∧ f_Mo_thread ρ x1 x2 x3 x4 = some z ∧ I u z.2) ∨ (∃ (k : Nat) (u : KS) (z : Int32 × RS), (k = 1 ∨ k = 2 ∨ k = 3 ∨ k = 4) ∧ f_Ke_thread σ x1 x2 x3 x4 = some (.error k, u) ∧ f_Mo_thread ρ x1 x2 x3 x4 = some z ∧ I u z.2)) {H : Heap} {locs : List Loc} {ls : Array Slot} (hP : va_P D vwCl (kp_C A σ ρ f) H) (hD : va_D (fun q : Nat => s.heap.size ≤ q) (kp_C A σ ρ f)) (hS : va_S (fun q : Nat => s.heap.size ≤ q) s.heap H locs) (hl : lv_has ls 7 [(0, .ref b), (1, .ref (A 0)), (2, .ref (A 60)), (3, .ref (A 63)), (4, .int x4)])
    (kk : ∀ (u : KS) (ρ1 : RS) (f1 : Nat → Int64) (H : Heap) (locs : List Loc) (ls : Array Slot), I u ρ1 → va_P D vwCl (kp_C A u ρ1 f1) H → va_D (fun q : Nat => s.heap.size ≤ q) (kp_C A u ρ1 f1) → va_S (fun q : Nat => s.heap.size ≤ q) s.heap H locs → lv_has ls 7 [(0, .ref b), (1, .ref (A 0)), (2, .ref (A 60)), (3, .ref (A 63)), (4, .int x4)] → W p l e room_1 s m #[Value.ref b] below meth c H locs (cells + 1) (slots + 6) (lw_Z below #[Value.ref b] s) (F0 m 1460 ls [])) : W p l e room_1 s m #[Value.ref b] below meth c H locs cells slots (lw_Z below #[Value.ref b] s) (F0 m 579 ls []) := by
  obtain ⟨hl9, S9, hX, hbl, hlk, hr, hC, X9⟩ := X
  obtain ⟨hx, hb, hml, hown, hts⟩ := id S9
  have hK := X9.2.1
  have hbA : ¬ (fun q : Nat => s.heap.size ≤ q) b := Nat.not_le.mpr hbl
  rcases sim (xs (x4 + 1).toNatClampNeg) (xs (x4 + 2).toNatClampNeg) (xs (x4 + 3).toNatClampNeg) (xs (x4 + 4).toNatClampNeg) with ⟨v, u, z, e1, e2, hI⟩ | ⟨k, u, z, hk, e1, e2, hI⟩
  · refine lv_aload_n hx hb d_La_law_579 rfl (lv_at hl 1 rfl) ?_
    refine lv_aload_n hx hb d_La_law_580 rfl (lv_at hl 0 rfl) ?_
    refine lv_iload hx hb d_La_law_581 (lv_at hl 4 rfl) ?_
    refine lv_iconst (v := 1) hx hb d_La_law_583 (by decide) ?_
    refine lv_iadd hx hb d_La_law_584 ?_
    refine va_sld hx hb hX hbl hbA hS h1 d_La_law_585 ?_
    refine lv_aload_n hx hb d_La_law_586 rfl (lv_at hl 0 rfl) ?_
    refine lv_iload hx hb d_La_law_587 (lv_at hl 4 rfl) ?_
    refine lv_iconst (v := 2) hx hb d_La_law_589 (by decide) ?_
    refine lv_iadd hx hb d_La_law_590 ?_
    refine va_sld hx hb hX hbl hbA hS h2 d_La_law_591 ?_
    refine lv_aload_n hx hb d_La_law_592 rfl (lv_at hl 0 rfl) ?_
    refine lv_iload hx hb d_La_law_593 (lv_at hl 4 rfl) ?_
    refine lv_iconst (v := 3) hx hb d_La_law_595 (by decide) ?_
    refine lv_iadd hx hb d_La_law_596 ?_
    refine va_sld hx hb hX hbl hbA hS h3 d_La_law_597 ?_
    refine lv_aload_n hx hb d_La_law_598 rfl (lv_at hl 0 rfl) ?_
    refine lv_iload hx hb d_La_law_599 (lv_at hl 4 rfl) ?_
    refine lv_iconst (v := 4) hx hb d_La_law_601 (by decide) ?_
    refine lv_iadd hx hb d_La_law_602 ?_
    refine va_sld hx hb hX hbl hbA hS h4 d_La_law_603 ?_
    refine lv_aload_n hx hb d_La_law_604 rfl (lv_at hl 3 rfl) ?_
    refine ka_i (vx_runSW (As := [.ref (A 0), .int (xs (x4 + 1).toNatClampNeg), .int (xs (x4 + 2).toNatClampNeg), .int (xs (x4 + 3).toNatClampNeg), .int (xs (x4 + 4).toNatClampNeg), .ref (A 63)]) (rest := []) S9 (c_La_thread_ok l hl9 D A (MW A ρ []) f _ σ (xs (x4 + 1).toNatClampNeg) (xs (x4 + 2).toNatClampNeg) (xs (x4 + 3).toNatClampNeg) (xs (x4 + 4).toNatClampNeg) v u e1) (vx_cwSW 6 hts (tg_SW wl_La_124 ws_La_thread wi_La wo_La_thread) rfl rfl rfl wq_La_thread.2 ⟨Nat.le_of_ble_eq_true rfl, Nat.le_of_ble_eq_true rfl⟩) (ka_preC X9 hC hP hD hS) rfl rfl hl.1 rfl (lv_room (Nat.le_of_ble_eq_true rfl)) d_La_law_605 ⟨Nat.le_trans (Nat.le_succ _) hc, Nat.le_trans (Nat.le_add_right _ 6) hsl⟩) X9 hD hS rfl (fun H locs hP hD hS => ?_)
    refine lv_istore (lv' := (5, .int 0) :: [(0, .ref b), (1, .ref (A 0)), (2, .ref (A 60)), (3, .ref (A 63)), (4, .int x4)]) hx hb d_La_law_608 hl (by decide) rfl (fun ls hl => ?_)
    refine lv_aload_n hx hb d_La_law_610 rfl (lv_at hl 3 rfl) ?_
    refine lv_aload_n hx hb d_La_law_611 rfl (lv_at hl 1 rfl) ?_
    refine lv_iload hx hb d_La_law_612 (lv_at hl 5 rfl) ?_
    refine lv_iconst (v := 1) hx hb d_La_law_614 (by decide) ?_
    refine lv_iadd hx hb d_La_law_615 ?_
    refine va_sld hx hb hX hbl hbA hS h1 d_La_law_616 ?_
    refine lv_aload_n hx hb d_La_law_617 rfl (lv_at hl 1 rfl) ?_
    refine lv_iload hx hb d_La_law_618 (lv_at hl 5 rfl) ?_
    refine lv_iconst (v := 2) hx hb d_La_law_620 (by decide) ?_
    refine lv_iadd hx hb d_La_law_621 ?_
    refine va_sld hx hb hX hbl hbA hS h2 d_La_law_622 ?_
    refine lv_aload_n hx hb d_La_law_623 rfl (lv_at hl 1 rfl) ?_
    refine lv_iload hx hb d_La_law_624 (lv_at hl 5 rfl) ?_
    refine lv_iconst (v := 3) hx hb d_La_law_626 (by decide) ?_
    refine lv_iadd hx hb d_La_law_627 ?_
    refine va_sld hx hb hX hbl hbA hS h3 d_La_law_628 ?_
    refine lv_aload_n hx hb d_La_law_629 rfl (lv_at hl 1 rfl) ?_
    refine lv_iload hx hb d_La_law_630 (lv_at hl 5 rfl) ?_
    refine lv_iconst (v := 4) hx hb d_La_law_632 (by decide) ?_
    refine lv_iadd hx hb d_La_law_633 ?_
    refine va_sld hx hb hX hbl hbA hS h4 d_La_law_634 ?_
    replace hP := kp_P (kp_perm A u ρ (vp_updL f 0 v.toInt64)) hP
    replace hD := kp_D (kp_perm A u ρ (vp_updL f 0 v.toInt64)) hD
    refine ka_i (va_runV (As := [.int (xs (x4 + 1).toNatClampNeg), .int (xs (x4 + 2).toNatClampNeg), .int (xs (x4 + 3).toNatClampNeg), .int (xs (x4 + 4).toNatClampNeg)]) (rest := []) S9 (c_Mo_thread l hl9 D A (GW A u [ka_oc A (vp_updL f 0 v.toInt64)]) _ ρ (xs (x4 + 1).toNatClampNeg) (xs (x4 + 2).toNatClampNeg) (xs (x4 + 3).toNatClampNeg) (xs (x4 + 4).toNatClampNeg) z e2) (cwV 4 hts (tg_V wl_La_126 wm_Mo_thread we_Mo_thread wi_Mo wo_Mo_thread) rfl rfl rfl wq_Mo_thread ⟨Nat.le_of_ble_eq_true rfl, Nat.le_of_ble_eq_true rfl⟩) (ka_preV X9 hP hD hS 0 rfl rfl) rfl rfl hl.1 rfl (lv_room (Nat.le_of_ble_eq_true rfl)) d_La_law_635 ⟨Nat.le_trans (Nat.le_succ _) hc, Nat.le_trans (Nat.le_add_right _ 6) hsl⟩) X9 hD hS rfl (fun H locs hP hD hS => ?_)
    refine lv_istore (lv' := (6, .int z.1) :: (5, .int 0) :: [(0, .ref b), (1, .ref (A 0)), (2, .ref (A 60)), (3, .ref (A 63)), (4, .int x4)]) hx hb d_La_law_638 hl (by decide) rfl (fun ls hl => ?_)
    replace hP := kp_P (kp_perm A u z.2 (vp_updL f 0 v.toInt64)).symm hP
    replace hD := kp_D (kp_perm A u z.2 (vp_updL f 0 v.toInt64)).symm hD
    refine lv_goto (tgt := 1460) hx hb d_La_law_640 (by decide) ?_
    refine W.widen (k := cells + 1) (n := slots + 6) (by omega) (by omega) ?_
    exact kk u z.2 (vp_updL f 0 v.toInt64) _ _ _ hI hP hD hS (lv_sub hl [2, 3, 4, 5, 6] rfl)
  refine lv_aload_n hx hb d_La_law_579 rfl (lv_at hl 1 rfl) ?_
  refine lv_aload_n hx hb d_La_law_580 rfl (lv_at hl 0 rfl) ?_
  refine lv_iload hx hb d_La_law_581 (lv_at hl 4 rfl) ?_
  refine lv_iconst (v := 1) hx hb d_La_law_583 (by decide) ?_
  refine lv_iadd hx hb d_La_law_584 ?_
  refine va_sld hx hb hX hbl hbA hS h1 d_La_law_585 ?_
  refine lv_aload_n hx hb d_La_law_586 rfl (lv_at hl 0 rfl) ?_
  refine lv_iload hx hb d_La_law_587 (lv_at hl 4 rfl) ?_
  refine lv_iconst (v := 2) hx hb d_La_law_589 (by decide) ?_
  refine lv_iadd hx hb d_La_law_590 ?_
  refine va_sld hx hb hX hbl hbA hS h2 d_La_law_591 ?_
  refine lv_aload_n hx hb d_La_law_592 rfl (lv_at hl 0 rfl) ?_
  refine lv_iload hx hb d_La_law_593 (lv_at hl 4 rfl) ?_
  refine lv_iconst (v := 3) hx hb d_La_law_595 (by decide) ?_
  refine lv_iadd hx hb d_La_law_596 ?_
  refine va_sld hx hb hX hbl hbA hS h3 d_La_law_597 ?_
  refine lv_aload_n hx hb d_La_law_598 rfl (lv_at hl 0 rfl) ?_
  refine lv_iload hx hb d_La_law_599 (lv_at hl 4 rfl) ?_
  refine lv_iconst (v := 4) hx hb d_La_law_601 (by decide) ?_
  refine lv_iadd hx hb d_La_law_602 ?_
  refine va_sld hx hb hX hbl hbA hS h4 d_La_law_603 ?_
  refine lv_aload_n hx hb d_La_law_604 rfl (lv_at hl 3 rfl) ?_
  refine ka_i (vx_runSW (As := [.ref (A 0), .int (xs (x4 + 1).toNatClampNeg), .int (xs (x4 + 2).toNatClampNeg), .int (xs (x4 + 3).toNatClampNeg), .int (xs (x4 + 4).toNatClampNeg), .ref (A 63)]) (rest := []) S9 (c_La_thread_err l hl9 D A (MW A ρ []) f _ σ (xs (x4 + 1).toNatClampNeg) (xs (x4 + 2).toNatClampNeg) (xs (x4 + 3).toNatClampNeg) (xs (x4 + 4).toNatClampNeg) k hk u e1) (vx_cwSW 6 hts (tg_SW wl_La_124 ws_La_thread wi_La wo_La_thread) rfl rfl rfl wq_La_thread.2 ⟨Nat.le_of_ble_eq_true rfl, Nat.le_of_ble_eq_true rfl⟩) (ka_preC X9 hC hP hD hS) rfl rfl hl.1 rfl (lv_room (Nat.le_of_ble_eq_true rfl)) d_La_law_605 ⟨hc, hsl⟩) X9 hD hS rfl (fun H locs hP hD hS => ?_)
  refine lv_istore (lv' := (5, .int (nI k)) :: [(0, .ref b), (1, .ref (A 0)), (2, .ref (A 60)), (3, .ref (A 63)), (4, .int x4)]) hx hb d_La_law_608 hl (by decide) rfl (fun ls hl => ?_)
  refine lv_aload_n hx hb d_La_law_610 rfl (lv_at hl 3 rfl) ?_
  refine lv_aload_n hx hb d_La_law_611 rfl (lv_at hl 1 rfl) ?_
  refine lv_iload hx hb d_La_law_612 (lv_at hl 5 rfl) ?_
  refine lv_iconst (v := 1) hx hb d_La_law_614 (by decide) ?_
  refine lv_iadd hx hb d_La_law_615 ?_
  refine va_sld hx hb hX hbl hbA hS h1 d_La_law_616 ?_
  refine lv_aload_n hx hb d_La_law_617 rfl (lv_at hl 1 rfl) ?_
  refine lv_iload hx hb d_La_law_618 (lv_at hl 5 rfl) ?_
  refine lv_iconst (v := 2) hx hb d_La_law_620 (by decide) ?_
  refine lv_iadd hx hb d_La_law_621 ?_
  refine va_sld hx hb hX hbl hbA hS h2 d_La_law_622 ?_
  refine lv_aload_n hx hb d_La_law_623 rfl (lv_at hl 1 rfl) ?_
  refine lv_iload hx hb d_La_law_624 (lv_at hl 5 rfl) ?_
  refine lv_iconst (v := 3) hx hb d_La_law_626 (by decide) ?_
  refine lv_iadd hx hb d_La_law_627 ?_
  refine va_sld hx hb hX hbl hbA hS h3 d_La_law_628 ?_
  refine lv_aload_n hx hb d_La_law_629 rfl (lv_at hl 1 rfl) ?_
  refine lv_iload hx hb d_La_law_630 (lv_at hl 5 rfl) ?_
  refine lv_iconst (v := 4) hx hb d_La_law_632 (by decide) ?_
  refine lv_iadd hx hb d_La_law_633 ?_
  refine va_sld hx hb hX hbl hbA hS h4 d_La_law_634 ?_
  replace hP := kp_P (kp_perm A u ρ f) hP
  replace hD := kp_D (kp_perm A u ρ f) hD
  refine ka_i (va_runV (As := [.int (xs (x4 + 1).toNatClampNeg), .int (xs (x4 + 2).toNatClampNeg), .int (xs (x4 + 3).toNatClampNeg), .int (xs (x4 + 4).toNatClampNeg)]) (rest := []) S9 (c_Mo_thread l hl9 D A (GW A u [ka_oc A f]) _ ρ (xs (x4 + 1).toNatClampNeg) (xs (x4 + 2).toNatClampNeg) (xs (x4 + 3).toNatClampNeg) (xs (x4 + 4).toNatClampNeg) z e2) (cwV 4 hts (tg_V wl_La_126 wm_Mo_thread we_Mo_thread wi_Mo wo_Mo_thread) rfl rfl rfl wq_Mo_thread ⟨Nat.le_of_ble_eq_true rfl, Nat.le_of_ble_eq_true rfl⟩) (ka_preV X9 hP hD hS 0 rfl rfl) rfl rfl hl.1 rfl (lv_room (Nat.le_of_ble_eq_true rfl)) d_La_law_635 ⟨hc, hsl⟩) X9 hD hS rfl (fun H locs hP hD hS => ?_)
  refine lv_istore (lv' := (6, .int z.1) :: (5, .int (nI k)) :: [(0, .ref b), (1, .ref (A 0)), (2, .ref (A 60)), (3, .ref (A 63)), (4, .int x4)]) hx hb d_La_law_638 hl (by decide) rfl (fun ls hl => ?_)
  replace hP := kp_P (kp_perm A u z.2 f).symm hP
  replace hD := kp_D (kp_perm A u z.2 f).symm hD
  refine lv_goto (tgt := 1460) hx hb d_La_law_640 (by decide) ?_
  refine W.widen (k := cells + 1) (n := slots + 6) (by omega) (by omega) ?_
  exact kk u z.2 f _ _ _ hI hP hD hS (lv_sub hl [2, 3, 4, 5, 6] rfl)
set_option maxRecDepth 100000 in
set_option maxHeartbeats 4000000 in
theorem lc_8 {p : Program} {l : Launch} {e : Env} {s : State} {m : MethodId} {below : List Frame} {meth : Method} {c : Code} {b L : Nat} {xs : Nat → Int32} {D : va_G} {A : Nat → Nat} (I : KS → RS → Prop) (X : lx_ p l s m meth c b L xs D A) {cells slots : Nat} (hc : cells + 1 ≤ room_1.cells) (hsl : slots + 6 ≤ room_1.slots) (x4 : Int32) (h1 : vp_in (x4 + 1) L) (h2 : vp_in (x4 + 2) L) (h3 : vp_in (x4 + 3) L) (h4 : vp_in (x4 + 4) L) (σ : KS) (ρ : RS) (f : Nat → Int64) (sim : ∀ x1 x2 x3 x4 : Int32, (∃ (v : Int32) (u : KS) (z : Int32 × RS), f_Ke_read σ x1 x2 x3 x4 = some (.ok v, u) ∧ f_Mo_read ρ x1 x2 x3 x4 = some z ∧ I u z.2) ∨ (∃ (k : Nat) (u : KS) (z : Int32 × RS), (k = 1 ∨ k = 2 ∨ k = 3 ∨ k = 4) ∧ f_Ke_read σ x1 x2 x3 x4 = some (.error k, u) ∧ f_Mo_read ρ x1 x2 x3 x4 = some z ∧ I u z.2)) {H : Heap} {locs : List Loc} {ls : Array Slot} (hP : va_P D vwCl (kp_C A σ ρ f) H) (hD : va_D (fun q : Nat => s.heap.size ≤ q) (kp_C A σ ρ f)) (hS : va_S (fun q : Nat => s.heap.size ≤ q) s.heap H locs) (hl : lv_has ls 7 [(0, .ref b), (1, .ref (A 0)), (2, .ref (A 60)), (3, .ref (A 63)), (4, .int x4)])
    (kk : ∀ (u : KS) (ρ1 : RS) (f1 : Nat → Int64) (H : Heap) (locs : List Loc) (ls : Array Slot), I u ρ1 → va_P D vwCl (kp_C A u ρ1 f1) H → va_D (fun q : Nat => s.heap.size ≤ q) (kp_C A u ρ1 f1) → va_S (fun q : Nat => s.heap.size ≤ q) s.heap H locs → lv_has ls 7 [(0, .ref b), (1, .ref (A 0)), (2, .ref (A 60)), (3, .ref (A 63)), (4, .int x4)] → W p l e room_1 s m #[Value.ref b] below meth c H locs (cells + 1) (slots + 6) (lw_Z below #[Value.ref b] s) (F0 m 1460 ls [])) : W p l e room_1 s m #[Value.ref b] below meth c H locs cells slots (lw_Z below #[Value.ref b] s) (F0 m 643 ls []) := by
  obtain ⟨hl9, S9, hX, hbl, hlk, hr, hC, X9⟩ := X
  obtain ⟨hx, hb, hml, hown, hts⟩ := id S9
  have hK := X9.2.1
  have hbA : ¬ (fun q : Nat => s.heap.size ≤ q) b := Nat.not_le.mpr hbl
  rcases sim (xs (x4 + 1).toNatClampNeg) (xs (x4 + 2).toNatClampNeg) (xs (x4 + 3).toNatClampNeg) (xs (x4 + 4).toNatClampNeg) with ⟨v, u, z, e1, e2, hI⟩ | ⟨k, u, z, hk, e1, e2, hI⟩
  · refine lv_aload_n hx hb d_La_law_643 rfl (lv_at hl 1 rfl) ?_
    refine lv_aload_n hx hb d_La_law_644 rfl (lv_at hl 0 rfl) ?_
    refine lv_iload hx hb d_La_law_645 (lv_at hl 4 rfl) ?_
    refine lv_iconst (v := 1) hx hb d_La_law_647 (by decide) ?_
    refine lv_iadd hx hb d_La_law_648 ?_
    refine va_sld hx hb hX hbl hbA hS h1 d_La_law_649 ?_
    refine lv_aload_n hx hb d_La_law_650 rfl (lv_at hl 0 rfl) ?_
    refine lv_iload hx hb d_La_law_651 (lv_at hl 4 rfl) ?_
    refine lv_iconst (v := 2) hx hb d_La_law_653 (by decide) ?_
    refine lv_iadd hx hb d_La_law_654 ?_
    refine va_sld hx hb hX hbl hbA hS h2 d_La_law_655 ?_
    refine lv_aload_n hx hb d_La_law_656 rfl (lv_at hl 0 rfl) ?_
    refine lv_iload hx hb d_La_law_657 (lv_at hl 4 rfl) ?_
    refine lv_iconst (v := 3) hx hb d_La_law_659 (by decide) ?_
    refine lv_iadd hx hb d_La_law_660 ?_
    refine va_sld hx hb hX hbl hbA hS h3 d_La_law_661 ?_
    refine lv_aload_n hx hb d_La_law_662 rfl (lv_at hl 0 rfl) ?_
    refine lv_iload hx hb d_La_law_663 (lv_at hl 4 rfl) ?_
    refine lv_iconst (v := 4) hx hb d_La_law_665 (by decide) ?_
    refine lv_iadd hx hb d_La_law_666 ?_
    refine va_sld hx hb hX hbl hbA hS h4 d_La_law_667 ?_
    refine lv_aload_n hx hb d_La_law_668 rfl (lv_at hl 3 rfl) ?_
    refine ka_i (vx_runSW (As := [.ref (A 0), .int (xs (x4 + 1).toNatClampNeg), .int (xs (x4 + 2).toNatClampNeg), .int (xs (x4 + 3).toNatClampNeg), .int (xs (x4 + 4).toNatClampNeg), .ref (A 63)]) (rest := []) S9 (c_La_read_ok l hl9 D A (MW A ρ []) f _ σ (xs (x4 + 1).toNatClampNeg) (xs (x4 + 2).toNatClampNeg) (xs (x4 + 3).toNatClampNeg) (xs (x4 + 4).toNatClampNeg) v u e1) (vx_cwSW 6 hts (tg_SW wl_La_127 ws_La_read wi_La wo_La_read) rfl rfl rfl wq_La_read.2 ⟨Nat.le_of_ble_eq_true rfl, Nat.le_of_ble_eq_true rfl⟩) (ka_preC X9 hC hP hD hS) rfl rfl hl.1 rfl (lv_room (Nat.le_of_ble_eq_true rfl)) d_La_law_669 ⟨Nat.le_trans (Nat.le_succ _) hc, Nat.le_trans (Nat.le_add_right _ 6) hsl⟩) X9 hD hS rfl (fun H locs hP hD hS => ?_)
    refine lv_istore (lv' := (5, .int 0) :: [(0, .ref b), (1, .ref (A 0)), (2, .ref (A 60)), (3, .ref (A 63)), (4, .int x4)]) hx hb d_La_law_672 hl (by decide) rfl (fun ls hl => ?_)
    refine lv_aload_n hx hb d_La_law_674 rfl (lv_at hl 3 rfl) ?_
    refine lv_aload_n hx hb d_La_law_675 rfl (lv_at hl 1 rfl) ?_
    refine lv_iload hx hb d_La_law_676 (lv_at hl 5 rfl) ?_
    refine lv_iconst (v := 1) hx hb d_La_law_678 (by decide) ?_
    refine lv_iadd hx hb d_La_law_679 ?_
    refine va_sld hx hb hX hbl hbA hS h1 d_La_law_680 ?_
    refine lv_aload_n hx hb d_La_law_681 rfl (lv_at hl 1 rfl) ?_
    refine lv_iload hx hb d_La_law_682 (lv_at hl 5 rfl) ?_
    refine lv_iconst (v := 2) hx hb d_La_law_684 (by decide) ?_
    refine lv_iadd hx hb d_La_law_685 ?_
    refine va_sld hx hb hX hbl hbA hS h2 d_La_law_686 ?_
    refine lv_aload_n hx hb d_La_law_687 rfl (lv_at hl 1 rfl) ?_
    refine lv_iload hx hb d_La_law_688 (lv_at hl 5 rfl) ?_
    refine lv_iconst (v := 3) hx hb d_La_law_690 (by decide) ?_
    refine lv_iadd hx hb d_La_law_691 ?_
    refine va_sld hx hb hX hbl hbA hS h3 d_La_law_692 ?_
    refine lv_aload_n hx hb d_La_law_693 rfl (lv_at hl 1 rfl) ?_
    refine lv_iload hx hb d_La_law_694 (lv_at hl 5 rfl) ?_
    refine lv_iconst (v := 4) hx hb d_La_law_696 (by decide) ?_
    refine lv_iadd hx hb d_La_law_697 ?_
    refine va_sld hx hb hX hbl hbA hS h4 d_La_law_698 ?_
    replace hP := kp_P (kp_perm A u ρ (vp_updL f 0 v.toInt64)) hP
    replace hD := kp_D (kp_perm A u ρ (vp_updL f 0 v.toInt64)) hD
    refine ka_i (va_runV (As := [.int (xs (x4 + 1).toNatClampNeg), .int (xs (x4 + 2).toNatClampNeg), .int (xs (x4 + 3).toNatClampNeg), .int (xs (x4 + 4).toNatClampNeg)]) (rest := []) S9 (c_Mo_read l hl9 D A (GW A u [ka_oc A (vp_updL f 0 v.toInt64)]) _ ρ (xs (x4 + 1).toNatClampNeg) (xs (x4 + 2).toNatClampNeg) (xs (x4 + 3).toNatClampNeg) (xs (x4 + 4).toNatClampNeg) z e2) (cwV 4 hts (tg_V wl_La_129 wm_Mo_read we_Mo_read wi_Mo wo_Mo_read) rfl rfl rfl wq_Mo_read ⟨Nat.le_of_ble_eq_true rfl, Nat.le_of_ble_eq_true rfl⟩) (ka_preV X9 hP hD hS 0 rfl rfl) rfl rfl hl.1 rfl (lv_room (Nat.le_of_ble_eq_true rfl)) d_La_law_699 ⟨Nat.le_trans (Nat.le_succ _) hc, Nat.le_trans (Nat.le_add_right _ 6) hsl⟩) X9 hD hS rfl (fun H locs hP hD hS => ?_)
    refine lv_istore (lv' := (6, .int z.1) :: (5, .int 0) :: [(0, .ref b), (1, .ref (A 0)), (2, .ref (A 60)), (3, .ref (A 63)), (4, .int x4)]) hx hb d_La_law_702 hl (by decide) rfl (fun ls hl => ?_)
    replace hP := kp_P (kp_perm A u z.2 (vp_updL f 0 v.toInt64)).symm hP
    replace hD := kp_D (kp_perm A u z.2 (vp_updL f 0 v.toInt64)).symm hD
    refine lv_goto (tgt := 1460) hx hb d_La_law_704 (by decide) ?_
    refine W.widen (k := cells + 1) (n := slots + 6) (by omega) (by omega) ?_
    exact kk u z.2 (vp_updL f 0 v.toInt64) _ _ _ hI hP hD hS (lv_sub hl [2, 3, 4, 5, 6] rfl)
  refine lv_aload_n hx hb d_La_law_643 rfl (lv_at hl 1 rfl) ?_
  refine lv_aload_n hx hb d_La_law_644 rfl (lv_at hl 0 rfl) ?_
  refine lv_iload hx hb d_La_law_645 (lv_at hl 4 rfl) ?_
  refine lv_iconst (v := 1) hx hb d_La_law_647 (by decide) ?_
  refine lv_iadd hx hb d_La_law_648 ?_
  refine va_sld hx hb hX hbl hbA hS h1 d_La_law_649 ?_
  refine lv_aload_n hx hb d_La_law_650 rfl (lv_at hl 0 rfl) ?_
  refine lv_iload hx hb d_La_law_651 (lv_at hl 4 rfl) ?_
  refine lv_iconst (v := 2) hx hb d_La_law_653 (by decide) ?_
  refine lv_iadd hx hb d_La_law_654 ?_
  refine va_sld hx hb hX hbl hbA hS h2 d_La_law_655 ?_
  refine lv_aload_n hx hb d_La_law_656 rfl (lv_at hl 0 rfl) ?_
  refine lv_iload hx hb d_La_law_657 (lv_at hl 4 rfl) ?_
  refine lv_iconst (v := 3) hx hb d_La_law_659 (by decide) ?_
  refine lv_iadd hx hb d_La_law_660 ?_
  refine va_sld hx hb hX hbl hbA hS h3 d_La_law_661 ?_
  refine lv_aload_n hx hb d_La_law_662 rfl (lv_at hl 0 rfl) ?_
  refine lv_iload hx hb d_La_law_663 (lv_at hl 4 rfl) ?_
  refine lv_iconst (v := 4) hx hb d_La_law_665 (by decide) ?_
  refine lv_iadd hx hb d_La_law_666 ?_
  refine va_sld hx hb hX hbl hbA hS h4 d_La_law_667 ?_
  refine lv_aload_n hx hb d_La_law_668 rfl (lv_at hl 3 rfl) ?_
  refine ka_i (vx_runSW (As := [.ref (A 0), .int (xs (x4 + 1).toNatClampNeg), .int (xs (x4 + 2).toNatClampNeg), .int (xs (x4 + 3).toNatClampNeg), .int (xs (x4 + 4).toNatClampNeg), .ref (A 63)]) (rest := []) S9 (c_La_read_err l hl9 D A (MW A ρ []) f _ σ (xs (x4 + 1).toNatClampNeg) (xs (x4 + 2).toNatClampNeg) (xs (x4 + 3).toNatClampNeg) (xs (x4 + 4).toNatClampNeg) k hk u e1) (vx_cwSW 6 hts (tg_SW wl_La_127 ws_La_read wi_La wo_La_read) rfl rfl rfl wq_La_read.2 ⟨Nat.le_of_ble_eq_true rfl, Nat.le_of_ble_eq_true rfl⟩) (ka_preC X9 hC hP hD hS) rfl rfl hl.1 rfl (lv_room (Nat.le_of_ble_eq_true rfl)) d_La_law_669 ⟨hc, hsl⟩) X9 hD hS rfl (fun H locs hP hD hS => ?_)
  refine lv_istore (lv' := (5, .int (nI k)) :: [(0, .ref b), (1, .ref (A 0)), (2, .ref (A 60)), (3, .ref (A 63)), (4, .int x4)]) hx hb d_La_law_672 hl (by decide) rfl (fun ls hl => ?_)
  refine lv_aload_n hx hb d_La_law_674 rfl (lv_at hl 3 rfl) ?_
  refine lv_aload_n hx hb d_La_law_675 rfl (lv_at hl 1 rfl) ?_
  refine lv_iload hx hb d_La_law_676 (lv_at hl 5 rfl) ?_
  refine lv_iconst (v := 1) hx hb d_La_law_678 (by decide) ?_
  refine lv_iadd hx hb d_La_law_679 ?_
  refine va_sld hx hb hX hbl hbA hS h1 d_La_law_680 ?_
  refine lv_aload_n hx hb d_La_law_681 rfl (lv_at hl 1 rfl) ?_
  refine lv_iload hx hb d_La_law_682 (lv_at hl 5 rfl) ?_
  refine lv_iconst (v := 2) hx hb d_La_law_684 (by decide) ?_
  refine lv_iadd hx hb d_La_law_685 ?_
  refine va_sld hx hb hX hbl hbA hS h2 d_La_law_686 ?_
  refine lv_aload_n hx hb d_La_law_687 rfl (lv_at hl 1 rfl) ?_
  refine lv_iload hx hb d_La_law_688 (lv_at hl 5 rfl) ?_
  refine lv_iconst (v := 3) hx hb d_La_law_690 (by decide) ?_
  refine lv_iadd hx hb d_La_law_691 ?_
  refine va_sld hx hb hX hbl hbA hS h3 d_La_law_692 ?_
  refine lv_aload_n hx hb d_La_law_693 rfl (lv_at hl 1 rfl) ?_
  refine lv_iload hx hb d_La_law_694 (lv_at hl 5 rfl) ?_
  refine lv_iconst (v := 4) hx hb d_La_law_696 (by decide) ?_
  refine lv_iadd hx hb d_La_law_697 ?_
  refine va_sld hx hb hX hbl hbA hS h4 d_La_law_698 ?_
  replace hP := kp_P (kp_perm A u ρ f) hP
  replace hD := kp_D (kp_perm A u ρ f) hD
  refine ka_i (va_runV (As := [.int (xs (x4 + 1).toNatClampNeg), .int (xs (x4 + 2).toNatClampNeg), .int (xs (x4 + 3).toNatClampNeg), .int (xs (x4 + 4).toNatClampNeg)]) (rest := []) S9 (c_Mo_read l hl9 D A (GW A u [ka_oc A f]) _ ρ (xs (x4 + 1).toNatClampNeg) (xs (x4 + 2).toNatClampNeg) (xs (x4 + 3).toNatClampNeg) (xs (x4 + 4).toNatClampNeg) z e2) (cwV 4 hts (tg_V wl_La_129 wm_Mo_read we_Mo_read wi_Mo wo_Mo_read) rfl rfl rfl wq_Mo_read ⟨Nat.le_of_ble_eq_true rfl, Nat.le_of_ble_eq_true rfl⟩) (ka_preV X9 hP hD hS 0 rfl rfl) rfl rfl hl.1 rfl (lv_room (Nat.le_of_ble_eq_true rfl)) d_La_law_699 ⟨hc, hsl⟩) X9 hD hS rfl (fun H locs hP hD hS => ?_)
  refine lv_istore (lv' := (6, .int z.1) :: (5, .int (nI k)) :: [(0, .ref b), (1, .ref (A 0)), (2, .ref (A 60)), (3, .ref (A 63)), (4, .int x4)]) hx hb d_La_law_702 hl (by decide) rfl (fun ls hl => ?_)
  replace hP := kp_P (kp_perm A u z.2 f).symm hP
  replace hD := kp_D (kp_perm A u z.2 f).symm hD
  refine lv_goto (tgt := 1460) hx hb d_La_law_704 (by decide) ?_
  refine W.widen (k := cells + 1) (n := slots + 6) (by omega) (by omega) ?_
  exact kk u z.2 f _ _ _ hI hP hD hS (lv_sub hl [2, 3, 4, 5, 6] rfl)
set_option maxRecDepth 100000 in
set_option maxHeartbeats 4000000 in
theorem lc_9 {p : Program} {l : Launch} {e : Env} {s : State} {m : MethodId} {below : List Frame} {meth : Method} {c : Code} {b L : Nat} {xs : Nat → Int32} {D : va_G} {A : Nat → Nat} (I : KS → RS → Prop) (X : lx_ p l s m meth c b L xs D A) {cells slots : Nat} (hc : cells + 1 ≤ room_1.cells) (hsl : slots + 6 ≤ room_1.slots) (x4 : Int32) (h1 : vp_in (x4 + 1) L) (h2 : vp_in (x4 + 2) L) (h3 : vp_in (x4 + 3) L) (h4 : vp_in (x4 + 4) L) (h5 : vp_in (x4 + 5) L) (σ : KS) (ρ : RS) (f : Nat → Int64) (sim : ∀ x1 x2 x3 x4 x5 : Int32, (∃ (v : Int32) (u : KS) (z : Int32 × RS), f_Ke_write σ x1 x2 x3 x4 x5 = some (.ok v, u) ∧ f_Mo_write ρ x1 x2 x3 x4 x5 = some z ∧ I u z.2) ∨ (∃ (k : Nat) (u : KS) (z : Int32 × RS), (k = 1 ∨ k = 2 ∨ k = 3 ∨ k = 4) ∧ f_Ke_write σ x1 x2 x3 x4 x5 = some (.error k, u) ∧ f_Mo_write ρ x1 x2 x3 x4 x5 = some z ∧ I u z.2)) {H : Heap} {locs : List Loc} {ls : Array Slot} (hP : va_P D vwCl (kp_C A σ ρ f) H) (hD : va_D (fun q : Nat => s.heap.size ≤ q) (kp_C A σ ρ f)) (hS : va_S (fun q : Nat => s.heap.size ≤ q) s.heap H locs) (hl : lv_has ls 7 [(0, .ref b), (1, .ref (A 0)), (2, .ref (A 60)), (3, .ref (A 63)), (4, .int x4)])
    (kk : ∀ (u : KS) (ρ1 : RS) (f1 : Nat → Int64) (H : Heap) (locs : List Loc) (ls : Array Slot), I u ρ1 → va_P D vwCl (kp_C A u ρ1 f1) H → va_D (fun q : Nat => s.heap.size ≤ q) (kp_C A u ρ1 f1) → va_S (fun q : Nat => s.heap.size ≤ q) s.heap H locs → lv_has ls 7 [(0, .ref b), (1, .ref (A 0)), (2, .ref (A 60)), (3, .ref (A 63)), (4, .int x4)] → W p l e room_1 s m #[Value.ref b] below meth c H locs (cells + 1) (slots + 6) (lw_Z below #[Value.ref b] s) (F0 m 1460 ls [])) : W p l e room_1 s m #[Value.ref b] below meth c H locs cells slots (lw_Z below #[Value.ref b] s) (F0 m 707 ls []) := by
  obtain ⟨hl9, S9, hX, hbl, hlk, hr, hC, X9⟩ := X
  obtain ⟨hx, hb, hml, hown, hts⟩ := id S9
  have hK := X9.2.1
  have hbA : ¬ (fun q : Nat => s.heap.size ≤ q) b := Nat.not_le.mpr hbl
  rcases sim (xs (x4 + 1).toNatClampNeg) (xs (x4 + 2).toNatClampNeg) (xs (x4 + 3).toNatClampNeg) (xs (x4 + 4).toNatClampNeg) (xs (x4 + 5).toNatClampNeg) with ⟨v, u, z, e1, e2, hI⟩ | ⟨k, u, z, hk, e1, e2, hI⟩
  · refine lv_aload_n hx hb d_La_law_707 rfl (lv_at hl 1 rfl) ?_
    refine lv_aload_n hx hb d_La_law_708 rfl (lv_at hl 0 rfl) ?_
    refine lv_iload hx hb d_La_law_709 (lv_at hl 4 rfl) ?_
    refine lv_iconst (v := 1) hx hb d_La_law_711 (by decide) ?_
    refine lv_iadd hx hb d_La_law_712 ?_
    refine va_sld hx hb hX hbl hbA hS h1 d_La_law_713 ?_
    refine lv_aload_n hx hb d_La_law_714 rfl (lv_at hl 0 rfl) ?_
    refine lv_iload hx hb d_La_law_715 (lv_at hl 4 rfl) ?_
    refine lv_iconst (v := 2) hx hb d_La_law_717 (by decide) ?_
    refine lv_iadd hx hb d_La_law_718 ?_
    refine va_sld hx hb hX hbl hbA hS h2 d_La_law_719 ?_
    refine lv_aload_n hx hb d_La_law_720 rfl (lv_at hl 0 rfl) ?_
    refine lv_iload hx hb d_La_law_721 (lv_at hl 4 rfl) ?_
    refine lv_iconst (v := 3) hx hb d_La_law_723 (by decide) ?_
    refine lv_iadd hx hb d_La_law_724 ?_
    refine va_sld hx hb hX hbl hbA hS h3 d_La_law_725 ?_
    refine lv_aload_n hx hb d_La_law_726 rfl (lv_at hl 0 rfl) ?_
    refine lv_iload hx hb d_La_law_727 (lv_at hl 4 rfl) ?_
    refine lv_iconst (v := 4) hx hb d_La_law_729 (by decide) ?_
    refine lv_iadd hx hb d_La_law_730 ?_
    refine va_sld hx hb hX hbl hbA hS h4 d_La_law_731 ?_
    refine lv_aload_n hx hb d_La_law_732 rfl (lv_at hl 0 rfl) ?_
    refine lv_iload hx hb d_La_law_733 (lv_at hl 4 rfl) ?_
    refine lv_iconst (v := 5) hx hb d_La_law_735 (by decide) ?_
    refine lv_iadd hx hb d_La_law_736 ?_
    refine va_sld hx hb hX hbl hbA hS h5 d_La_law_737 ?_
    refine lv_aload_n hx hb d_La_law_738 rfl (lv_at hl 3 rfl) ?_
    refine ka_i (vx_runSW (As := [.ref (A 0), .int (xs (x4 + 1).toNatClampNeg), .int (xs (x4 + 2).toNatClampNeg), .int (xs (x4 + 3).toNatClampNeg), .int (xs (x4 + 4).toNatClampNeg), .int (xs (x4 + 5).toNatClampNeg), .ref (A 63)]) (rest := []) S9 (c_La_write_ok l hl9 D A (MW A ρ []) f _ σ (xs (x4 + 1).toNatClampNeg) (xs (x4 + 2).toNatClampNeg) (xs (x4 + 3).toNatClampNeg) (xs (x4 + 4).toNatClampNeg) (xs (x4 + 5).toNatClampNeg) v u e1) (vx_cwSW 7 hts (tg_SW wl_La_130 ws_La_write wi_La wo_La_write) rfl rfl rfl wq_La_write.2 ⟨Nat.le_of_ble_eq_true rfl, Nat.le_of_ble_eq_true rfl⟩) (ka_preC X9 hC hP hD hS) rfl rfl hl.1 rfl (lv_room (Nat.le_of_ble_eq_true rfl)) d_La_law_739 ⟨Nat.le_trans (Nat.le_succ _) hc, Nat.le_trans (Nat.le_add_right _ 6) hsl⟩) X9 hD hS rfl (fun H locs hP hD hS => ?_)
    refine lv_istore (lv' := (5, .int 0) :: [(0, .ref b), (1, .ref (A 0)), (2, .ref (A 60)), (3, .ref (A 63)), (4, .int x4)]) hx hb d_La_law_742 hl (by decide) rfl (fun ls hl => ?_)
    refine lv_aload_n hx hb d_La_law_744 rfl (lv_at hl 3 rfl) ?_
    refine lv_aload_n hx hb d_La_law_745 rfl (lv_at hl 1 rfl) ?_
    refine lv_iload hx hb d_La_law_746 (lv_at hl 5 rfl) ?_
    refine lv_iconst (v := 1) hx hb d_La_law_748 (by decide) ?_
    refine lv_iadd hx hb d_La_law_749 ?_
    refine va_sld hx hb hX hbl hbA hS h1 d_La_law_750 ?_
    refine lv_aload_n hx hb d_La_law_751 rfl (lv_at hl 1 rfl) ?_
    refine lv_iload hx hb d_La_law_752 (lv_at hl 5 rfl) ?_
    refine lv_iconst (v := 2) hx hb d_La_law_754 (by decide) ?_
    refine lv_iadd hx hb d_La_law_755 ?_
    refine va_sld hx hb hX hbl hbA hS h2 d_La_law_756 ?_
    refine lv_aload_n hx hb d_La_law_757 rfl (lv_at hl 1 rfl) ?_
    refine lv_iload hx hb d_La_law_758 (lv_at hl 5 rfl) ?_
    refine lv_iconst (v := 3) hx hb d_La_law_760 (by decide) ?_
    refine lv_iadd hx hb d_La_law_761 ?_
    refine va_sld hx hb hX hbl hbA hS h3 d_La_law_762 ?_
    refine lv_aload_n hx hb d_La_law_763 rfl (lv_at hl 1 rfl) ?_
    refine lv_iload hx hb d_La_law_764 (lv_at hl 5 rfl) ?_
    refine lv_iconst (v := 4) hx hb d_La_law_766 (by decide) ?_
    refine lv_iadd hx hb d_La_law_767 ?_
    refine va_sld hx hb hX hbl hbA hS h4 d_La_law_768 ?_
    refine lv_aload_n hx hb d_La_law_769 rfl (lv_at hl 1 rfl) ?_
    refine lv_iload hx hb d_La_law_770 (lv_at hl 5 rfl) ?_
    refine lv_iconst (v := 5) hx hb d_La_law_772 (by decide) ?_
    refine lv_iadd hx hb d_La_law_773 ?_
    refine va_sld hx hb hX hbl hbA hS h5 d_La_law_774 ?_
    replace hP := kp_P (kp_perm A u ρ (vp_updL f 0 v.toInt64)) hP
    replace hD := kp_D (kp_perm A u ρ (vp_updL f 0 v.toInt64)) hD
    refine ka_i (va_runV (As := [.int (xs (x4 + 1).toNatClampNeg), .int (xs (x4 + 2).toNatClampNeg), .int (xs (x4 + 3).toNatClampNeg), .int (xs (x4 + 4).toNatClampNeg), .int (xs (x4 + 5).toNatClampNeg)]) (rest := []) S9 (c_Mo_write l hl9 D A (GW A u [ka_oc A (vp_updL f 0 v.toInt64)]) _ ρ (xs (x4 + 1).toNatClampNeg) (xs (x4 + 2).toNatClampNeg) (xs (x4 + 3).toNatClampNeg) (xs (x4 + 4).toNatClampNeg) (xs (x4 + 5).toNatClampNeg) z e2) (cwV 5 hts (tg_V wl_La_132 wm_Mo_write we_Mo_write wi_Mo wo_Mo_write) rfl rfl rfl wq_Mo_write ⟨Nat.le_of_ble_eq_true rfl, Nat.le_of_ble_eq_true rfl⟩) (ka_preV X9 hP hD hS 0 rfl rfl) rfl rfl hl.1 rfl (lv_room (Nat.le_of_ble_eq_true rfl)) d_La_law_775 ⟨Nat.le_trans (Nat.le_succ _) hc, Nat.le_trans (Nat.le_add_right _ 6) hsl⟩) X9 hD hS rfl (fun H locs hP hD hS => ?_)
    refine lv_istore (lv' := (6, .int z.1) :: (5, .int 0) :: [(0, .ref b), (1, .ref (A 0)), (2, .ref (A 60)), (3, .ref (A 63)), (4, .int x4)]) hx hb d_La_law_778 hl (by decide) rfl (fun ls hl => ?_)
    replace hP := kp_P (kp_perm A u z.2 (vp_updL f 0 v.toInt64)).symm hP
    replace hD := kp_D (kp_perm A u z.2 (vp_updL f 0 v.toInt64)).symm hD
    refine lv_goto (tgt := 1460) hx hb d_La_law_780 (by decide) ?_
    refine W.widen (k := cells + 1) (n := slots + 6) (by omega) (by omega) ?_
    exact kk u z.2 (vp_updL f 0 v.toInt64) _ _ _ hI hP hD hS (lv_sub hl [2, 3, 4, 5, 6] rfl)
  refine lv_aload_n hx hb d_La_law_707 rfl (lv_at hl 1 rfl) ?_
  refine lv_aload_n hx hb d_La_law_708 rfl (lv_at hl 0 rfl) ?_
  refine lv_iload hx hb d_La_law_709 (lv_at hl 4 rfl) ?_
  refine lv_iconst (v := 1) hx hb d_La_law_711 (by decide) ?_
  refine lv_iadd hx hb d_La_law_712 ?_
  refine va_sld hx hb hX hbl hbA hS h1 d_La_law_713 ?_
  refine lv_aload_n hx hb d_La_law_714 rfl (lv_at hl 0 rfl) ?_
  refine lv_iload hx hb d_La_law_715 (lv_at hl 4 rfl) ?_
  refine lv_iconst (v := 2) hx hb d_La_law_717 (by decide) ?_
  refine lv_iadd hx hb d_La_law_718 ?_
  refine va_sld hx hb hX hbl hbA hS h2 d_La_law_719 ?_
  refine lv_aload_n hx hb d_La_law_720 rfl (lv_at hl 0 rfl) ?_
  refine lv_iload hx hb d_La_law_721 (lv_at hl 4 rfl) ?_
  refine lv_iconst (v := 3) hx hb d_La_law_723 (by decide) ?_
  refine lv_iadd hx hb d_La_law_724 ?_
  refine va_sld hx hb hX hbl hbA hS h3 d_La_law_725 ?_
  refine lv_aload_n hx hb d_La_law_726 rfl (lv_at hl 0 rfl) ?_
  refine lv_iload hx hb d_La_law_727 (lv_at hl 4 rfl) ?_
  refine lv_iconst (v := 4) hx hb d_La_law_729 (by decide) ?_
  refine lv_iadd hx hb d_La_law_730 ?_
  refine va_sld hx hb hX hbl hbA hS h4 d_La_law_731 ?_
  refine lv_aload_n hx hb d_La_law_732 rfl (lv_at hl 0 rfl) ?_
  refine lv_iload hx hb d_La_law_733 (lv_at hl 4 rfl) ?_
  refine lv_iconst (v := 5) hx hb d_La_law_735 (by decide) ?_
  refine lv_iadd hx hb d_La_law_736 ?_
  refine va_sld hx hb hX hbl hbA hS h5 d_La_law_737 ?_
  refine lv_aload_n hx hb d_La_law_738 rfl (lv_at hl 3 rfl) ?_
  refine ka_i (vx_runSW (As := [.ref (A 0), .int (xs (x4 + 1).toNatClampNeg), .int (xs (x4 + 2).toNatClampNeg), .int (xs (x4 + 3).toNatClampNeg), .int (xs (x4 + 4).toNatClampNeg), .int (xs (x4 + 5).toNatClampNeg), .ref (A 63)]) (rest := []) S9 (c_La_write_err l hl9 D A (MW A ρ []) f _ σ (xs (x4 + 1).toNatClampNeg) (xs (x4 + 2).toNatClampNeg) (xs (x4 + 3).toNatClampNeg) (xs (x4 + 4).toNatClampNeg) (xs (x4 + 5).toNatClampNeg) k hk u e1) (vx_cwSW 7 hts (tg_SW wl_La_130 ws_La_write wi_La wo_La_write) rfl rfl rfl wq_La_write.2 ⟨Nat.le_of_ble_eq_true rfl, Nat.le_of_ble_eq_true rfl⟩) (ka_preC X9 hC hP hD hS) rfl rfl hl.1 rfl (lv_room (Nat.le_of_ble_eq_true rfl)) d_La_law_739 ⟨hc, hsl⟩) X9 hD hS rfl (fun H locs hP hD hS => ?_)
  refine lv_istore (lv' := (5, .int (nI k)) :: [(0, .ref b), (1, .ref (A 0)), (2, .ref (A 60)), (3, .ref (A 63)), (4, .int x4)]) hx hb d_La_law_742 hl (by decide) rfl (fun ls hl => ?_)
  refine lv_aload_n hx hb d_La_law_744 rfl (lv_at hl 3 rfl) ?_
  refine lv_aload_n hx hb d_La_law_745 rfl (lv_at hl 1 rfl) ?_
  refine lv_iload hx hb d_La_law_746 (lv_at hl 5 rfl) ?_
  refine lv_iconst (v := 1) hx hb d_La_law_748 (by decide) ?_
  refine lv_iadd hx hb d_La_law_749 ?_
  refine va_sld hx hb hX hbl hbA hS h1 d_La_law_750 ?_
  refine lv_aload_n hx hb d_La_law_751 rfl (lv_at hl 1 rfl) ?_
  refine lv_iload hx hb d_La_law_752 (lv_at hl 5 rfl) ?_
  refine lv_iconst (v := 2) hx hb d_La_law_754 (by decide) ?_
  refine lv_iadd hx hb d_La_law_755 ?_
  refine va_sld hx hb hX hbl hbA hS h2 d_La_law_756 ?_
  refine lv_aload_n hx hb d_La_law_757 rfl (lv_at hl 1 rfl) ?_
  refine lv_iload hx hb d_La_law_758 (lv_at hl 5 rfl) ?_
  refine lv_iconst (v := 3) hx hb d_La_law_760 (by decide) ?_
  refine lv_iadd hx hb d_La_law_761 ?_
  refine va_sld hx hb hX hbl hbA hS h3 d_La_law_762 ?_
  refine lv_aload_n hx hb d_La_law_763 rfl (lv_at hl 1 rfl) ?_
  refine lv_iload hx hb d_La_law_764 (lv_at hl 5 rfl) ?_
  refine lv_iconst (v := 4) hx hb d_La_law_766 (by decide) ?_
  refine lv_iadd hx hb d_La_law_767 ?_
  refine va_sld hx hb hX hbl hbA hS h4 d_La_law_768 ?_
  refine lv_aload_n hx hb d_La_law_769 rfl (lv_at hl 1 rfl) ?_
  refine lv_iload hx hb d_La_law_770 (lv_at hl 5 rfl) ?_
  refine lv_iconst (v := 5) hx hb d_La_law_772 (by decide) ?_
  refine lv_iadd hx hb d_La_law_773 ?_
  refine va_sld hx hb hX hbl hbA hS h5 d_La_law_774 ?_
  replace hP := kp_P (kp_perm A u ρ f) hP
  replace hD := kp_D (kp_perm A u ρ f) hD
  refine ka_i (va_runV (As := [.int (xs (x4 + 1).toNatClampNeg), .int (xs (x4 + 2).toNatClampNeg), .int (xs (x4 + 3).toNatClampNeg), .int (xs (x4 + 4).toNatClampNeg), .int (xs (x4 + 5).toNatClampNeg)]) (rest := []) S9 (c_Mo_write l hl9 D A (GW A u [ka_oc A f]) _ ρ (xs (x4 + 1).toNatClampNeg) (xs (x4 + 2).toNatClampNeg) (xs (x4 + 3).toNatClampNeg) (xs (x4 + 4).toNatClampNeg) (xs (x4 + 5).toNatClampNeg) z e2) (cwV 5 hts (tg_V wl_La_132 wm_Mo_write we_Mo_write wi_Mo wo_Mo_write) rfl rfl rfl wq_Mo_write ⟨Nat.le_of_ble_eq_true rfl, Nat.le_of_ble_eq_true rfl⟩) (ka_preV X9 hP hD hS 0 rfl rfl) rfl rfl hl.1 rfl (lv_room (Nat.le_of_ble_eq_true rfl)) d_La_law_775 ⟨hc, hsl⟩) X9 hD hS rfl (fun H locs hP hD hS => ?_)
  refine lv_istore (lv' := (6, .int z.1) :: (5, .int (nI k)) :: [(0, .ref b), (1, .ref (A 0)), (2, .ref (A 60)), (3, .ref (A 63)), (4, .int x4)]) hx hb d_La_law_778 hl (by decide) rfl (fun ls hl => ?_)
  replace hP := kp_P (kp_perm A u z.2 f).symm hP
  replace hD := kp_D (kp_perm A u z.2 f).symm hD
  refine lv_goto (tgt := 1460) hx hb d_La_law_780 (by decide) ?_
  refine W.widen (k := cells + 1) (n := slots + 6) (by omega) (by omega) ?_
  exact kk u z.2 f _ _ _ hI hP hD hS (lv_sub hl [2, 3, 4, 5, 6] rfl)
set_option maxRecDepth 100000 in
set_option maxHeartbeats 4000000 in
theorem lc_10 {p : Program} {l : Launch} {e : Env} {s : State} {m : MethodId} {below : List Frame} {meth : Method} {c : Code} {b L : Nat} {xs : Nat → Int32} {D : va_G} {A : Nat → Nat} (I : KS → RS → Prop) (X : lx_ p l s m meth c b L xs D A) {cells slots : Nat} (hc : cells + 1 ≤ room_1.cells) (hsl : slots + 6 ≤ room_1.slots) (x4 : Int32) (h1 : vp_in (x4 + 1) L) (h2 : vp_in (x4 + 2) L) (h3 : vp_in (x4 + 3) L) (h4 : vp_in (x4 + 4) L) (σ : KS) (ρ : RS) (f : Nat → Int64) (sim : ∀ x1 x2 x3 x4 : Int32, (∃ (v : Int32) (u : KS) (z : Int32 × RS), f_Ke_move σ x1 x2 x3 x4 = some (.ok v, u) ∧ f_Mo_move ρ x1 x2 x3 x4 = some z ∧ I u z.2) ∨ (∃ (k : Nat) (u : KS) (z : Int32 × RS), (k = 1 ∨ k = 2 ∨ k = 3 ∨ k = 4) ∧ f_Ke_move σ x1 x2 x3 x4 = some (.error k, u) ∧ f_Mo_move ρ x1 x2 x3 x4 = some z ∧ I u z.2)) {H : Heap} {locs : List Loc} {ls : Array Slot} (hP : va_P D vwCl (kp_C A σ ρ f) H) (hD : va_D (fun q : Nat => s.heap.size ≤ q) (kp_C A σ ρ f)) (hS : va_S (fun q : Nat => s.heap.size ≤ q) s.heap H locs) (hl : lv_has ls 7 [(0, .ref b), (1, .ref (A 0)), (2, .ref (A 60)), (3, .ref (A 63)), (4, .int x4)])
    (kk : ∀ (u : KS) (ρ1 : RS) (f1 : Nat → Int64) (H : Heap) (locs : List Loc) (ls : Array Slot), I u ρ1 → va_P D vwCl (kp_C A u ρ1 f1) H → va_D (fun q : Nat => s.heap.size ≤ q) (kp_C A u ρ1 f1) → va_S (fun q : Nat => s.heap.size ≤ q) s.heap H locs → lv_has ls 7 [(0, .ref b), (1, .ref (A 0)), (2, .ref (A 60)), (3, .ref (A 63)), (4, .int x4)] → W p l e room_1 s m #[Value.ref b] below meth c H locs (cells + 1) (slots + 6) (lw_Z below #[Value.ref b] s) (F0 m 1460 ls [])) : W p l e room_1 s m #[Value.ref b] below meth c H locs cells slots (lw_Z below #[Value.ref b] s) (F0 m 783 ls []) := by
  obtain ⟨hl9, S9, hX, hbl, hlk, hr, hC, X9⟩ := X
  obtain ⟨hx, hb, hml, hown, hts⟩ := id S9
  have hK := X9.2.1
  have hbA : ¬ (fun q : Nat => s.heap.size ≤ q) b := Nat.not_le.mpr hbl
  rcases sim (xs (x4 + 1).toNatClampNeg) (xs (x4 + 2).toNatClampNeg) (xs (x4 + 3).toNatClampNeg) (xs (x4 + 4).toNatClampNeg) with ⟨v, u, z, e1, e2, hI⟩ | ⟨k, u, z, hk, e1, e2, hI⟩
  · refine lv_aload_n hx hb d_La_law_783 rfl (lv_at hl 1 rfl) ?_
    refine lv_aload_n hx hb d_La_law_784 rfl (lv_at hl 0 rfl) ?_
    refine lv_iload hx hb d_La_law_785 (lv_at hl 4 rfl) ?_
    refine lv_iconst (v := 1) hx hb d_La_law_787 (by decide) ?_
    refine lv_iadd hx hb d_La_law_788 ?_
    refine va_sld hx hb hX hbl hbA hS h1 d_La_law_789 ?_
    refine lv_aload_n hx hb d_La_law_790 rfl (lv_at hl 0 rfl) ?_
    refine lv_iload hx hb d_La_law_791 (lv_at hl 4 rfl) ?_
    refine lv_iconst (v := 2) hx hb d_La_law_793 (by decide) ?_
    refine lv_iadd hx hb d_La_law_794 ?_
    refine va_sld hx hb hX hbl hbA hS h2 d_La_law_795 ?_
    refine lv_aload_n hx hb d_La_law_796 rfl (lv_at hl 0 rfl) ?_
    refine lv_iload hx hb d_La_law_797 (lv_at hl 4 rfl) ?_
    refine lv_iconst (v := 3) hx hb d_La_law_799 (by decide) ?_
    refine lv_iadd hx hb d_La_law_800 ?_
    refine va_sld hx hb hX hbl hbA hS h3 d_La_law_801 ?_
    refine lv_aload_n hx hb d_La_law_802 rfl (lv_at hl 0 rfl) ?_
    refine lv_iload hx hb d_La_law_803 (lv_at hl 4 rfl) ?_
    refine lv_iconst (v := 4) hx hb d_La_law_805 (by decide) ?_
    refine lv_iadd hx hb d_La_law_806 ?_
    refine va_sld hx hb hX hbl hbA hS h4 d_La_law_807 ?_
    refine lv_aload_n hx hb d_La_law_808 rfl (lv_at hl 3 rfl) ?_
    refine ka_i (vx_runSW (As := [.ref (A 0), .int (xs (x4 + 1).toNatClampNeg), .int (xs (x4 + 2).toNatClampNeg), .int (xs (x4 + 3).toNatClampNeg), .int (xs (x4 + 4).toNatClampNeg), .ref (A 63)]) (rest := []) S9 (c_La_move_ok l hl9 D A (MW A ρ []) f _ σ (xs (x4 + 1).toNatClampNeg) (xs (x4 + 2).toNatClampNeg) (xs (x4 + 3).toNatClampNeg) (xs (x4 + 4).toNatClampNeg) v u e1) (vx_cwSW 6 hts (tg_SW wl_La_133 ws_La_move wi_La wo_La_move) rfl rfl rfl wq_La_move.2 ⟨Nat.le_of_ble_eq_true rfl, Nat.le_of_ble_eq_true rfl⟩) (ka_preC X9 hC hP hD hS) rfl rfl hl.1 rfl (lv_room (Nat.le_of_ble_eq_true rfl)) d_La_law_809 ⟨Nat.le_trans (Nat.le_succ _) hc, Nat.le_trans (Nat.le_add_right _ 6) hsl⟩) X9 hD hS rfl (fun H locs hP hD hS => ?_)
    refine lv_istore (lv' := (5, .int 0) :: [(0, .ref b), (1, .ref (A 0)), (2, .ref (A 60)), (3, .ref (A 63)), (4, .int x4)]) hx hb d_La_law_812 hl (by decide) rfl (fun ls hl => ?_)
    refine lv_aload_n hx hb d_La_law_814 rfl (lv_at hl 3 rfl) ?_
    refine lv_aload_n hx hb d_La_law_815 rfl (lv_at hl 1 rfl) ?_
    refine lv_iload hx hb d_La_law_816 (lv_at hl 5 rfl) ?_
    refine lv_iconst (v := 1) hx hb d_La_law_818 (by decide) ?_
    refine lv_iadd hx hb d_La_law_819 ?_
    refine va_sld hx hb hX hbl hbA hS h1 d_La_law_820 ?_
    refine lv_aload_n hx hb d_La_law_821 rfl (lv_at hl 1 rfl) ?_
    refine lv_iload hx hb d_La_law_822 (lv_at hl 5 rfl) ?_
    refine lv_iconst (v := 2) hx hb d_La_law_824 (by decide) ?_
    refine lv_iadd hx hb d_La_law_825 ?_
    refine va_sld hx hb hX hbl hbA hS h2 d_La_law_826 ?_
    refine lv_aload_n hx hb d_La_law_827 rfl (lv_at hl 1 rfl) ?_
    refine lv_iload hx hb d_La_law_828 (lv_at hl 5 rfl) ?_
    refine lv_iconst (v := 3) hx hb d_La_law_830 (by decide) ?_
    refine lv_iadd hx hb d_La_law_831 ?_
    refine va_sld hx hb hX hbl hbA hS h3 d_La_law_832 ?_
    refine lv_aload_n hx hb d_La_law_833 rfl (lv_at hl 1 rfl) ?_
    refine lv_iload hx hb d_La_law_834 (lv_at hl 5 rfl) ?_
    refine lv_iconst (v := 4) hx hb d_La_law_836 (by decide) ?_
    refine lv_iadd hx hb d_La_law_837 ?_
    refine va_sld hx hb hX hbl hbA hS h4 d_La_law_838 ?_
    replace hP := kp_P (kp_perm A u ρ (vp_updL f 0 v.toInt64)) hP
    replace hD := kp_D (kp_perm A u ρ (vp_updL f 0 v.toInt64)) hD
    refine ka_i (va_runV (As := [.int (xs (x4 + 1).toNatClampNeg), .int (xs (x4 + 2).toNatClampNeg), .int (xs (x4 + 3).toNatClampNeg), .int (xs (x4 + 4).toNatClampNeg)]) (rest := []) S9 (c_Mo_move l hl9 D A (GW A u [ka_oc A (vp_updL f 0 v.toInt64)]) _ ρ (xs (x4 + 1).toNatClampNeg) (xs (x4 + 2).toNatClampNeg) (xs (x4 + 3).toNatClampNeg) (xs (x4 + 4).toNatClampNeg) z e2) (cwV 4 hts (tg_V wl_La_135 wm_Mo_move we_Mo_move wi_Mo wo_Mo_move) rfl rfl rfl wq_Mo_move ⟨Nat.le_of_ble_eq_true rfl, Nat.le_of_ble_eq_true rfl⟩) (ka_preV X9 hP hD hS 0 rfl rfl) rfl rfl hl.1 rfl (lv_room (Nat.le_of_ble_eq_true rfl)) d_La_law_839 ⟨Nat.le_trans (Nat.le_succ _) hc, Nat.le_trans (Nat.le_add_right _ 6) hsl⟩) X9 hD hS rfl (fun H locs hP hD hS => ?_)
    refine lv_istore (lv' := (6, .int z.1) :: (5, .int 0) :: [(0, .ref b), (1, .ref (A 0)), (2, .ref (A 60)), (3, .ref (A 63)), (4, .int x4)]) hx hb d_La_law_842 hl (by decide) rfl (fun ls hl => ?_)
    replace hP := kp_P (kp_perm A u z.2 (vp_updL f 0 v.toInt64)).symm hP
    replace hD := kp_D (kp_perm A u z.2 (vp_updL f 0 v.toInt64)).symm hD
    refine lv_goto (tgt := 1460) hx hb d_La_law_844 (by decide) ?_
    refine W.widen (k := cells + 1) (n := slots + 6) (by omega) (by omega) ?_
    exact kk u z.2 (vp_updL f 0 v.toInt64) _ _ _ hI hP hD hS (lv_sub hl [2, 3, 4, 5, 6] rfl)
  refine lv_aload_n hx hb d_La_law_783 rfl (lv_at hl 1 rfl) ?_
  refine lv_aload_n hx hb d_La_law_784 rfl (lv_at hl 0 rfl) ?_
  refine lv_iload hx hb d_La_law_785 (lv_at hl 4 rfl) ?_
  refine lv_iconst (v := 1) hx hb d_La_law_787 (by decide) ?_
  refine lv_iadd hx hb d_La_law_788 ?_
  refine va_sld hx hb hX hbl hbA hS h1 d_La_law_789 ?_
  refine lv_aload_n hx hb d_La_law_790 rfl (lv_at hl 0 rfl) ?_
  refine lv_iload hx hb d_La_law_791 (lv_at hl 4 rfl) ?_
  refine lv_iconst (v := 2) hx hb d_La_law_793 (by decide) ?_
  refine lv_iadd hx hb d_La_law_794 ?_
  refine va_sld hx hb hX hbl hbA hS h2 d_La_law_795 ?_
  refine lv_aload_n hx hb d_La_law_796 rfl (lv_at hl 0 rfl) ?_
  refine lv_iload hx hb d_La_law_797 (lv_at hl 4 rfl) ?_
  refine lv_iconst (v := 3) hx hb d_La_law_799 (by decide) ?_
  refine lv_iadd hx hb d_La_law_800 ?_
  refine va_sld hx hb hX hbl hbA hS h3 d_La_law_801 ?_
  refine lv_aload_n hx hb d_La_law_802 rfl (lv_at hl 0 rfl) ?_
  refine lv_iload hx hb d_La_law_803 (lv_at hl 4 rfl) ?_
  refine lv_iconst (v := 4) hx hb d_La_law_805 (by decide) ?_
  refine lv_iadd hx hb d_La_law_806 ?_
  refine va_sld hx hb hX hbl hbA hS h4 d_La_law_807 ?_
  refine lv_aload_n hx hb d_La_law_808 rfl (lv_at hl 3 rfl) ?_
  refine ka_i (vx_runSW (As := [.ref (A 0), .int (xs (x4 + 1).toNatClampNeg), .int (xs (x4 + 2).toNatClampNeg), .int (xs (x4 + 3).toNatClampNeg), .int (xs (x4 + 4).toNatClampNeg), .ref (A 63)]) (rest := []) S9 (c_La_move_err l hl9 D A (MW A ρ []) f _ σ (xs (x4 + 1).toNatClampNeg) (xs (x4 + 2).toNatClampNeg) (xs (x4 + 3).toNatClampNeg) (xs (x4 + 4).toNatClampNeg) k hk u e1) (vx_cwSW 6 hts (tg_SW wl_La_133 ws_La_move wi_La wo_La_move) rfl rfl rfl wq_La_move.2 ⟨Nat.le_of_ble_eq_true rfl, Nat.le_of_ble_eq_true rfl⟩) (ka_preC X9 hC hP hD hS) rfl rfl hl.1 rfl (lv_room (Nat.le_of_ble_eq_true rfl)) d_La_law_809 ⟨hc, hsl⟩) X9 hD hS rfl (fun H locs hP hD hS => ?_)
  refine lv_istore (lv' := (5, .int (nI k)) :: [(0, .ref b), (1, .ref (A 0)), (2, .ref (A 60)), (3, .ref (A 63)), (4, .int x4)]) hx hb d_La_law_812 hl (by decide) rfl (fun ls hl => ?_)
  refine lv_aload_n hx hb d_La_law_814 rfl (lv_at hl 3 rfl) ?_
  refine lv_aload_n hx hb d_La_law_815 rfl (lv_at hl 1 rfl) ?_
  refine lv_iload hx hb d_La_law_816 (lv_at hl 5 rfl) ?_
  refine lv_iconst (v := 1) hx hb d_La_law_818 (by decide) ?_
  refine lv_iadd hx hb d_La_law_819 ?_
  refine va_sld hx hb hX hbl hbA hS h1 d_La_law_820 ?_
  refine lv_aload_n hx hb d_La_law_821 rfl (lv_at hl 1 rfl) ?_
  refine lv_iload hx hb d_La_law_822 (lv_at hl 5 rfl) ?_
  refine lv_iconst (v := 2) hx hb d_La_law_824 (by decide) ?_
  refine lv_iadd hx hb d_La_law_825 ?_
  refine va_sld hx hb hX hbl hbA hS h2 d_La_law_826 ?_
  refine lv_aload_n hx hb d_La_law_827 rfl (lv_at hl 1 rfl) ?_
  refine lv_iload hx hb d_La_law_828 (lv_at hl 5 rfl) ?_
  refine lv_iconst (v := 3) hx hb d_La_law_830 (by decide) ?_
  refine lv_iadd hx hb d_La_law_831 ?_
  refine va_sld hx hb hX hbl hbA hS h3 d_La_law_832 ?_
  refine lv_aload_n hx hb d_La_law_833 rfl (lv_at hl 1 rfl) ?_
  refine lv_iload hx hb d_La_law_834 (lv_at hl 5 rfl) ?_
  refine lv_iconst (v := 4) hx hb d_La_law_836 (by decide) ?_
  refine lv_iadd hx hb d_La_law_837 ?_
  refine va_sld hx hb hX hbl hbA hS h4 d_La_law_838 ?_
  replace hP := kp_P (kp_perm A u ρ f) hP
  replace hD := kp_D (kp_perm A u ρ f) hD
  refine ka_i (va_runV (As := [.int (xs (x4 + 1).toNatClampNeg), .int (xs (x4 + 2).toNatClampNeg), .int (xs (x4 + 3).toNatClampNeg), .int (xs (x4 + 4).toNatClampNeg)]) (rest := []) S9 (c_Mo_move l hl9 D A (GW A u [ka_oc A f]) _ ρ (xs (x4 + 1).toNatClampNeg) (xs (x4 + 2).toNatClampNeg) (xs (x4 + 3).toNatClampNeg) (xs (x4 + 4).toNatClampNeg) z e2) (cwV 4 hts (tg_V wl_La_135 wm_Mo_move we_Mo_move wi_Mo wo_Mo_move) rfl rfl rfl wq_Mo_move ⟨Nat.le_of_ble_eq_true rfl, Nat.le_of_ble_eq_true rfl⟩) (ka_preV X9 hP hD hS 0 rfl rfl) rfl rfl hl.1 rfl (lv_room (Nat.le_of_ble_eq_true rfl)) d_La_law_839 ⟨hc, hsl⟩) X9 hD hS rfl (fun H locs hP hD hS => ?_)
  refine lv_istore (lv' := (6, .int z.1) :: (5, .int (nI k)) :: [(0, .ref b), (1, .ref (A 0)), (2, .ref (A 60)), (3, .ref (A 63)), (4, .int x4)]) hx hb d_La_law_842 hl (by decide) rfl (fun ls hl => ?_)
  replace hP := kp_P (kp_perm A u z.2 f).symm hP
  replace hD := kp_D (kp_perm A u z.2 f).symm hD
  refine lv_goto (tgt := 1460) hx hb d_La_law_844 (by decide) ?_
  refine W.widen (k := cells + 1) (n := slots + 6) (by omega) (by omega) ?_
  exact kk u z.2 f _ _ _ hI hP hD hS (lv_sub hl [2, 3, 4, 5, 6] rfl)
set_option maxRecDepth 100000 in
set_option maxHeartbeats 4000000 in
theorem lc_11 {p : Program} {l : Launch} {e : Env} {s : State} {m : MethodId} {below : List Frame} {meth : Method} {c : Code} {b L : Nat} {xs : Nat → Int32} {D : va_G} {A : Nat → Nat} (I : KS → RS → Prop) (X : lx_ p l s m meth c b L xs D A) {cells slots : Nat} (hc : cells + 1 ≤ room_1.cells) (hsl : slots + 6 ≤ room_1.slots) (x4 : Int32) (h1 : vp_in (x4 + 1) L) (h2 : vp_in (x4 + 2) L) (h3 : vp_in (x4 + 3) L) (σ : KS) (ρ : RS) (f : Nat → Int64) (sim : ∀ x1 x2 x3 : Int32, (∃ (v : Int32) (u : KS) (z : Int32 × RS), f_Ke_drop σ x1 x2 x3 = some (.ok v, u) ∧ f_Mo_drop ρ x1 x2 x3 = some z ∧ I u z.2) ∨ (∃ (k : Nat) (u : KS) (z : Int32 × RS), (k = 1 ∨ k = 2 ∨ k = 3 ∨ k = 4) ∧ f_Ke_drop σ x1 x2 x3 = some (.error k, u) ∧ f_Mo_drop ρ x1 x2 x3 = some z ∧ I u z.2)) {H : Heap} {locs : List Loc} {ls : Array Slot} (hP : va_P D vwCl (kp_C A σ ρ f) H) (hD : va_D (fun q : Nat => s.heap.size ≤ q) (kp_C A σ ρ f)) (hS : va_S (fun q : Nat => s.heap.size ≤ q) s.heap H locs) (hl : lv_has ls 7 [(0, .ref b), (1, .ref (A 0)), (2, .ref (A 60)), (3, .ref (A 63)), (4, .int x4)])
    (kk : ∀ (u : KS) (ρ1 : RS) (f1 : Nat → Int64) (H : Heap) (locs : List Loc) (ls : Array Slot), I u ρ1 → va_P D vwCl (kp_C A u ρ1 f1) H → va_D (fun q : Nat => s.heap.size ≤ q) (kp_C A u ρ1 f1) → va_S (fun q : Nat => s.heap.size ≤ q) s.heap H locs → lv_has ls 7 [(0, .ref b), (1, .ref (A 0)), (2, .ref (A 60)), (3, .ref (A 63)), (4, .int x4)] → W p l e room_1 s m #[Value.ref b] below meth c H locs (cells + 1) (slots + 6) (lw_Z below #[Value.ref b] s) (F0 m 1460 ls [])) : W p l e room_1 s m #[Value.ref b] below meth c H locs cells slots (lw_Z below #[Value.ref b] s) (F0 m 847 ls []) := by
  obtain ⟨hl9, S9, hX, hbl, hlk, hr, hC, X9⟩ := X
  obtain ⟨hx, hb, hml, hown, hts⟩ := id S9
  have hK := X9.2.1
  have hbA : ¬ (fun q : Nat => s.heap.size ≤ q) b := Nat.not_le.mpr hbl
  rcases sim (xs (x4 + 1).toNatClampNeg) (xs (x4 + 2).toNatClampNeg) (xs (x4 + 3).toNatClampNeg) with ⟨v, u, z, e1, e2, hI⟩ | ⟨k, u, z, hk, e1, e2, hI⟩
  · refine lv_aload_n hx hb d_La_law_847 rfl (lv_at hl 1 rfl) ?_
    refine lv_aload_n hx hb d_La_law_848 rfl (lv_at hl 0 rfl) ?_
    refine lv_iload hx hb d_La_law_849 (lv_at hl 4 rfl) ?_
    refine lv_iconst (v := 1) hx hb d_La_law_851 (by decide) ?_
    refine lv_iadd hx hb d_La_law_852 ?_
    refine va_sld hx hb hX hbl hbA hS h1 d_La_law_853 ?_
    refine lv_aload_n hx hb d_La_law_854 rfl (lv_at hl 0 rfl) ?_
    refine lv_iload hx hb d_La_law_855 (lv_at hl 4 rfl) ?_
    refine lv_iconst (v := 2) hx hb d_La_law_857 (by decide) ?_
    refine lv_iadd hx hb d_La_law_858 ?_
    refine va_sld hx hb hX hbl hbA hS h2 d_La_law_859 ?_
    refine lv_aload_n hx hb d_La_law_860 rfl (lv_at hl 0 rfl) ?_
    refine lv_iload hx hb d_La_law_861 (lv_at hl 4 rfl) ?_
    refine lv_iconst (v := 3) hx hb d_La_law_863 (by decide) ?_
    refine lv_iadd hx hb d_La_law_864 ?_
    refine va_sld hx hb hX hbl hbA hS h3 d_La_law_865 ?_
    refine lv_aload_n hx hb d_La_law_866 rfl (lv_at hl 3 rfl) ?_
    refine ka_i (vx_runSW (As := [.ref (A 0), .int (xs (x4 + 1).toNatClampNeg), .int (xs (x4 + 2).toNatClampNeg), .int (xs (x4 + 3).toNatClampNeg), .ref (A 63)]) (rest := []) S9 (c_La_drop_ok l hl9 D A (MW A ρ []) f _ σ (xs (x4 + 1).toNatClampNeg) (xs (x4 + 2).toNatClampNeg) (xs (x4 + 3).toNatClampNeg) v u e1) (vx_cwSW 5 hts (tg_SW wl_La_136 ws_La_drop wi_La wo_La_drop) rfl rfl rfl wq_La_drop.2 ⟨Nat.le_of_ble_eq_true rfl, Nat.le_of_ble_eq_true rfl⟩) (ka_preC X9 hC hP hD hS) rfl rfl hl.1 rfl (lv_room (Nat.le_of_ble_eq_true rfl)) d_La_law_867 ⟨Nat.le_trans (Nat.le_succ _) hc, Nat.le_trans (Nat.le_add_right _ 6) hsl⟩) X9 hD hS rfl (fun H locs hP hD hS => ?_)
    refine lv_istore (lv' := (5, .int 0) :: [(0, .ref b), (1, .ref (A 0)), (2, .ref (A 60)), (3, .ref (A 63)), (4, .int x4)]) hx hb d_La_law_870 hl (by decide) rfl (fun ls hl => ?_)
    refine lv_aload_n hx hb d_La_law_872 rfl (lv_at hl 3 rfl) ?_
    refine lv_aload_n hx hb d_La_law_873 rfl (lv_at hl 1 rfl) ?_
    refine lv_iload hx hb d_La_law_874 (lv_at hl 5 rfl) ?_
    refine lv_iconst (v := 1) hx hb d_La_law_876 (by decide) ?_
    refine lv_iadd hx hb d_La_law_877 ?_
    refine va_sld hx hb hX hbl hbA hS h1 d_La_law_878 ?_
    refine lv_aload_n hx hb d_La_law_879 rfl (lv_at hl 1 rfl) ?_
    refine lv_iload hx hb d_La_law_880 (lv_at hl 5 rfl) ?_
    refine lv_iconst (v := 2) hx hb d_La_law_882 (by decide) ?_
    refine lv_iadd hx hb d_La_law_883 ?_
    refine va_sld hx hb hX hbl hbA hS h2 d_La_law_884 ?_
    refine lv_aload_n hx hb d_La_law_885 rfl (lv_at hl 1 rfl) ?_
    refine lv_iload hx hb d_La_law_886 (lv_at hl 5 rfl) ?_
    refine lv_iconst (v := 3) hx hb d_La_law_888 (by decide) ?_
    refine lv_iadd hx hb d_La_law_889 ?_
    refine va_sld hx hb hX hbl hbA hS h3 d_La_law_890 ?_
    replace hP := kp_P (kp_perm A u ρ (vp_updL f 0 v.toInt64)) hP
    replace hD := kp_D (kp_perm A u ρ (vp_updL f 0 v.toInt64)) hD
    refine ka_i (va_runV (As := [.int (xs (x4 + 1).toNatClampNeg), .int (xs (x4 + 2).toNatClampNeg), .int (xs (x4 + 3).toNatClampNeg)]) (rest := []) S9 (c_Mo_drop l hl9 D A (GW A u [ka_oc A (vp_updL f 0 v.toInt64)]) _ ρ (xs (x4 + 1).toNatClampNeg) (xs (x4 + 2).toNatClampNeg) (xs (x4 + 3).toNatClampNeg) z e2) (cwV 3 hts (tg_V wl_La_138 wm_Mo_drop we_Mo_drop wi_Mo wo_Mo_drop) rfl rfl rfl wq_Mo_drop ⟨Nat.le_of_ble_eq_true rfl, Nat.le_of_ble_eq_true rfl⟩) (ka_preV X9 hP hD hS 0 rfl rfl) rfl rfl hl.1 rfl (lv_room (Nat.le_of_ble_eq_true rfl)) d_La_law_891 ⟨Nat.le_trans (Nat.le_succ _) hc, Nat.le_trans (Nat.le_add_right _ 6) hsl⟩) X9 hD hS rfl (fun H locs hP hD hS => ?_)
    refine lv_istore (lv' := (6, .int z.1) :: (5, .int 0) :: [(0, .ref b), (1, .ref (A 0)), (2, .ref (A 60)), (3, .ref (A 63)), (4, .int x4)]) hx hb d_La_law_894 hl (by decide) rfl (fun ls hl => ?_)
    replace hP := kp_P (kp_perm A u z.2 (vp_updL f 0 v.toInt64)).symm hP
    replace hD := kp_D (kp_perm A u z.2 (vp_updL f 0 v.toInt64)).symm hD
    refine lv_goto (tgt := 1460) hx hb d_La_law_896 (by decide) ?_
    refine W.widen (k := cells + 1) (n := slots + 6) (by omega) (by omega) ?_
    exact kk u z.2 (vp_updL f 0 v.toInt64) _ _ _ hI hP hD hS (lv_sub hl [2, 3, 4, 5, 6] rfl)
  refine lv_aload_n hx hb d_La_law_847 rfl (lv_at hl 1 rfl) ?_
  refine lv_aload_n hx hb d_La_law_848 rfl (lv_at hl 0 rfl) ?_
  refine lv_iload hx hb d_La_law_849 (lv_at hl 4 rfl) ?_
  refine lv_iconst (v := 1) hx hb d_La_law_851 (by decide) ?_
  refine lv_iadd hx hb d_La_law_852 ?_
  refine va_sld hx hb hX hbl hbA hS h1 d_La_law_853 ?_
  refine lv_aload_n hx hb d_La_law_854 rfl (lv_at hl 0 rfl) ?_
  refine lv_iload hx hb d_La_law_855 (lv_at hl 4 rfl) ?_
  refine lv_iconst (v := 2) hx hb d_La_law_857 (by decide) ?_
  refine lv_iadd hx hb d_La_law_858 ?_
  refine va_sld hx hb hX hbl hbA hS h2 d_La_law_859 ?_
  refine lv_aload_n hx hb d_La_law_860 rfl (lv_at hl 0 rfl) ?_
  refine lv_iload hx hb d_La_law_861 (lv_at hl 4 rfl) ?_
  refine lv_iconst (v := 3) hx hb d_La_law_863 (by decide) ?_
  refine lv_iadd hx hb d_La_law_864 ?_
  refine va_sld hx hb hX hbl hbA hS h3 d_La_law_865 ?_
  refine lv_aload_n hx hb d_La_law_866 rfl (lv_at hl 3 rfl) ?_
  refine ka_i (vx_runSW (As := [.ref (A 0), .int (xs (x4 + 1).toNatClampNeg), .int (xs (x4 + 2).toNatClampNeg), .int (xs (x4 + 3).toNatClampNeg), .ref (A 63)]) (rest := []) S9 (c_La_drop_err l hl9 D A (MW A ρ []) f _ σ (xs (x4 + 1).toNatClampNeg) (xs (x4 + 2).toNatClampNeg) (xs (x4 + 3).toNatClampNeg) k hk u e1) (vx_cwSW 5 hts (tg_SW wl_La_136 ws_La_drop wi_La wo_La_drop) rfl rfl rfl wq_La_drop.2 ⟨Nat.le_of_ble_eq_true rfl, Nat.le_of_ble_eq_true rfl⟩) (ka_preC X9 hC hP hD hS) rfl rfl hl.1 rfl (lv_room (Nat.le_of_ble_eq_true rfl)) d_La_law_867 ⟨hc, hsl⟩) X9 hD hS rfl (fun H locs hP hD hS => ?_)
  refine lv_istore (lv' := (5, .int (nI k)) :: [(0, .ref b), (1, .ref (A 0)), (2, .ref (A 60)), (3, .ref (A 63)), (4, .int x4)]) hx hb d_La_law_870 hl (by decide) rfl (fun ls hl => ?_)
  refine lv_aload_n hx hb d_La_law_872 rfl (lv_at hl 3 rfl) ?_
  refine lv_aload_n hx hb d_La_law_873 rfl (lv_at hl 1 rfl) ?_
  refine lv_iload hx hb d_La_law_874 (lv_at hl 5 rfl) ?_
  refine lv_iconst (v := 1) hx hb d_La_law_876 (by decide) ?_
  refine lv_iadd hx hb d_La_law_877 ?_
  refine va_sld hx hb hX hbl hbA hS h1 d_La_law_878 ?_
  refine lv_aload_n hx hb d_La_law_879 rfl (lv_at hl 1 rfl) ?_
  refine lv_iload hx hb d_La_law_880 (lv_at hl 5 rfl) ?_
  refine lv_iconst (v := 2) hx hb d_La_law_882 (by decide) ?_
  refine lv_iadd hx hb d_La_law_883 ?_
  refine va_sld hx hb hX hbl hbA hS h2 d_La_law_884 ?_
  refine lv_aload_n hx hb d_La_law_885 rfl (lv_at hl 1 rfl) ?_
  refine lv_iload hx hb d_La_law_886 (lv_at hl 5 rfl) ?_
  refine lv_iconst (v := 3) hx hb d_La_law_888 (by decide) ?_
  refine lv_iadd hx hb d_La_law_889 ?_
  refine va_sld hx hb hX hbl hbA hS h3 d_La_law_890 ?_
  replace hP := kp_P (kp_perm A u ρ f) hP
  replace hD := kp_D (kp_perm A u ρ f) hD
  refine ka_i (va_runV (As := [.int (xs (x4 + 1).toNatClampNeg), .int (xs (x4 + 2).toNatClampNeg), .int (xs (x4 + 3).toNatClampNeg)]) (rest := []) S9 (c_Mo_drop l hl9 D A (GW A u [ka_oc A f]) _ ρ (xs (x4 + 1).toNatClampNeg) (xs (x4 + 2).toNatClampNeg) (xs (x4 + 3).toNatClampNeg) z e2) (cwV 3 hts (tg_V wl_La_138 wm_Mo_drop we_Mo_drop wi_Mo wo_Mo_drop) rfl rfl rfl wq_Mo_drop ⟨Nat.le_of_ble_eq_true rfl, Nat.le_of_ble_eq_true rfl⟩) (ka_preV X9 hP hD hS 0 rfl rfl) rfl rfl hl.1 rfl (lv_room (Nat.le_of_ble_eq_true rfl)) d_La_law_891 ⟨hc, hsl⟩) X9 hD hS rfl (fun H locs hP hD hS => ?_)
  refine lv_istore (lv' := (6, .int z.1) :: (5, .int (nI k)) :: [(0, .ref b), (1, .ref (A 0)), (2, .ref (A 60)), (3, .ref (A 63)), (4, .int x4)]) hx hb d_La_law_894 hl (by decide) rfl (fun ls hl => ?_)
  replace hP := kp_P (kp_perm A u z.2 f).symm hP
  replace hD := kp_D (kp_perm A u z.2 f).symm hD
  refine lv_goto (tgt := 1460) hx hb d_La_law_896 (by decide) ?_
  refine W.widen (k := cells + 1) (n := slots + 6) (by omega) (by omega) ?_
  exact kk u z.2 f _ _ _ hI hP hD hS (lv_sub hl [2, 3, 4, 5, 6] rfl)
set_option maxRecDepth 100000 in
set_option maxHeartbeats 4000000 in
theorem lc_12 {p : Program} {l : Launch} {e : Env} {s : State} {m : MethodId} {below : List Frame} {meth : Method} {c : Code} {b L : Nat} {xs : Nat → Int32} {D : va_G} {A : Nat → Nat} (I : KS → RS → Prop) (X : lx_ p l s m meth c b L xs D A) {cells slots : Nat} (hc : cells + 1 ≤ room_1.cells) (hsl : slots + 6 ≤ room_1.slots) (x4 : Int32) (h1 : vp_in (x4 + 1) L) (h2 : vp_in (x4 + 2) L) (σ : KS) (ρ : RS) (f : Nat → Int64) (sim : ∀ x1 x2 : Int32, (∃ (v : Int32) (u : KS) (z : Int32 × RS), f_Ke_become σ x1 x2 = some (.ok v, u) ∧ f_Mo_become ρ x1 x2 = some z ∧ I u z.2) ∨ (∃ (k : Nat) (u : KS) (z : Int32 × RS), (k = 1 ∨ k = 2 ∨ k = 3 ∨ k = 4) ∧ f_Ke_become σ x1 x2 = some (.error k, u) ∧ f_Mo_become ρ x1 x2 = some z ∧ I u z.2)) {H : Heap} {locs : List Loc} {ls : Array Slot} (hP : va_P D vwCl (kp_C A σ ρ f) H) (hD : va_D (fun q : Nat => s.heap.size ≤ q) (kp_C A σ ρ f)) (hS : va_S (fun q : Nat => s.heap.size ≤ q) s.heap H locs) (hl : lv_has ls 7 [(0, .ref b), (1, .ref (A 0)), (2, .ref (A 60)), (3, .ref (A 63)), (4, .int x4)])
    (kk : ∀ (u : KS) (ρ1 : RS) (f1 : Nat → Int64) (H : Heap) (locs : List Loc) (ls : Array Slot), I u ρ1 → va_P D vwCl (kp_C A u ρ1 f1) H → va_D (fun q : Nat => s.heap.size ≤ q) (kp_C A u ρ1 f1) → va_S (fun q : Nat => s.heap.size ≤ q) s.heap H locs → lv_has ls 7 [(0, .ref b), (1, .ref (A 0)), (2, .ref (A 60)), (3, .ref (A 63)), (4, .int x4)] → W p l e room_1 s m #[Value.ref b] below meth c H locs (cells + 1) (slots + 6) (lw_Z below #[Value.ref b] s) (F0 m 1460 ls [])) : W p l e room_1 s m #[Value.ref b] below meth c H locs cells slots (lw_Z below #[Value.ref b] s) (F0 m 899 ls []) := by
  obtain ⟨hl9, S9, hX, hbl, hlk, hr, hC, X9⟩ := X
  obtain ⟨hx, hb, hml, hown, hts⟩ := id S9
  have hK := X9.2.1
  have hbA : ¬ (fun q : Nat => s.heap.size ≤ q) b := Nat.not_le.mpr hbl
  rcases sim (xs (x4 + 1).toNatClampNeg) (xs (x4 + 2).toNatClampNeg) with ⟨v, u, z, e1, e2, hI⟩ | ⟨k, u, z, hk, e1, e2, hI⟩
  · refine lv_aload_n hx hb d_La_law_899 rfl (lv_at hl 1 rfl) ?_
    refine lv_aload_n hx hb d_La_law_900 rfl (lv_at hl 0 rfl) ?_
    refine lv_iload hx hb d_La_law_901 (lv_at hl 4 rfl) ?_
    refine lv_iconst (v := 1) hx hb d_La_law_903 (by decide) ?_
    refine lv_iadd hx hb d_La_law_904 ?_
    refine va_sld hx hb hX hbl hbA hS h1 d_La_law_905 ?_
    refine lv_aload_n hx hb d_La_law_906 rfl (lv_at hl 0 rfl) ?_
    refine lv_iload hx hb d_La_law_907 (lv_at hl 4 rfl) ?_
    refine lv_iconst (v := 2) hx hb d_La_law_909 (by decide) ?_
    refine lv_iadd hx hb d_La_law_910 ?_
    refine va_sld hx hb hX hbl hbA hS h2 d_La_law_911 ?_
    refine lv_aload_n hx hb d_La_law_912 rfl (lv_at hl 3 rfl) ?_
    refine ka_i (vx_runSW (As := [.ref (A 0), .int (xs (x4 + 1).toNatClampNeg), .int (xs (x4 + 2).toNatClampNeg), .ref (A 63)]) (rest := []) S9 (c_La_become_ok l hl9 D A (MW A ρ []) f _ σ (xs (x4 + 1).toNatClampNeg) (xs (x4 + 2).toNatClampNeg) v u e1) (vx_cwSW 4 hts (tg_SW wl_La_139 ws_La_become wi_La wo_La_become) rfl rfl rfl wq_La_become.2 ⟨Nat.le_of_ble_eq_true rfl, Nat.le_of_ble_eq_true rfl⟩) (ka_preC X9 hC hP hD hS) rfl rfl hl.1 rfl (lv_room (Nat.le_of_ble_eq_true rfl)) d_La_law_913 ⟨Nat.le_trans (Nat.le_succ _) hc, Nat.le_trans (Nat.le_add_right _ 6) hsl⟩) X9 hD hS rfl (fun H locs hP hD hS => ?_)
    refine lv_istore (lv' := (5, .int 0) :: [(0, .ref b), (1, .ref (A 0)), (2, .ref (A 60)), (3, .ref (A 63)), (4, .int x4)]) hx hb d_La_law_916 hl (by decide) rfl (fun ls hl => ?_)
    refine lv_aload_n hx hb d_La_law_918 rfl (lv_at hl 3 rfl) ?_
    refine lv_aload_n hx hb d_La_law_919 rfl (lv_at hl 1 rfl) ?_
    refine lv_iload hx hb d_La_law_920 (lv_at hl 5 rfl) ?_
    refine lv_iconst (v := 1) hx hb d_La_law_922 (by decide) ?_
    refine lv_iadd hx hb d_La_law_923 ?_
    refine va_sld hx hb hX hbl hbA hS h1 d_La_law_924 ?_
    refine lv_aload_n hx hb d_La_law_925 rfl (lv_at hl 1 rfl) ?_
    refine lv_iload hx hb d_La_law_926 (lv_at hl 5 rfl) ?_
    refine lv_iconst (v := 2) hx hb d_La_law_928 (by decide) ?_
    refine lv_iadd hx hb d_La_law_929 ?_
    refine va_sld hx hb hX hbl hbA hS h2 d_La_law_930 ?_
    replace hP := kp_P (kp_perm A u ρ (vp_updL f 0 v.toInt64)) hP
    replace hD := kp_D (kp_perm A u ρ (vp_updL f 0 v.toInt64)) hD
    refine ka_i (va_runV (As := [.int (xs (x4 + 1).toNatClampNeg), .int (xs (x4 + 2).toNatClampNeg)]) (rest := []) S9 (c_Mo_become l hl9 D A (GW A u [ka_oc A (vp_updL f 0 v.toInt64)]) _ ρ (xs (x4 + 1).toNatClampNeg) (xs (x4 + 2).toNatClampNeg) z e2) (cwV 2 hts (tg_V wl_La_141 wm_Mo_become we_Mo_become wi_Mo wo_Mo_become) rfl rfl rfl wq_Mo_become ⟨Nat.le_of_ble_eq_true rfl, Nat.le_of_ble_eq_true rfl⟩) (ka_preV X9 hP hD hS 0 rfl rfl) rfl rfl hl.1 rfl (lv_room (Nat.le_of_ble_eq_true rfl)) d_La_law_931 ⟨Nat.le_trans (Nat.le_succ _) hc, Nat.le_trans (Nat.le_add_right _ 6) hsl⟩) X9 hD hS rfl (fun H locs hP hD hS => ?_)
    refine lv_istore (lv' := (6, .int z.1) :: (5, .int 0) :: [(0, .ref b), (1, .ref (A 0)), (2, .ref (A 60)), (3, .ref (A 63)), (4, .int x4)]) hx hb d_La_law_934 hl (by decide) rfl (fun ls hl => ?_)
    replace hP := kp_P (kp_perm A u z.2 (vp_updL f 0 v.toInt64)).symm hP
    replace hD := kp_D (kp_perm A u z.2 (vp_updL f 0 v.toInt64)).symm hD
    refine lv_goto (tgt := 1460) hx hb d_La_law_936 (by decide) ?_
    refine W.widen (k := cells + 1) (n := slots + 6) (by omega) (by omega) ?_
    exact kk u z.2 (vp_updL f 0 v.toInt64) _ _ _ hI hP hD hS (lv_sub hl [2, 3, 4, 5, 6] rfl)
  refine lv_aload_n hx hb d_La_law_899 rfl (lv_at hl 1 rfl) ?_
  refine lv_aload_n hx hb d_La_law_900 rfl (lv_at hl 0 rfl) ?_
  refine lv_iload hx hb d_La_law_901 (lv_at hl 4 rfl) ?_
  refine lv_iconst (v := 1) hx hb d_La_law_903 (by decide) ?_
  refine lv_iadd hx hb d_La_law_904 ?_
  refine va_sld hx hb hX hbl hbA hS h1 d_La_law_905 ?_
  refine lv_aload_n hx hb d_La_law_906 rfl (lv_at hl 0 rfl) ?_
  refine lv_iload hx hb d_La_law_907 (lv_at hl 4 rfl) ?_
  refine lv_iconst (v := 2) hx hb d_La_law_909 (by decide) ?_
  refine lv_iadd hx hb d_La_law_910 ?_
  refine va_sld hx hb hX hbl hbA hS h2 d_La_law_911 ?_
  refine lv_aload_n hx hb d_La_law_912 rfl (lv_at hl 3 rfl) ?_
  refine ka_i (vx_runSW (As := [.ref (A 0), .int (xs (x4 + 1).toNatClampNeg), .int (xs (x4 + 2).toNatClampNeg), .ref (A 63)]) (rest := []) S9 (c_La_become_err l hl9 D A (MW A ρ []) f _ σ (xs (x4 + 1).toNatClampNeg) (xs (x4 + 2).toNatClampNeg) k hk u e1) (vx_cwSW 4 hts (tg_SW wl_La_139 ws_La_become wi_La wo_La_become) rfl rfl rfl wq_La_become.2 ⟨Nat.le_of_ble_eq_true rfl, Nat.le_of_ble_eq_true rfl⟩) (ka_preC X9 hC hP hD hS) rfl rfl hl.1 rfl (lv_room (Nat.le_of_ble_eq_true rfl)) d_La_law_913 ⟨hc, hsl⟩) X9 hD hS rfl (fun H locs hP hD hS => ?_)
  refine lv_istore (lv' := (5, .int (nI k)) :: [(0, .ref b), (1, .ref (A 0)), (2, .ref (A 60)), (3, .ref (A 63)), (4, .int x4)]) hx hb d_La_law_916 hl (by decide) rfl (fun ls hl => ?_)
  refine lv_aload_n hx hb d_La_law_918 rfl (lv_at hl 3 rfl) ?_
  refine lv_aload_n hx hb d_La_law_919 rfl (lv_at hl 1 rfl) ?_
  refine lv_iload hx hb d_La_law_920 (lv_at hl 5 rfl) ?_
  refine lv_iconst (v := 1) hx hb d_La_law_922 (by decide) ?_
  refine lv_iadd hx hb d_La_law_923 ?_
  refine va_sld hx hb hX hbl hbA hS h1 d_La_law_924 ?_
  refine lv_aload_n hx hb d_La_law_925 rfl (lv_at hl 1 rfl) ?_
  refine lv_iload hx hb d_La_law_926 (lv_at hl 5 rfl) ?_
  refine lv_iconst (v := 2) hx hb d_La_law_928 (by decide) ?_
  refine lv_iadd hx hb d_La_law_929 ?_
  refine va_sld hx hb hX hbl hbA hS h2 d_La_law_930 ?_
  replace hP := kp_P (kp_perm A u ρ f) hP
  replace hD := kp_D (kp_perm A u ρ f) hD
  refine ka_i (va_runV (As := [.int (xs (x4 + 1).toNatClampNeg), .int (xs (x4 + 2).toNatClampNeg)]) (rest := []) S9 (c_Mo_become l hl9 D A (GW A u [ka_oc A f]) _ ρ (xs (x4 + 1).toNatClampNeg) (xs (x4 + 2).toNatClampNeg) z e2) (cwV 2 hts (tg_V wl_La_141 wm_Mo_become we_Mo_become wi_Mo wo_Mo_become) rfl rfl rfl wq_Mo_become ⟨Nat.le_of_ble_eq_true rfl, Nat.le_of_ble_eq_true rfl⟩) (ka_preV X9 hP hD hS 0 rfl rfl) rfl rfl hl.1 rfl (lv_room (Nat.le_of_ble_eq_true rfl)) d_La_law_931 ⟨hc, hsl⟩) X9 hD hS rfl (fun H locs hP hD hS => ?_)
  refine lv_istore (lv' := (6, .int z.1) :: (5, .int (nI k)) :: [(0, .ref b), (1, .ref (A 0)), (2, .ref (A 60)), (3, .ref (A 63)), (4, .int x4)]) hx hb d_La_law_934 hl (by decide) rfl (fun ls hl => ?_)
  replace hP := kp_P (kp_perm A u z.2 f).symm hP
  replace hD := kp_D (kp_perm A u z.2 f).symm hD
  refine lv_goto (tgt := 1460) hx hb d_La_law_936 (by decide) ?_
  refine W.widen (k := cells + 1) (n := slots + 6) (by omega) (by omega) ?_
  exact kk u z.2 f _ _ _ hI hP hD hS (lv_sub hl [2, 3, 4, 5, 6] rfl)
set_option maxRecDepth 100000 in
set_option maxHeartbeats 4000000 in
theorem lc_13 {p : Program} {l : Launch} {e : Env} {s : State} {m : MethodId} {below : List Frame} {meth : Method} {c : Code} {b L : Nat} {xs : Nat → Int32} {D : va_G} {A : Nat → Nat} (I : KS → RS → Prop) (X : lx_ p l s m meth c b L xs D A) {cells slots : Nat} (hc : cells + 1 ≤ room_1.cells) (hsl : slots + 6 ≤ room_1.slots) (x4 : Int32) (h1 : vp_in (x4 + 1) L) (h2 : vp_in (x4 + 2) L) (σ : KS) (ρ : RS) (f : Nat → Int64) (sim : ∀ x1 x2 : Int32, (∃ (v : Int32) (u : KS) (z : Int32 × RS), f_Ke_lower σ x1 x2 = some (.ok v, u) ∧ f_Mo_lower ρ x1 x2 = some z ∧ I u z.2) ∨ (∃ (k : Nat) (u : KS) (z : Int32 × RS), (k = 1 ∨ k = 2 ∨ k = 3 ∨ k = 4) ∧ f_Ke_lower σ x1 x2 = some (.error k, u) ∧ f_Mo_lower ρ x1 x2 = some z ∧ I u z.2)) {H : Heap} {locs : List Loc} {ls : Array Slot} (hP : va_P D vwCl (kp_C A σ ρ f) H) (hD : va_D (fun q : Nat => s.heap.size ≤ q) (kp_C A σ ρ f)) (hS : va_S (fun q : Nat => s.heap.size ≤ q) s.heap H locs) (hl : lv_has ls 7 [(0, .ref b), (1, .ref (A 0)), (2, .ref (A 60)), (3, .ref (A 63)), (4, .int x4)])
    (kk : ∀ (u : KS) (ρ1 : RS) (f1 : Nat → Int64) (H : Heap) (locs : List Loc) (ls : Array Slot), I u ρ1 → va_P D vwCl (kp_C A u ρ1 f1) H → va_D (fun q : Nat => s.heap.size ≤ q) (kp_C A u ρ1 f1) → va_S (fun q : Nat => s.heap.size ≤ q) s.heap H locs → lv_has ls 7 [(0, .ref b), (1, .ref (A 0)), (2, .ref (A 60)), (3, .ref (A 63)), (4, .int x4)] → W p l e room_1 s m #[Value.ref b] below meth c H locs (cells + 1) (slots + 6) (lw_Z below #[Value.ref b] s) (F0 m 1460 ls [])) : W p l e room_1 s m #[Value.ref b] below meth c H locs cells slots (lw_Z below #[Value.ref b] s) (F0 m 939 ls []) := by
  obtain ⟨hl9, S9, hX, hbl, hlk, hr, hC, X9⟩ := X
  obtain ⟨hx, hb, hml, hown, hts⟩ := id S9
  have hK := X9.2.1
  have hbA : ¬ (fun q : Nat => s.heap.size ≤ q) b := Nat.not_le.mpr hbl
  rcases sim (xs (x4 + 1).toNatClampNeg) (xs (x4 + 2).toNatClampNeg) with ⟨v, u, z, e1, e2, hI⟩ | ⟨k, u, z, hk, e1, e2, hI⟩
  · refine lv_aload_n hx hb d_La_law_939 rfl (lv_at hl 1 rfl) ?_
    refine lv_aload_n hx hb d_La_law_940 rfl (lv_at hl 0 rfl) ?_
    refine lv_iload hx hb d_La_law_941 (lv_at hl 4 rfl) ?_
    refine lv_iconst (v := 1) hx hb d_La_law_943 (by decide) ?_
    refine lv_iadd hx hb d_La_law_944 ?_
    refine va_sld hx hb hX hbl hbA hS h1 d_La_law_945 ?_
    refine lv_aload_n hx hb d_La_law_946 rfl (lv_at hl 0 rfl) ?_
    refine lv_iload hx hb d_La_law_947 (lv_at hl 4 rfl) ?_
    refine lv_iconst (v := 2) hx hb d_La_law_949 (by decide) ?_
    refine lv_iadd hx hb d_La_law_950 ?_
    refine va_sld hx hb hX hbl hbA hS h2 d_La_law_951 ?_
    refine lv_aload_n hx hb d_La_law_952 rfl (lv_at hl 3 rfl) ?_
    refine ka_i (vx_runSW (As := [.ref (A 0), .int (xs (x4 + 1).toNatClampNeg), .int (xs (x4 + 2).toNatClampNeg), .ref (A 63)]) (rest := []) S9 (c_La_lower_ok l hl9 D A (MW A ρ []) f _ σ (xs (x4 + 1).toNatClampNeg) (xs (x4 + 2).toNatClampNeg) v u e1) (vx_cwSW 4 hts (tg_SW wl_La_142 ws_La_lower wi_La wo_La_lower) rfl rfl rfl wq_La_lower.2 ⟨Nat.le_of_ble_eq_true rfl, Nat.le_of_ble_eq_true rfl⟩) (ka_preC X9 hC hP hD hS) rfl rfl hl.1 rfl (lv_room (Nat.le_of_ble_eq_true rfl)) d_La_law_953 ⟨Nat.le_trans (Nat.le_succ _) hc, Nat.le_trans (Nat.le_add_right _ 6) hsl⟩) X9 hD hS rfl (fun H locs hP hD hS => ?_)
    refine lv_istore (lv' := (5, .int 0) :: [(0, .ref b), (1, .ref (A 0)), (2, .ref (A 60)), (3, .ref (A 63)), (4, .int x4)]) hx hb d_La_law_956 hl (by decide) rfl (fun ls hl => ?_)
    refine lv_aload_n hx hb d_La_law_958 rfl (lv_at hl 3 rfl) ?_
    refine lv_aload_n hx hb d_La_law_959 rfl (lv_at hl 1 rfl) ?_
    refine lv_iload hx hb d_La_law_960 (lv_at hl 5 rfl) ?_
    refine lv_iconst (v := 1) hx hb d_La_law_962 (by decide) ?_
    refine lv_iadd hx hb d_La_law_963 ?_
    refine va_sld hx hb hX hbl hbA hS h1 d_La_law_964 ?_
    refine lv_aload_n hx hb d_La_law_965 rfl (lv_at hl 1 rfl) ?_
    refine lv_iload hx hb d_La_law_966 (lv_at hl 5 rfl) ?_
    refine lv_iconst (v := 2) hx hb d_La_law_968 (by decide) ?_
    refine lv_iadd hx hb d_La_law_969 ?_
    refine va_sld hx hb hX hbl hbA hS h2 d_La_law_970 ?_
    replace hP := kp_P (kp_perm A u ρ (vp_updL f 0 v.toInt64)) hP
    replace hD := kp_D (kp_perm A u ρ (vp_updL f 0 v.toInt64)) hD
    refine ka_i (va_runV (As := [.int (xs (x4 + 1).toNatClampNeg), .int (xs (x4 + 2).toNatClampNeg)]) (rest := []) S9 (c_Mo_lower l hl9 D A (GW A u [ka_oc A (vp_updL f 0 v.toInt64)]) _ ρ (xs (x4 + 1).toNatClampNeg) (xs (x4 + 2).toNatClampNeg) z e2) (cwV 2 hts (tg_V wl_La_144 wm_Mo_lower we_Mo_lower wi_Mo wo_Mo_lower) rfl rfl rfl wq_Mo_lower ⟨Nat.le_of_ble_eq_true rfl, Nat.le_of_ble_eq_true rfl⟩) (ka_preV X9 hP hD hS 0 rfl rfl) rfl rfl hl.1 rfl (lv_room (Nat.le_of_ble_eq_true rfl)) d_La_law_971 ⟨Nat.le_trans (Nat.le_succ _) hc, Nat.le_trans (Nat.le_add_right _ 6) hsl⟩) X9 hD hS rfl (fun H locs hP hD hS => ?_)
    refine lv_istore (lv' := (6, .int z.1) :: (5, .int 0) :: [(0, .ref b), (1, .ref (A 0)), (2, .ref (A 60)), (3, .ref (A 63)), (4, .int x4)]) hx hb d_La_law_974 hl (by decide) rfl (fun ls hl => ?_)
    replace hP := kp_P (kp_perm A u z.2 (vp_updL f 0 v.toInt64)).symm hP
    replace hD := kp_D (kp_perm A u z.2 (vp_updL f 0 v.toInt64)).symm hD
    refine lv_goto (tgt := 1460) hx hb d_La_law_976 (by decide) ?_
    refine W.widen (k := cells + 1) (n := slots + 6) (by omega) (by omega) ?_
    exact kk u z.2 (vp_updL f 0 v.toInt64) _ _ _ hI hP hD hS (lv_sub hl [2, 3, 4, 5, 6] rfl)
  refine lv_aload_n hx hb d_La_law_939 rfl (lv_at hl 1 rfl) ?_
  refine lv_aload_n hx hb d_La_law_940 rfl (lv_at hl 0 rfl) ?_
  refine lv_iload hx hb d_La_law_941 (lv_at hl 4 rfl) ?_
  refine lv_iconst (v := 1) hx hb d_La_law_943 (by decide) ?_
  refine lv_iadd hx hb d_La_law_944 ?_
  refine va_sld hx hb hX hbl hbA hS h1 d_La_law_945 ?_
  refine lv_aload_n hx hb d_La_law_946 rfl (lv_at hl 0 rfl) ?_
  refine lv_iload hx hb d_La_law_947 (lv_at hl 4 rfl) ?_
  refine lv_iconst (v := 2) hx hb d_La_law_949 (by decide) ?_
  refine lv_iadd hx hb d_La_law_950 ?_
  refine va_sld hx hb hX hbl hbA hS h2 d_La_law_951 ?_
  refine lv_aload_n hx hb d_La_law_952 rfl (lv_at hl 3 rfl) ?_
  refine ka_i (vx_runSW (As := [.ref (A 0), .int (xs (x4 + 1).toNatClampNeg), .int (xs (x4 + 2).toNatClampNeg), .ref (A 63)]) (rest := []) S9 (c_La_lower_err l hl9 D A (MW A ρ []) f _ σ (xs (x4 + 1).toNatClampNeg) (xs (x4 + 2).toNatClampNeg) k hk u e1) (vx_cwSW 4 hts (tg_SW wl_La_142 ws_La_lower wi_La wo_La_lower) rfl rfl rfl wq_La_lower.2 ⟨Nat.le_of_ble_eq_true rfl, Nat.le_of_ble_eq_true rfl⟩) (ka_preC X9 hC hP hD hS) rfl rfl hl.1 rfl (lv_room (Nat.le_of_ble_eq_true rfl)) d_La_law_953 ⟨hc, hsl⟩) X9 hD hS rfl (fun H locs hP hD hS => ?_)
  refine lv_istore (lv' := (5, .int (nI k)) :: [(0, .ref b), (1, .ref (A 0)), (2, .ref (A 60)), (3, .ref (A 63)), (4, .int x4)]) hx hb d_La_law_956 hl (by decide) rfl (fun ls hl => ?_)
  refine lv_aload_n hx hb d_La_law_958 rfl (lv_at hl 3 rfl) ?_
  refine lv_aload_n hx hb d_La_law_959 rfl (lv_at hl 1 rfl) ?_
  refine lv_iload hx hb d_La_law_960 (lv_at hl 5 rfl) ?_
  refine lv_iconst (v := 1) hx hb d_La_law_962 (by decide) ?_
  refine lv_iadd hx hb d_La_law_963 ?_
  refine va_sld hx hb hX hbl hbA hS h1 d_La_law_964 ?_
  refine lv_aload_n hx hb d_La_law_965 rfl (lv_at hl 1 rfl) ?_
  refine lv_iload hx hb d_La_law_966 (lv_at hl 5 rfl) ?_
  refine lv_iconst (v := 2) hx hb d_La_law_968 (by decide) ?_
  refine lv_iadd hx hb d_La_law_969 ?_
  refine va_sld hx hb hX hbl hbA hS h2 d_La_law_970 ?_
  replace hP := kp_P (kp_perm A u ρ f) hP
  replace hD := kp_D (kp_perm A u ρ f) hD
  refine ka_i (va_runV (As := [.int (xs (x4 + 1).toNatClampNeg), .int (xs (x4 + 2).toNatClampNeg)]) (rest := []) S9 (c_Mo_lower l hl9 D A (GW A u [ka_oc A f]) _ ρ (xs (x4 + 1).toNatClampNeg) (xs (x4 + 2).toNatClampNeg) z e2) (cwV 2 hts (tg_V wl_La_144 wm_Mo_lower we_Mo_lower wi_Mo wo_Mo_lower) rfl rfl rfl wq_Mo_lower ⟨Nat.le_of_ble_eq_true rfl, Nat.le_of_ble_eq_true rfl⟩) (ka_preV X9 hP hD hS 0 rfl rfl) rfl rfl hl.1 rfl (lv_room (Nat.le_of_ble_eq_true rfl)) d_La_law_971 ⟨hc, hsl⟩) X9 hD hS rfl (fun H locs hP hD hS => ?_)
  refine lv_istore (lv' := (6, .int z.1) :: (5, .int (nI k)) :: [(0, .ref b), (1, .ref (A 0)), (2, .ref (A 60)), (3, .ref (A 63)), (4, .int x4)]) hx hb d_La_law_974 hl (by decide) rfl (fun ls hl => ?_)
  replace hP := kp_P (kp_perm A u z.2 f).symm hP
  replace hD := kp_D (kp_perm A u z.2 f).symm hD
  refine lv_goto (tgt := 1460) hx hb d_La_law_976 (by decide) ?_
  refine W.widen (k := cells + 1) (n := slots + 6) (by omega) (by omega) ?_
  exact kk u z.2 f _ _ _ hI hP hD hS (lv_sub hl [2, 3, 4, 5, 6] rfl)
set_option maxRecDepth 100000 in
set_option maxHeartbeats 4000000 in
theorem lc_14 {p : Program} {l : Launch} {e : Env} {s : State} {m : MethodId} {below : List Frame} {meth : Method} {c : Code} {b L : Nat} {xs : Nat → Int32} {D : va_G} {A : Nat → Nat} (I : KS → RS → Prop) (X : lx_ p l s m meth c b L xs D A) {cells slots : Nat} (hc : cells + 1 ≤ room_1.cells) (hsl : slots + 6 ≤ room_1.slots) (x4 : Int32) (h1 : vp_in (x4 + 1) L) (h2 : vp_in (x4 + 2) L) (h3 : vp_in (x4 + 3) L) (h4 : vp_in (x4 + 4) L) (h5 : vp_in (x4 + 5) L) (σ : KS) (ρ : RS) (f : Nat → Int64) (sim : ∀ x1 x2 x3 x4 x5 : Int32, (∃ (v : Int32) (u : KS) (z : Int32 × RS), f_Ke_enter σ x1 x2 x3 x4 x5 = some (.ok v, u) ∧ f_Mo_enter ρ x1 x2 x3 x4 x5 = some z ∧ I u z.2) ∨ (∃ (k : Nat) (u : KS) (z : Int32 × RS), (k = 1 ∨ k = 2 ∨ k = 3 ∨ k = 4) ∧ f_Ke_enter σ x1 x2 x3 x4 x5 = some (.error k, u) ∧ f_Mo_enter ρ x1 x2 x3 x4 x5 = some z ∧ I u z.2)) {H : Heap} {locs : List Loc} {ls : Array Slot} (hP : va_P D vwCl (kp_C A σ ρ f) H) (hD : va_D (fun q : Nat => s.heap.size ≤ q) (kp_C A σ ρ f)) (hS : va_S (fun q : Nat => s.heap.size ≤ q) s.heap H locs) (hl : lv_has ls 7 [(0, .ref b), (1, .ref (A 0)), (2, .ref (A 60)), (3, .ref (A 63)), (4, .int x4)])
    (kk : ∀ (u : KS) (ρ1 : RS) (f1 : Nat → Int64) (H : Heap) (locs : List Loc) (ls : Array Slot), I u ρ1 → va_P D vwCl (kp_C A u ρ1 f1) H → va_D (fun q : Nat => s.heap.size ≤ q) (kp_C A u ρ1 f1) → va_S (fun q : Nat => s.heap.size ≤ q) s.heap H locs → lv_has ls 7 [(0, .ref b), (1, .ref (A 0)), (2, .ref (A 60)), (3, .ref (A 63)), (4, .int x4)] → W p l e room_1 s m #[Value.ref b] below meth c H locs (cells + 1) (slots + 6) (lw_Z below #[Value.ref b] s) (F0 m 1460 ls [])) : W p l e room_1 s m #[Value.ref b] below meth c H locs cells slots (lw_Z below #[Value.ref b] s) (F0 m 979 ls []) := by
  obtain ⟨hl9, S9, hX, hbl, hlk, hr, hC, X9⟩ := X
  obtain ⟨hx, hb, hml, hown, hts⟩ := id S9
  have hK := X9.2.1
  have hbA : ¬ (fun q : Nat => s.heap.size ≤ q) b := Nat.not_le.mpr hbl
  rcases sim (xs (x4 + 1).toNatClampNeg) (xs (x4 + 2).toNatClampNeg) (xs (x4 + 3).toNatClampNeg) (xs (x4 + 4).toNatClampNeg) (xs (x4 + 5).toNatClampNeg) with ⟨v, u, z, e1, e2, hI⟩ | ⟨k, u, z, hk, e1, e2, hI⟩
  · refine lv_aload_n hx hb d_La_law_979 rfl (lv_at hl 1 rfl) ?_
    refine lv_aload_n hx hb d_La_law_980 rfl (lv_at hl 0 rfl) ?_
    refine lv_iload hx hb d_La_law_981 (lv_at hl 4 rfl) ?_
    refine lv_iconst (v := 1) hx hb d_La_law_983 (by decide) ?_
    refine lv_iadd hx hb d_La_law_984 ?_
    refine va_sld hx hb hX hbl hbA hS h1 d_La_law_985 ?_
    refine lv_aload_n hx hb d_La_law_986 rfl (lv_at hl 0 rfl) ?_
    refine lv_iload hx hb d_La_law_987 (lv_at hl 4 rfl) ?_
    refine lv_iconst (v := 2) hx hb d_La_law_989 (by decide) ?_
    refine lv_iadd hx hb d_La_law_990 ?_
    refine va_sld hx hb hX hbl hbA hS h2 d_La_law_991 ?_
    refine lv_aload_n hx hb d_La_law_992 rfl (lv_at hl 0 rfl) ?_
    refine lv_iload hx hb d_La_law_993 (lv_at hl 4 rfl) ?_
    refine lv_iconst (v := 3) hx hb d_La_law_995 (by decide) ?_
    refine lv_iadd hx hb d_La_law_996 ?_
    refine va_sld hx hb hX hbl hbA hS h3 d_La_law_997 ?_
    refine lv_aload_n hx hb d_La_law_998 rfl (lv_at hl 0 rfl) ?_
    refine lv_iload hx hb d_La_law_999 (lv_at hl 4 rfl) ?_
    refine lv_iconst (v := 4) hx hb d_La_law_1001 (by decide) ?_
    refine lv_iadd hx hb d_La_law_1002 ?_
    refine va_sld hx hb hX hbl hbA hS h4 d_La_law_1003 ?_
    refine lv_aload_n hx hb d_La_law_1004 rfl (lv_at hl 0 rfl) ?_
    refine lv_iload hx hb d_La_law_1005 (lv_at hl 4 rfl) ?_
    refine lv_iconst (v := 5) hx hb d_La_law_1007 (by decide) ?_
    refine lv_iadd hx hb d_La_law_1008 ?_
    refine va_sld hx hb hX hbl hbA hS h5 d_La_law_1009 ?_
    refine lv_aload_n hx hb d_La_law_1010 rfl (lv_at hl 3 rfl) ?_
    refine ka_i (vx_runSW (As := [.ref (A 0), .int (xs (x4 + 1).toNatClampNeg), .int (xs (x4 + 2).toNatClampNeg), .int (xs (x4 + 3).toNatClampNeg), .int (xs (x4 + 4).toNatClampNeg), .int (xs (x4 + 5).toNatClampNeg), .ref (A 63)]) (rest := []) S9 (c_La_enter_ok l hl9 D A (MW A ρ []) f _ σ (xs (x4 + 1).toNatClampNeg) (xs (x4 + 2).toNatClampNeg) (xs (x4 + 3).toNatClampNeg) (xs (x4 + 4).toNatClampNeg) (xs (x4 + 5).toNatClampNeg) v u e1) (vx_cwSW 7 hts (tg_SW wl_La_145 ws_La_enter wi_La wo_La_enter) rfl rfl rfl wq_La_enter.2 ⟨Nat.le_of_ble_eq_true rfl, Nat.le_of_ble_eq_true rfl⟩) (ka_preC X9 hC hP hD hS) rfl rfl hl.1 rfl (lv_room (Nat.le_of_ble_eq_true rfl)) d_La_law_1011 ⟨Nat.le_trans (Nat.le_succ _) hc, Nat.le_trans (Nat.le_add_right _ 6) hsl⟩) X9 hD hS rfl (fun H locs hP hD hS => ?_)
    refine lv_istore (lv' := (5, .int 0) :: [(0, .ref b), (1, .ref (A 0)), (2, .ref (A 60)), (3, .ref (A 63)), (4, .int x4)]) hx hb d_La_law_1014 hl (by decide) rfl (fun ls hl => ?_)
    refine lv_aload_n hx hb d_La_law_1016 rfl (lv_at hl 3 rfl) ?_
    refine lv_aload_n hx hb d_La_law_1017 rfl (lv_at hl 1 rfl) ?_
    refine lv_iload hx hb d_La_law_1018 (lv_at hl 5 rfl) ?_
    refine lv_iconst (v := 1) hx hb d_La_law_1020 (by decide) ?_
    refine lv_iadd hx hb d_La_law_1021 ?_
    refine va_sld hx hb hX hbl hbA hS h1 d_La_law_1022 ?_
    refine lv_aload_n hx hb d_La_law_1023 rfl (lv_at hl 1 rfl) ?_
    refine lv_iload hx hb d_La_law_1024 (lv_at hl 5 rfl) ?_
    refine lv_iconst (v := 2) hx hb d_La_law_1026 (by decide) ?_
    refine lv_iadd hx hb d_La_law_1027 ?_
    refine va_sld hx hb hX hbl hbA hS h2 d_La_law_1028 ?_
    refine lv_aload_n hx hb d_La_law_1029 rfl (lv_at hl 1 rfl) ?_
    refine lv_iload hx hb d_La_law_1030 (lv_at hl 5 rfl) ?_
    refine lv_iconst (v := 3) hx hb d_La_law_1032 (by decide) ?_
    refine lv_iadd hx hb d_La_law_1033 ?_
    refine va_sld hx hb hX hbl hbA hS h3 d_La_law_1034 ?_
    refine lv_aload_n hx hb d_La_law_1035 rfl (lv_at hl 1 rfl) ?_
    refine lv_iload hx hb d_La_law_1036 (lv_at hl 5 rfl) ?_
    refine lv_iconst (v := 4) hx hb d_La_law_1038 (by decide) ?_
    refine lv_iadd hx hb d_La_law_1039 ?_
    refine va_sld hx hb hX hbl hbA hS h4 d_La_law_1040 ?_
    refine lv_aload_n hx hb d_La_law_1041 rfl (lv_at hl 1 rfl) ?_
    refine lv_iload hx hb d_La_law_1042 (lv_at hl 5 rfl) ?_
    refine lv_iconst (v := 5) hx hb d_La_law_1044 (by decide) ?_
    refine lv_iadd hx hb d_La_law_1045 ?_
    refine va_sld hx hb hX hbl hbA hS h5 d_La_law_1046 ?_
    replace hP := kp_P (kp_perm A u ρ (vp_updL f 0 v.toInt64)) hP
    replace hD := kp_D (kp_perm A u ρ (vp_updL f 0 v.toInt64)) hD
    refine ka_i (va_runV (As := [.int (xs (x4 + 1).toNatClampNeg), .int (xs (x4 + 2).toNatClampNeg), .int (xs (x4 + 3).toNatClampNeg), .int (xs (x4 + 4).toNatClampNeg), .int (xs (x4 + 5).toNatClampNeg)]) (rest := []) S9 (c_Mo_enter l hl9 D A (GW A u [ka_oc A (vp_updL f 0 v.toInt64)]) _ ρ (xs (x4 + 1).toNatClampNeg) (xs (x4 + 2).toNatClampNeg) (xs (x4 + 3).toNatClampNeg) (xs (x4 + 4).toNatClampNeg) (xs (x4 + 5).toNatClampNeg) z e2) (cwV 5 hts (tg_V wl_La_147 wm_Mo_enter we_Mo_enter wi_Mo wo_Mo_enter) rfl rfl rfl wq_Mo_enter ⟨Nat.le_of_ble_eq_true rfl, Nat.le_of_ble_eq_true rfl⟩) (ka_preV X9 hP hD hS 0 rfl rfl) rfl rfl hl.1 rfl (lv_room (Nat.le_of_ble_eq_true rfl)) d_La_law_1047 ⟨Nat.le_trans (Nat.le_succ _) hc, Nat.le_trans (Nat.le_add_right _ 6) hsl⟩) X9 hD hS rfl (fun H locs hP hD hS => ?_)
    refine lv_istore (lv' := (6, .int z.1) :: (5, .int 0) :: [(0, .ref b), (1, .ref (A 0)), (2, .ref (A 60)), (3, .ref (A 63)), (4, .int x4)]) hx hb d_La_law_1050 hl (by decide) rfl (fun ls hl => ?_)
    replace hP := kp_P (kp_perm A u z.2 (vp_updL f 0 v.toInt64)).symm hP
    replace hD := kp_D (kp_perm A u z.2 (vp_updL f 0 v.toInt64)).symm hD
    refine lv_goto (tgt := 1460) hx hb d_La_law_1052 (by decide) ?_
    refine W.widen (k := cells + 1) (n := slots + 6) (by omega) (by omega) ?_
    exact kk u z.2 (vp_updL f 0 v.toInt64) _ _ _ hI hP hD hS (lv_sub hl [2, 3, 4, 5, 6] rfl)
  refine lv_aload_n hx hb d_La_law_979 rfl (lv_at hl 1 rfl) ?_
  refine lv_aload_n hx hb d_La_law_980 rfl (lv_at hl 0 rfl) ?_
  refine lv_iload hx hb d_La_law_981 (lv_at hl 4 rfl) ?_
  refine lv_iconst (v := 1) hx hb d_La_law_983 (by decide) ?_
  refine lv_iadd hx hb d_La_law_984 ?_
  refine va_sld hx hb hX hbl hbA hS h1 d_La_law_985 ?_
  refine lv_aload_n hx hb d_La_law_986 rfl (lv_at hl 0 rfl) ?_
  refine lv_iload hx hb d_La_law_987 (lv_at hl 4 rfl) ?_
  refine lv_iconst (v := 2) hx hb d_La_law_989 (by decide) ?_
  refine lv_iadd hx hb d_La_law_990 ?_
  refine va_sld hx hb hX hbl hbA hS h2 d_La_law_991 ?_
  refine lv_aload_n hx hb d_La_law_992 rfl (lv_at hl 0 rfl) ?_
  refine lv_iload hx hb d_La_law_993 (lv_at hl 4 rfl) ?_
  refine lv_iconst (v := 3) hx hb d_La_law_995 (by decide) ?_
  refine lv_iadd hx hb d_La_law_996 ?_
  refine va_sld hx hb hX hbl hbA hS h3 d_La_law_997 ?_
  refine lv_aload_n hx hb d_La_law_998 rfl (lv_at hl 0 rfl) ?_
  refine lv_iload hx hb d_La_law_999 (lv_at hl 4 rfl) ?_
  refine lv_iconst (v := 4) hx hb d_La_law_1001 (by decide) ?_
  refine lv_iadd hx hb d_La_law_1002 ?_
  refine va_sld hx hb hX hbl hbA hS h4 d_La_law_1003 ?_
  refine lv_aload_n hx hb d_La_law_1004 rfl (lv_at hl 0 rfl) ?_
  refine lv_iload hx hb d_La_law_1005 (lv_at hl 4 rfl) ?_
  refine lv_iconst (v := 5) hx hb d_La_law_1007 (by decide) ?_
  refine lv_iadd hx hb d_La_law_1008 ?_
  refine va_sld hx hb hX hbl hbA hS h5 d_La_law_1009 ?_
  refine lv_aload_n hx hb d_La_law_1010 rfl (lv_at hl 3 rfl) ?_
  refine ka_i (vx_runSW (As := [.ref (A 0), .int (xs (x4 + 1).toNatClampNeg), .int (xs (x4 + 2).toNatClampNeg), .int (xs (x4 + 3).toNatClampNeg), .int (xs (x4 + 4).toNatClampNeg), .int (xs (x4 + 5).toNatClampNeg), .ref (A 63)]) (rest := []) S9 (c_La_enter_err l hl9 D A (MW A ρ []) f _ σ (xs (x4 + 1).toNatClampNeg) (xs (x4 + 2).toNatClampNeg) (xs (x4 + 3).toNatClampNeg) (xs (x4 + 4).toNatClampNeg) (xs (x4 + 5).toNatClampNeg) k hk u e1) (vx_cwSW 7 hts (tg_SW wl_La_145 ws_La_enter wi_La wo_La_enter) rfl rfl rfl wq_La_enter.2 ⟨Nat.le_of_ble_eq_true rfl, Nat.le_of_ble_eq_true rfl⟩) (ka_preC X9 hC hP hD hS) rfl rfl hl.1 rfl (lv_room (Nat.le_of_ble_eq_true rfl)) d_La_law_1011 ⟨hc, hsl⟩) X9 hD hS rfl (fun H locs hP hD hS => ?_)
  refine lv_istore (lv' := (5, .int (nI k)) :: [(0, .ref b), (1, .ref (A 0)), (2, .ref (A 60)), (3, .ref (A 63)), (4, .int x4)]) hx hb d_La_law_1014 hl (by decide) rfl (fun ls hl => ?_)
  refine lv_aload_n hx hb d_La_law_1016 rfl (lv_at hl 3 rfl) ?_
  refine lv_aload_n hx hb d_La_law_1017 rfl (lv_at hl 1 rfl) ?_
  refine lv_iload hx hb d_La_law_1018 (lv_at hl 5 rfl) ?_
  refine lv_iconst (v := 1) hx hb d_La_law_1020 (by decide) ?_
  refine lv_iadd hx hb d_La_law_1021 ?_
  refine va_sld hx hb hX hbl hbA hS h1 d_La_law_1022 ?_
  refine lv_aload_n hx hb d_La_law_1023 rfl (lv_at hl 1 rfl) ?_
  refine lv_iload hx hb d_La_law_1024 (lv_at hl 5 rfl) ?_
  refine lv_iconst (v := 2) hx hb d_La_law_1026 (by decide) ?_
  refine lv_iadd hx hb d_La_law_1027 ?_
  refine va_sld hx hb hX hbl hbA hS h2 d_La_law_1028 ?_
  refine lv_aload_n hx hb d_La_law_1029 rfl (lv_at hl 1 rfl) ?_
  refine lv_iload hx hb d_La_law_1030 (lv_at hl 5 rfl) ?_
  refine lv_iconst (v := 3) hx hb d_La_law_1032 (by decide) ?_
  refine lv_iadd hx hb d_La_law_1033 ?_
  refine va_sld hx hb hX hbl hbA hS h3 d_La_law_1034 ?_
  refine lv_aload_n hx hb d_La_law_1035 rfl (lv_at hl 1 rfl) ?_
  refine lv_iload hx hb d_La_law_1036 (lv_at hl 5 rfl) ?_
  refine lv_iconst (v := 4) hx hb d_La_law_1038 (by decide) ?_
  refine lv_iadd hx hb d_La_law_1039 ?_
  refine va_sld hx hb hX hbl hbA hS h4 d_La_law_1040 ?_
  refine lv_aload_n hx hb d_La_law_1041 rfl (lv_at hl 1 rfl) ?_
  refine lv_iload hx hb d_La_law_1042 (lv_at hl 5 rfl) ?_
  refine lv_iconst (v := 5) hx hb d_La_law_1044 (by decide) ?_
  refine lv_iadd hx hb d_La_law_1045 ?_
  refine va_sld hx hb hX hbl hbA hS h5 d_La_law_1046 ?_
  replace hP := kp_P (kp_perm A u ρ f) hP
  replace hD := kp_D (kp_perm A u ρ f) hD
  refine ka_i (va_runV (As := [.int (xs (x4 + 1).toNatClampNeg), .int (xs (x4 + 2).toNatClampNeg), .int (xs (x4 + 3).toNatClampNeg), .int (xs (x4 + 4).toNatClampNeg), .int (xs (x4 + 5).toNatClampNeg)]) (rest := []) S9 (c_Mo_enter l hl9 D A (GW A u [ka_oc A f]) _ ρ (xs (x4 + 1).toNatClampNeg) (xs (x4 + 2).toNatClampNeg) (xs (x4 + 3).toNatClampNeg) (xs (x4 + 4).toNatClampNeg) (xs (x4 + 5).toNatClampNeg) z e2) (cwV 5 hts (tg_V wl_La_147 wm_Mo_enter we_Mo_enter wi_Mo wo_Mo_enter) rfl rfl rfl wq_Mo_enter ⟨Nat.le_of_ble_eq_true rfl, Nat.le_of_ble_eq_true rfl⟩) (ka_preV X9 hP hD hS 0 rfl rfl) rfl rfl hl.1 rfl (lv_room (Nat.le_of_ble_eq_true rfl)) d_La_law_1047 ⟨hc, hsl⟩) X9 hD hS rfl (fun H locs hP hD hS => ?_)
  refine lv_istore (lv' := (6, .int z.1) :: (5, .int (nI k)) :: [(0, .ref b), (1, .ref (A 0)), (2, .ref (A 60)), (3, .ref (A 63)), (4, .int x4)]) hx hb d_La_law_1050 hl (by decide) rfl (fun ls hl => ?_)
  replace hP := kp_P (kp_perm A u z.2 f).symm hP
  replace hD := kp_D (kp_perm A u z.2 f).symm hD
  refine lv_goto (tgt := 1460) hx hb d_La_law_1052 (by decide) ?_
  refine W.widen (k := cells + 1) (n := slots + 6) (by omega) (by omega) ?_
  exact kk u z.2 f _ _ _ hI hP hD hS (lv_sub hl [2, 3, 4, 5, 6] rfl)
set_option maxRecDepth 100000 in
set_option maxHeartbeats 4000000 in
theorem lc_15 {p : Program} {l : Launch} {e : Env} {s : State} {m : MethodId} {below : List Frame} {meth : Method} {c : Code} {b L : Nat} {xs : Nat → Int32} {D : va_G} {A : Nat → Nat} (I : KS → RS → Prop) (X : lx_ p l s m meth c b L xs D A) {cells slots : Nat} (hc : cells + 1 ≤ room_1.cells) (hsl : slots + 6 ≤ room_1.slots) (x4 : Int32) (h1 : vp_in (x4 + 1) L) (h2 : vp_in (x4 + 2) L) (h3 : vp_in (x4 + 3) L) (σ : KS) (ρ : RS) (f : Nat → Int64) (sim : ∀ x1 x2 x3 : Int32, (∃ (v : Int32) (u : KS) (z : Int32 × RS), f_Ke_user σ x1 x2 x3 = some (.ok v, u) ∧ f_Mo_user ρ x1 x2 x3 = some z ∧ I u z.2) ∨ (∃ (k : Nat) (u : KS) (z : Int32 × RS), (k = 1 ∨ k = 2 ∨ k = 3 ∨ k = 4) ∧ f_Ke_user σ x1 x2 x3 = some (.error k, u) ∧ f_Mo_user ρ x1 x2 x3 = some z ∧ I u z.2)) {H : Heap} {locs : List Loc} {ls : Array Slot} (hP : va_P D vwCl (kp_C A σ ρ f) H) (hD : va_D (fun q : Nat => s.heap.size ≤ q) (kp_C A σ ρ f)) (hS : va_S (fun q : Nat => s.heap.size ≤ q) s.heap H locs) (hl : lv_has ls 7 [(0, .ref b), (1, .ref (A 0)), (2, .ref (A 60)), (3, .ref (A 63)), (4, .int x4)])
    (kk : ∀ (u : KS) (ρ1 : RS) (f1 : Nat → Int64) (H : Heap) (locs : List Loc) (ls : Array Slot), I u ρ1 → va_P D vwCl (kp_C A u ρ1 f1) H → va_D (fun q : Nat => s.heap.size ≤ q) (kp_C A u ρ1 f1) → va_S (fun q : Nat => s.heap.size ≤ q) s.heap H locs → lv_has ls 7 [(0, .ref b), (1, .ref (A 0)), (2, .ref (A 60)), (3, .ref (A 63)), (4, .int x4)] → W p l e room_1 s m #[Value.ref b] below meth c H locs (cells + 1) (slots + 6) (lw_Z below #[Value.ref b] s) (F0 m 1460 ls [])) : W p l e room_1 s m #[Value.ref b] below meth c H locs cells slots (lw_Z below #[Value.ref b] s) (F0 m 1055 ls []) := by
  obtain ⟨hl9, S9, hX, hbl, hlk, hr, hC, X9⟩ := X
  obtain ⟨hx, hb, hml, hown, hts⟩ := id S9
  have hK := X9.2.1
  have hbA : ¬ (fun q : Nat => s.heap.size ≤ q) b := Nat.not_le.mpr hbl
  rcases sim (xs (x4 + 1).toNatClampNeg) (xs (x4 + 2).toNatClampNeg) (xs (x4 + 3).toNatClampNeg) with ⟨v, u, z, e1, e2, hI⟩ | ⟨k, u, z, hk, e1, e2, hI⟩
  · refine lv_aload_n hx hb d_La_law_1055 rfl (lv_at hl 1 rfl) ?_
    refine lv_aload_n hx hb d_La_law_1056 rfl (lv_at hl 0 rfl) ?_
    refine lv_iload hx hb d_La_law_1057 (lv_at hl 4 rfl) ?_
    refine lv_iconst (v := 1) hx hb d_La_law_1059 (by decide) ?_
    refine lv_iadd hx hb d_La_law_1060 ?_
    refine va_sld hx hb hX hbl hbA hS h1 d_La_law_1061 ?_
    refine lv_aload_n hx hb d_La_law_1062 rfl (lv_at hl 0 rfl) ?_
    refine lv_iload hx hb d_La_law_1063 (lv_at hl 4 rfl) ?_
    refine lv_iconst (v := 2) hx hb d_La_law_1065 (by decide) ?_
    refine lv_iadd hx hb d_La_law_1066 ?_
    refine va_sld hx hb hX hbl hbA hS h2 d_La_law_1067 ?_
    refine lv_aload_n hx hb d_La_law_1068 rfl (lv_at hl 0 rfl) ?_
    refine lv_iload hx hb d_La_law_1069 (lv_at hl 4 rfl) ?_
    refine lv_iconst (v := 3) hx hb d_La_law_1071 (by decide) ?_
    refine lv_iadd hx hb d_La_law_1072 ?_
    refine va_sld hx hb hX hbl hbA hS h3 d_La_law_1073 ?_
    refine lv_aload_n hx hb d_La_law_1074 rfl (lv_at hl 3 rfl) ?_
    refine ka_i (vx_runSW (As := [.ref (A 0), .int (xs (x4 + 1).toNatClampNeg), .int (xs (x4 + 2).toNatClampNeg), .int (xs (x4 + 3).toNatClampNeg), .ref (A 63)]) (rest := []) S9 (c_La_user_ok l hl9 D A (MW A ρ []) f _ σ (xs (x4 + 1).toNatClampNeg) (xs (x4 + 2).toNatClampNeg) (xs (x4 + 3).toNatClampNeg) v u e1) (vx_cwSW 5 hts (tg_SW wl_La_148 ws_La_user wi_La wo_La_user) rfl rfl rfl wq_La_user.2 ⟨Nat.le_of_ble_eq_true rfl, Nat.le_of_ble_eq_true rfl⟩) (ka_preC X9 hC hP hD hS) rfl rfl hl.1 rfl (lv_room (Nat.le_of_ble_eq_true rfl)) d_La_law_1075 ⟨Nat.le_trans (Nat.le_succ _) hc, Nat.le_trans (Nat.le_add_right _ 6) hsl⟩) X9 hD hS rfl (fun H locs hP hD hS => ?_)
    refine lv_istore (lv' := (5, .int 0) :: [(0, .ref b), (1, .ref (A 0)), (2, .ref (A 60)), (3, .ref (A 63)), (4, .int x4)]) hx hb d_La_law_1078 hl (by decide) rfl (fun ls hl => ?_)
    refine lv_aload_n hx hb d_La_law_1080 rfl (lv_at hl 3 rfl) ?_
    refine lv_aload_n hx hb d_La_law_1081 rfl (lv_at hl 1 rfl) ?_
    refine lv_iload hx hb d_La_law_1082 (lv_at hl 5 rfl) ?_
    refine lv_iconst (v := 1) hx hb d_La_law_1084 (by decide) ?_
    refine lv_iadd hx hb d_La_law_1085 ?_
    refine va_sld hx hb hX hbl hbA hS h1 d_La_law_1086 ?_
    refine lv_aload_n hx hb d_La_law_1087 rfl (lv_at hl 1 rfl) ?_
    refine lv_iload hx hb d_La_law_1088 (lv_at hl 5 rfl) ?_
    refine lv_iconst (v := 2) hx hb d_La_law_1090 (by decide) ?_
    refine lv_iadd hx hb d_La_law_1091 ?_
    refine va_sld hx hb hX hbl hbA hS h2 d_La_law_1092 ?_
    refine lv_aload_n hx hb d_La_law_1093 rfl (lv_at hl 1 rfl) ?_
    refine lv_iload hx hb d_La_law_1094 (lv_at hl 5 rfl) ?_
    refine lv_iconst (v := 3) hx hb d_La_law_1096 (by decide) ?_
    refine lv_iadd hx hb d_La_law_1097 ?_
    refine va_sld hx hb hX hbl hbA hS h3 d_La_law_1098 ?_
    replace hP := kp_P (kp_perm A u ρ (vp_updL f 0 v.toInt64)) hP
    replace hD := kp_D (kp_perm A u ρ (vp_updL f 0 v.toInt64)) hD
    refine ka_i (va_runV (As := [.int (xs (x4 + 1).toNatClampNeg), .int (xs (x4 + 2).toNatClampNeg), .int (xs (x4 + 3).toNatClampNeg)]) (rest := []) S9 (c_Mo_user l hl9 D A (GW A u [ka_oc A (vp_updL f 0 v.toInt64)]) _ ρ (xs (x4 + 1).toNatClampNeg) (xs (x4 + 2).toNatClampNeg) (xs (x4 + 3).toNatClampNeg) z e2) (cwV 3 hts (tg_V wl_La_150 wm_Mo_user we_Mo_user wi_Mo wo_Mo_user) rfl rfl rfl wq_Mo_user ⟨Nat.le_of_ble_eq_true rfl, Nat.le_of_ble_eq_true rfl⟩) (ka_preV X9 hP hD hS 0 rfl rfl) rfl rfl hl.1 rfl (lv_room (Nat.le_of_ble_eq_true rfl)) d_La_law_1099 ⟨Nat.le_trans (Nat.le_succ _) hc, Nat.le_trans (Nat.le_add_right _ 6) hsl⟩) X9 hD hS rfl (fun H locs hP hD hS => ?_)
    refine lv_istore (lv' := (6, .int z.1) :: (5, .int 0) :: [(0, .ref b), (1, .ref (A 0)), (2, .ref (A 60)), (3, .ref (A 63)), (4, .int x4)]) hx hb d_La_law_1102 hl (by decide) rfl (fun ls hl => ?_)
    replace hP := kp_P (kp_perm A u z.2 (vp_updL f 0 v.toInt64)).symm hP
    replace hD := kp_D (kp_perm A u z.2 (vp_updL f 0 v.toInt64)).symm hD
    refine lv_goto (tgt := 1460) hx hb d_La_law_1104 (by decide) ?_
    refine W.widen (k := cells + 1) (n := slots + 6) (by omega) (by omega) ?_
    exact kk u z.2 (vp_updL f 0 v.toInt64) _ _ _ hI hP hD hS (lv_sub hl [2, 3, 4, 5, 6] rfl)
  refine lv_aload_n hx hb d_La_law_1055 rfl (lv_at hl 1 rfl) ?_
  refine lv_aload_n hx hb d_La_law_1056 rfl (lv_at hl 0 rfl) ?_
  refine lv_iload hx hb d_La_law_1057 (lv_at hl 4 rfl) ?_
  refine lv_iconst (v := 1) hx hb d_La_law_1059 (by decide) ?_
  refine lv_iadd hx hb d_La_law_1060 ?_
  refine va_sld hx hb hX hbl hbA hS h1 d_La_law_1061 ?_
  refine lv_aload_n hx hb d_La_law_1062 rfl (lv_at hl 0 rfl) ?_
  refine lv_iload hx hb d_La_law_1063 (lv_at hl 4 rfl) ?_
  refine lv_iconst (v := 2) hx hb d_La_law_1065 (by decide) ?_
  refine lv_iadd hx hb d_La_law_1066 ?_
  refine va_sld hx hb hX hbl hbA hS h2 d_La_law_1067 ?_
  refine lv_aload_n hx hb d_La_law_1068 rfl (lv_at hl 0 rfl) ?_
  refine lv_iload hx hb d_La_law_1069 (lv_at hl 4 rfl) ?_
  refine lv_iconst (v := 3) hx hb d_La_law_1071 (by decide) ?_
  refine lv_iadd hx hb d_La_law_1072 ?_
  refine va_sld hx hb hX hbl hbA hS h3 d_La_law_1073 ?_
  refine lv_aload_n hx hb d_La_law_1074 rfl (lv_at hl 3 rfl) ?_
  refine ka_i (vx_runSW (As := [.ref (A 0), .int (xs (x4 + 1).toNatClampNeg), .int (xs (x4 + 2).toNatClampNeg), .int (xs (x4 + 3).toNatClampNeg), .ref (A 63)]) (rest := []) S9 (c_La_user_err l hl9 D A (MW A ρ []) f _ σ (xs (x4 + 1).toNatClampNeg) (xs (x4 + 2).toNatClampNeg) (xs (x4 + 3).toNatClampNeg) k hk u e1) (vx_cwSW 5 hts (tg_SW wl_La_148 ws_La_user wi_La wo_La_user) rfl rfl rfl wq_La_user.2 ⟨Nat.le_of_ble_eq_true rfl, Nat.le_of_ble_eq_true rfl⟩) (ka_preC X9 hC hP hD hS) rfl rfl hl.1 rfl (lv_room (Nat.le_of_ble_eq_true rfl)) d_La_law_1075 ⟨hc, hsl⟩) X9 hD hS rfl (fun H locs hP hD hS => ?_)
  refine lv_istore (lv' := (5, .int (nI k)) :: [(0, .ref b), (1, .ref (A 0)), (2, .ref (A 60)), (3, .ref (A 63)), (4, .int x4)]) hx hb d_La_law_1078 hl (by decide) rfl (fun ls hl => ?_)
  refine lv_aload_n hx hb d_La_law_1080 rfl (lv_at hl 3 rfl) ?_
  refine lv_aload_n hx hb d_La_law_1081 rfl (lv_at hl 1 rfl) ?_
  refine lv_iload hx hb d_La_law_1082 (lv_at hl 5 rfl) ?_
  refine lv_iconst (v := 1) hx hb d_La_law_1084 (by decide) ?_
  refine lv_iadd hx hb d_La_law_1085 ?_
  refine va_sld hx hb hX hbl hbA hS h1 d_La_law_1086 ?_
  refine lv_aload_n hx hb d_La_law_1087 rfl (lv_at hl 1 rfl) ?_
  refine lv_iload hx hb d_La_law_1088 (lv_at hl 5 rfl) ?_
  refine lv_iconst (v := 2) hx hb d_La_law_1090 (by decide) ?_
  refine lv_iadd hx hb d_La_law_1091 ?_
  refine va_sld hx hb hX hbl hbA hS h2 d_La_law_1092 ?_
  refine lv_aload_n hx hb d_La_law_1093 rfl (lv_at hl 1 rfl) ?_
  refine lv_iload hx hb d_La_law_1094 (lv_at hl 5 rfl) ?_
  refine lv_iconst (v := 3) hx hb d_La_law_1096 (by decide) ?_
  refine lv_iadd hx hb d_La_law_1097 ?_
  refine va_sld hx hb hX hbl hbA hS h3 d_La_law_1098 ?_
  replace hP := kp_P (kp_perm A u ρ f) hP
  replace hD := kp_D (kp_perm A u ρ f) hD
  refine ka_i (va_runV (As := [.int (xs (x4 + 1).toNatClampNeg), .int (xs (x4 + 2).toNatClampNeg), .int (xs (x4 + 3).toNatClampNeg)]) (rest := []) S9 (c_Mo_user l hl9 D A (GW A u [ka_oc A f]) _ ρ (xs (x4 + 1).toNatClampNeg) (xs (x4 + 2).toNatClampNeg) (xs (x4 + 3).toNatClampNeg) z e2) (cwV 3 hts (tg_V wl_La_150 wm_Mo_user we_Mo_user wi_Mo wo_Mo_user) rfl rfl rfl wq_Mo_user ⟨Nat.le_of_ble_eq_true rfl, Nat.le_of_ble_eq_true rfl⟩) (ka_preV X9 hP hD hS 0 rfl rfl) rfl rfl hl.1 rfl (lv_room (Nat.le_of_ble_eq_true rfl)) d_La_law_1099 ⟨hc, hsl⟩) X9 hD hS rfl (fun H locs hP hD hS => ?_)
  refine lv_istore (lv' := (6, .int z.1) :: (5, .int (nI k)) :: [(0, .ref b), (1, .ref (A 0)), (2, .ref (A 60)), (3, .ref (A 63)), (4, .int x4)]) hx hb d_La_law_1102 hl (by decide) rfl (fun ls hl => ?_)
  replace hP := kp_P (kp_perm A u z.2 f).symm hP
  replace hD := kp_D (kp_perm A u z.2 f).symm hD
  refine lv_goto (tgt := 1460) hx hb d_La_law_1104 (by decide) ?_
  refine W.widen (k := cells + 1) (n := slots + 6) (by omega) (by omega) ?_
  exact kk u z.2 f _ _ _ hI hP hD hS (lv_sub hl [2, 3, 4, 5, 6] rfl)
set_option maxRecDepth 100000 in
set_option maxHeartbeats 4000000 in
theorem lc_16 {p : Program} {l : Launch} {e : Env} {s : State} {m : MethodId} {below : List Frame} {meth : Method} {c : Code} {b L : Nat} {xs : Nat → Int32} {D : va_G} {A : Nat → Nat} (I : KS → RS → Prop) (X : lx_ p l s m meth c b L xs D A) {cells slots : Nat} (hc : cells + 1 ≤ room_1.cells) (hsl : slots + 6 ≤ room_1.slots) (x4 : Int32) (h1 : vp_in (x4 + 1) L) (h2 : vp_in (x4 + 2) L) (h3 : vp_in (x4 + 3) L) (σ : KS) (ρ : RS) (f : Nat → Int64) (sim : ∀ x1 x2 x3 : Int32, (∃ (v : Int32) (u : KS) (z : Int32 × RS), f_Ke_login σ x1 x2 x3 = some (.ok v, u) ∧ f_Mo_login ρ x1 x2 x3 = some z ∧ I u z.2) ∨ (∃ (k : Nat) (u : KS) (z : Int32 × RS), (k = 1 ∨ k = 2 ∨ k = 3 ∨ k = 4) ∧ f_Ke_login σ x1 x2 x3 = some (.error k, u) ∧ f_Mo_login ρ x1 x2 x3 = some z ∧ I u z.2)) {H : Heap} {locs : List Loc} {ls : Array Slot} (hP : va_P D vwCl (kp_C A σ ρ f) H) (hD : va_D (fun q : Nat => s.heap.size ≤ q) (kp_C A σ ρ f)) (hS : va_S (fun q : Nat => s.heap.size ≤ q) s.heap H locs) (hl : lv_has ls 7 [(0, .ref b), (1, .ref (A 0)), (2, .ref (A 60)), (3, .ref (A 63)), (4, .int x4)])
    (kk : ∀ (u : KS) (ρ1 : RS) (f1 : Nat → Int64) (H : Heap) (locs : List Loc) (ls : Array Slot), I u ρ1 → va_P D vwCl (kp_C A u ρ1 f1) H → va_D (fun q : Nat => s.heap.size ≤ q) (kp_C A u ρ1 f1) → va_S (fun q : Nat => s.heap.size ≤ q) s.heap H locs → lv_has ls 7 [(0, .ref b), (1, .ref (A 0)), (2, .ref (A 60)), (3, .ref (A 63)), (4, .int x4)] → W p l e room_1 s m #[Value.ref b] below meth c H locs (cells + 1) (slots + 6) (lw_Z below #[Value.ref b] s) (F0 m 1460 ls [])) : W p l e room_1 s m #[Value.ref b] below meth c H locs cells slots (lw_Z below #[Value.ref b] s) (F0 m 1107 ls []) := by
  obtain ⟨hl9, S9, hX, hbl, hlk, hr, hC, X9⟩ := X
  obtain ⟨hx, hb, hml, hown, hts⟩ := id S9
  have hK := X9.2.1
  have hbA : ¬ (fun q : Nat => s.heap.size ≤ q) b := Nat.not_le.mpr hbl
  rcases sim (xs (x4 + 1).toNatClampNeg) (xs (x4 + 2).toNatClampNeg) (xs (x4 + 3).toNatClampNeg) with ⟨v, u, z, e1, e2, hI⟩ | ⟨k, u, z, hk, e1, e2, hI⟩
  · refine lv_aload_n hx hb d_La_law_1107 rfl (lv_at hl 1 rfl) ?_
    refine lv_aload_n hx hb d_La_law_1108 rfl (lv_at hl 0 rfl) ?_
    refine lv_iload hx hb d_La_law_1109 (lv_at hl 4 rfl) ?_
    refine lv_iconst (v := 1) hx hb d_La_law_1111 (by decide) ?_
    refine lv_iadd hx hb d_La_law_1112 ?_
    refine va_sld hx hb hX hbl hbA hS h1 d_La_law_1113 ?_
    refine lv_aload_n hx hb d_La_law_1114 rfl (lv_at hl 0 rfl) ?_
    refine lv_iload hx hb d_La_law_1115 (lv_at hl 4 rfl) ?_
    refine lv_iconst (v := 2) hx hb d_La_law_1117 (by decide) ?_
    refine lv_iadd hx hb d_La_law_1118 ?_
    refine va_sld hx hb hX hbl hbA hS h2 d_La_law_1119 ?_
    refine lv_aload_n hx hb d_La_law_1120 rfl (lv_at hl 0 rfl) ?_
    refine lv_iload hx hb d_La_law_1121 (lv_at hl 4 rfl) ?_
    refine lv_iconst (v := 3) hx hb d_La_law_1123 (by decide) ?_
    refine lv_iadd hx hb d_La_law_1124 ?_
    refine va_sld hx hb hX hbl hbA hS h3 d_La_law_1125 ?_
    refine lv_aload_n hx hb d_La_law_1126 rfl (lv_at hl 3 rfl) ?_
    refine ka_i (vx_runSW (As := [.ref (A 0), .int (xs (x4 + 1).toNatClampNeg), .int (xs (x4 + 2).toNatClampNeg), .int (xs (x4 + 3).toNatClampNeg), .ref (A 63)]) (rest := []) S9 (c_La_login_ok l hl9 D A (MW A ρ []) f _ σ (xs (x4 + 1).toNatClampNeg) (xs (x4 + 2).toNatClampNeg) (xs (x4 + 3).toNatClampNeg) v u e1) (vx_cwSW 5 hts (tg_SW wl_La_151 ws_La_login wi_La wo_La_login) rfl rfl rfl wq_La_login.2 ⟨Nat.le_of_ble_eq_true rfl, Nat.le_of_ble_eq_true rfl⟩) (ka_preC X9 hC hP hD hS) rfl rfl hl.1 rfl (lv_room (Nat.le_of_ble_eq_true rfl)) d_La_law_1127 ⟨Nat.le_trans (Nat.le_succ _) hc, Nat.le_trans (Nat.le_add_right _ 6) hsl⟩) X9 hD hS rfl (fun H locs hP hD hS => ?_)
    refine lv_istore (lv' := (5, .int 0) :: [(0, .ref b), (1, .ref (A 0)), (2, .ref (A 60)), (3, .ref (A 63)), (4, .int x4)]) hx hb d_La_law_1130 hl (by decide) rfl (fun ls hl => ?_)
    refine lv_aload_n hx hb d_La_law_1132 rfl (lv_at hl 3 rfl) ?_
    refine lv_aload_n hx hb d_La_law_1133 rfl (lv_at hl 1 rfl) ?_
    refine lv_iload hx hb d_La_law_1134 (lv_at hl 5 rfl) ?_
    refine lv_iconst (v := 1) hx hb d_La_law_1136 (by decide) ?_
    refine lv_iadd hx hb d_La_law_1137 ?_
    refine va_sld hx hb hX hbl hbA hS h1 d_La_law_1138 ?_
    refine lv_aload_n hx hb d_La_law_1139 rfl (lv_at hl 1 rfl) ?_
    refine lv_iload hx hb d_La_law_1140 (lv_at hl 5 rfl) ?_
    refine lv_iconst (v := 2) hx hb d_La_law_1142 (by decide) ?_
    refine lv_iadd hx hb d_La_law_1143 ?_
    refine va_sld hx hb hX hbl hbA hS h2 d_La_law_1144 ?_
    refine lv_aload_n hx hb d_La_law_1145 rfl (lv_at hl 1 rfl) ?_
    refine lv_iload hx hb d_La_law_1146 (lv_at hl 5 rfl) ?_
    refine lv_iconst (v := 3) hx hb d_La_law_1148 (by decide) ?_
    refine lv_iadd hx hb d_La_law_1149 ?_
    refine va_sld hx hb hX hbl hbA hS h3 d_La_law_1150 ?_
    replace hP := kp_P (kp_perm A u ρ (vp_updL f 0 v.toInt64)) hP
    replace hD := kp_D (kp_perm A u ρ (vp_updL f 0 v.toInt64)) hD
    refine ka_i (va_runV (As := [.int (xs (x4 + 1).toNatClampNeg), .int (xs (x4 + 2).toNatClampNeg), .int (xs (x4 + 3).toNatClampNeg)]) (rest := []) S9 (c_Mo_login l hl9 D A (GW A u [ka_oc A (vp_updL f 0 v.toInt64)]) _ ρ (xs (x4 + 1).toNatClampNeg) (xs (x4 + 2).toNatClampNeg) (xs (x4 + 3).toNatClampNeg) z e2) (cwV 3 hts (tg_V wl_La_153 wm_Mo_login we_Mo_login wi_Mo wo_Mo_login) rfl rfl rfl wq_Mo_login ⟨Nat.le_of_ble_eq_true rfl, Nat.le_of_ble_eq_true rfl⟩) (ka_preV X9 hP hD hS 0 rfl rfl) rfl rfl hl.1 rfl (lv_room (Nat.le_of_ble_eq_true rfl)) d_La_law_1151 ⟨Nat.le_trans (Nat.le_succ _) hc, Nat.le_trans (Nat.le_add_right _ 6) hsl⟩) X9 hD hS rfl (fun H locs hP hD hS => ?_)
    refine lv_istore (lv' := (6, .int z.1) :: (5, .int 0) :: [(0, .ref b), (1, .ref (A 0)), (2, .ref (A 60)), (3, .ref (A 63)), (4, .int x4)]) hx hb d_La_law_1154 hl (by decide) rfl (fun ls hl => ?_)
    replace hP := kp_P (kp_perm A u z.2 (vp_updL f 0 v.toInt64)).symm hP
    replace hD := kp_D (kp_perm A u z.2 (vp_updL f 0 v.toInt64)).symm hD
    refine lv_goto (tgt := 1460) hx hb d_La_law_1156 (by decide) ?_
    refine W.widen (k := cells + 1) (n := slots + 6) (by omega) (by omega) ?_
    exact kk u z.2 (vp_updL f 0 v.toInt64) _ _ _ hI hP hD hS (lv_sub hl [2, 3, 4, 5, 6] rfl)
  refine lv_aload_n hx hb d_La_law_1107 rfl (lv_at hl 1 rfl) ?_
  refine lv_aload_n hx hb d_La_law_1108 rfl (lv_at hl 0 rfl) ?_
  refine lv_iload hx hb d_La_law_1109 (lv_at hl 4 rfl) ?_
  refine lv_iconst (v := 1) hx hb d_La_law_1111 (by decide) ?_
  refine lv_iadd hx hb d_La_law_1112 ?_
  refine va_sld hx hb hX hbl hbA hS h1 d_La_law_1113 ?_
  refine lv_aload_n hx hb d_La_law_1114 rfl (lv_at hl 0 rfl) ?_
  refine lv_iload hx hb d_La_law_1115 (lv_at hl 4 rfl) ?_
  refine lv_iconst (v := 2) hx hb d_La_law_1117 (by decide) ?_
  refine lv_iadd hx hb d_La_law_1118 ?_
  refine va_sld hx hb hX hbl hbA hS h2 d_La_law_1119 ?_
  refine lv_aload_n hx hb d_La_law_1120 rfl (lv_at hl 0 rfl) ?_
  refine lv_iload hx hb d_La_law_1121 (lv_at hl 4 rfl) ?_
  refine lv_iconst (v := 3) hx hb d_La_law_1123 (by decide) ?_
  refine lv_iadd hx hb d_La_law_1124 ?_
  refine va_sld hx hb hX hbl hbA hS h3 d_La_law_1125 ?_
  refine lv_aload_n hx hb d_La_law_1126 rfl (lv_at hl 3 rfl) ?_
  refine ka_i (vx_runSW (As := [.ref (A 0), .int (xs (x4 + 1).toNatClampNeg), .int (xs (x4 + 2).toNatClampNeg), .int (xs (x4 + 3).toNatClampNeg), .ref (A 63)]) (rest := []) S9 (c_La_login_err l hl9 D A (MW A ρ []) f _ σ (xs (x4 + 1).toNatClampNeg) (xs (x4 + 2).toNatClampNeg) (xs (x4 + 3).toNatClampNeg) k hk u e1) (vx_cwSW 5 hts (tg_SW wl_La_151 ws_La_login wi_La wo_La_login) rfl rfl rfl wq_La_login.2 ⟨Nat.le_of_ble_eq_true rfl, Nat.le_of_ble_eq_true rfl⟩) (ka_preC X9 hC hP hD hS) rfl rfl hl.1 rfl (lv_room (Nat.le_of_ble_eq_true rfl)) d_La_law_1127 ⟨hc, hsl⟩) X9 hD hS rfl (fun H locs hP hD hS => ?_)
  refine lv_istore (lv' := (5, .int (nI k)) :: [(0, .ref b), (1, .ref (A 0)), (2, .ref (A 60)), (3, .ref (A 63)), (4, .int x4)]) hx hb d_La_law_1130 hl (by decide) rfl (fun ls hl => ?_)
  refine lv_aload_n hx hb d_La_law_1132 rfl (lv_at hl 3 rfl) ?_
  refine lv_aload_n hx hb d_La_law_1133 rfl (lv_at hl 1 rfl) ?_
  refine lv_iload hx hb d_La_law_1134 (lv_at hl 5 rfl) ?_
  refine lv_iconst (v := 1) hx hb d_La_law_1136 (by decide) ?_
  refine lv_iadd hx hb d_La_law_1137 ?_
  refine va_sld hx hb hX hbl hbA hS h1 d_La_law_1138 ?_
  refine lv_aload_n hx hb d_La_law_1139 rfl (lv_at hl 1 rfl) ?_
  refine lv_iload hx hb d_La_law_1140 (lv_at hl 5 rfl) ?_
  refine lv_iconst (v := 2) hx hb d_La_law_1142 (by decide) ?_
  refine lv_iadd hx hb d_La_law_1143 ?_
  refine va_sld hx hb hX hbl hbA hS h2 d_La_law_1144 ?_
  refine lv_aload_n hx hb d_La_law_1145 rfl (lv_at hl 1 rfl) ?_
  refine lv_iload hx hb d_La_law_1146 (lv_at hl 5 rfl) ?_
  refine lv_iconst (v := 3) hx hb d_La_law_1148 (by decide) ?_
  refine lv_iadd hx hb d_La_law_1149 ?_
  refine va_sld hx hb hX hbl hbA hS h3 d_La_law_1150 ?_
  replace hP := kp_P (kp_perm A u ρ f) hP
  replace hD := kp_D (kp_perm A u ρ f) hD
  refine ka_i (va_runV (As := [.int (xs (x4 + 1).toNatClampNeg), .int (xs (x4 + 2).toNatClampNeg), .int (xs (x4 + 3).toNatClampNeg)]) (rest := []) S9 (c_Mo_login l hl9 D A (GW A u [ka_oc A f]) _ ρ (xs (x4 + 1).toNatClampNeg) (xs (x4 + 2).toNatClampNeg) (xs (x4 + 3).toNatClampNeg) z e2) (cwV 3 hts (tg_V wl_La_153 wm_Mo_login we_Mo_login wi_Mo wo_Mo_login) rfl rfl rfl wq_Mo_login ⟨Nat.le_of_ble_eq_true rfl, Nat.le_of_ble_eq_true rfl⟩) (ka_preV X9 hP hD hS 0 rfl rfl) rfl rfl hl.1 rfl (lv_room (Nat.le_of_ble_eq_true rfl)) d_La_law_1151 ⟨hc, hsl⟩) X9 hD hS rfl (fun H locs hP hD hS => ?_)
  refine lv_istore (lv' := (6, .int z.1) :: (5, .int (nI k)) :: [(0, .ref b), (1, .ref (A 0)), (2, .ref (A 60)), (3, .ref (A 63)), (4, .int x4)]) hx hb d_La_law_1154 hl (by decide) rfl (fun ls hl => ?_)
  replace hP := kp_P (kp_perm A u z.2 f).symm hP
  replace hD := kp_D (kp_perm A u z.2 f).symm hD
  refine lv_goto (tgt := 1460) hx hb d_La_law_1156 (by decide) ?_
  refine W.widen (k := cells + 1) (n := slots + 6) (by omega) (by omega) ?_
  exact kk u z.2 f _ _ _ hI hP hD hS (lv_sub hl [2, 3, 4, 5, 6] rfl)
set_option maxRecDepth 100000 in
set_option maxHeartbeats 4000000 in
theorem lc_17 {p : Program} {l : Launch} {e : Env} {s : State} {m : MethodId} {below : List Frame} {meth : Method} {c : Code} {b L : Nat} {xs : Nat → Int32} {D : va_G} {A : Nat → Nat} (I : KS → RS → Prop) (X : lx_ p l s m meth c b L xs D A) {cells slots : Nat} (hc : cells + 1 ≤ room_1.cells) (hsl : slots + 6 ≤ room_1.slots) (x4 : Int32) (h1 : vp_in (x4 + 1) L) (h2 : vp_in (x4 + 2) L) (h3 : vp_in (x4 + 3) L) (h4 : vp_in (x4 + 4) L) (σ : KS) (ρ : RS) (f : Nat → Int64) (sim : ∀ x1 x2 x3 x4 : Int32, (∃ (v : Int32) (u : KS) (z : Int32 × RS), f_Ke_file σ x1 x2 x3 x4 = some (.ok v, u) ∧ f_Mo_file ρ x1 x2 x3 x4 = some z ∧ I u z.2) ∨ (∃ (k : Nat) (u : KS) (z : Int32 × RS), (k = 1 ∨ k = 2 ∨ k = 3 ∨ k = 4) ∧ f_Ke_file σ x1 x2 x3 x4 = some (.error k, u) ∧ f_Mo_file ρ x1 x2 x3 x4 = some z ∧ I u z.2)) {H : Heap} {locs : List Loc} {ls : Array Slot} (hP : va_P D vwCl (kp_C A σ ρ f) H) (hD : va_D (fun q : Nat => s.heap.size ≤ q) (kp_C A σ ρ f)) (hS : va_S (fun q : Nat => s.heap.size ≤ q) s.heap H locs) (hl : lv_has ls 7 [(0, .ref b), (1, .ref (A 0)), (2, .ref (A 60)), (3, .ref (A 63)), (4, .int x4)])
    (kk : ∀ (u : KS) (ρ1 : RS) (f1 : Nat → Int64) (H : Heap) (locs : List Loc) (ls : Array Slot), I u ρ1 → va_P D vwCl (kp_C A u ρ1 f1) H → va_D (fun q : Nat => s.heap.size ≤ q) (kp_C A u ρ1 f1) → va_S (fun q : Nat => s.heap.size ≤ q) s.heap H locs → lv_has ls 7 [(0, .ref b), (1, .ref (A 0)), (2, .ref (A 60)), (3, .ref (A 63)), (4, .int x4)] → W p l e room_1 s m #[Value.ref b] below meth c H locs (cells + 1) (slots + 6) (lw_Z below #[Value.ref b] s) (F0 m 1460 ls [])) : W p l e room_1 s m #[Value.ref b] below meth c H locs cells slots (lw_Z below #[Value.ref b] s) (F0 m 1159 ls []) := by
  obtain ⟨hl9, S9, hX, hbl, hlk, hr, hC, X9⟩ := X
  obtain ⟨hx, hb, hml, hown, hts⟩ := id S9
  have hK := X9.2.1
  have hbA : ¬ (fun q : Nat => s.heap.size ≤ q) b := Nat.not_le.mpr hbl
  rcases sim (xs (x4 + 1).toNatClampNeg) (xs (x4 + 2).toNatClampNeg) (xs (x4 + 3).toNatClampNeg) (xs (x4 + 4).toNatClampNeg) with ⟨v, u, z, e1, e2, hI⟩ | ⟨k, u, z, hk, e1, e2, hI⟩
  · refine lv_aload_n hx hb d_La_law_1159 rfl (lv_at hl 1 rfl) ?_
    refine lv_aload_n hx hb d_La_law_1160 rfl (lv_at hl 0 rfl) ?_
    refine lv_iload hx hb d_La_law_1161 (lv_at hl 4 rfl) ?_
    refine lv_iconst (v := 1) hx hb d_La_law_1163 (by decide) ?_
    refine lv_iadd hx hb d_La_law_1164 ?_
    refine va_sld hx hb hX hbl hbA hS h1 d_La_law_1165 ?_
    refine lv_aload_n hx hb d_La_law_1166 rfl (lv_at hl 0 rfl) ?_
    refine lv_iload hx hb d_La_law_1167 (lv_at hl 4 rfl) ?_
    refine lv_iconst (v := 2) hx hb d_La_law_1169 (by decide) ?_
    refine lv_iadd hx hb d_La_law_1170 ?_
    refine va_sld hx hb hX hbl hbA hS h2 d_La_law_1171 ?_
    refine lv_aload_n hx hb d_La_law_1172 rfl (lv_at hl 0 rfl) ?_
    refine lv_iload hx hb d_La_law_1173 (lv_at hl 4 rfl) ?_
    refine lv_iconst (v := 3) hx hb d_La_law_1175 (by decide) ?_
    refine lv_iadd hx hb d_La_law_1176 ?_
    refine va_sld hx hb hX hbl hbA hS h3 d_La_law_1177 ?_
    refine lv_aload_n hx hb d_La_law_1178 rfl (lv_at hl 0 rfl) ?_
    refine lv_iload hx hb d_La_law_1179 (lv_at hl 4 rfl) ?_
    refine lv_iconst (v := 4) hx hb d_La_law_1181 (by decide) ?_
    refine lv_iadd hx hb d_La_law_1182 ?_
    refine va_sld hx hb hX hbl hbA hS h4 d_La_law_1183 ?_
    refine lv_aload_n hx hb d_La_law_1184 rfl (lv_at hl 3 rfl) ?_
    refine ka_i (vx_runSW (As := [.ref (A 0), .int (xs (x4 + 1).toNatClampNeg), .int (xs (x4 + 2).toNatClampNeg), .int (xs (x4 + 3).toNatClampNeg), .int (xs (x4 + 4).toNatClampNeg), .ref (A 63)]) (rest := []) S9 (c_La_file_ok l hl9 D A (MW A ρ []) f _ σ (xs (x4 + 1).toNatClampNeg) (xs (x4 + 2).toNatClampNeg) (xs (x4 + 3).toNatClampNeg) (xs (x4 + 4).toNatClampNeg) v u e1) (vx_cwSW 6 hts (tg_SW wl_La_154 ws_La_file wi_La wo_La_file) rfl rfl rfl wq_La_file.2 ⟨Nat.le_of_ble_eq_true rfl, Nat.le_of_ble_eq_true rfl⟩) (ka_preC X9 hC hP hD hS) rfl rfl hl.1 rfl (lv_room (Nat.le_of_ble_eq_true rfl)) d_La_law_1185 ⟨Nat.le_trans (Nat.le_succ _) hc, Nat.le_trans (Nat.le_add_right _ 6) hsl⟩) X9 hD hS rfl (fun H locs hP hD hS => ?_)
    refine lv_istore (lv' := (5, .int 0) :: [(0, .ref b), (1, .ref (A 0)), (2, .ref (A 60)), (3, .ref (A 63)), (4, .int x4)]) hx hb d_La_law_1188 hl (by decide) rfl (fun ls hl => ?_)
    refine lv_aload_n hx hb d_La_law_1190 rfl (lv_at hl 3 rfl) ?_
    refine lv_aload_n hx hb d_La_law_1191 rfl (lv_at hl 1 rfl) ?_
    refine lv_iload hx hb d_La_law_1192 (lv_at hl 5 rfl) ?_
    refine lv_iconst (v := 1) hx hb d_La_law_1194 (by decide) ?_
    refine lv_iadd hx hb d_La_law_1195 ?_
    refine va_sld hx hb hX hbl hbA hS h1 d_La_law_1196 ?_
    refine lv_aload_n hx hb d_La_law_1197 rfl (lv_at hl 1 rfl) ?_
    refine lv_iload hx hb d_La_law_1198 (lv_at hl 5 rfl) ?_
    refine lv_iconst (v := 2) hx hb d_La_law_1200 (by decide) ?_
    refine lv_iadd hx hb d_La_law_1201 ?_
    refine va_sld hx hb hX hbl hbA hS h2 d_La_law_1202 ?_
    refine lv_aload_n hx hb d_La_law_1203 rfl (lv_at hl 1 rfl) ?_
    refine lv_iload hx hb d_La_law_1204 (lv_at hl 5 rfl) ?_
    refine lv_iconst (v := 3) hx hb d_La_law_1206 (by decide) ?_
    refine lv_iadd hx hb d_La_law_1207 ?_
    refine va_sld hx hb hX hbl hbA hS h3 d_La_law_1208 ?_
    refine lv_aload_n hx hb d_La_law_1209 rfl (lv_at hl 1 rfl) ?_
    refine lv_iload hx hb d_La_law_1210 (lv_at hl 5 rfl) ?_
    refine lv_iconst (v := 4) hx hb d_La_law_1212 (by decide) ?_
    refine lv_iadd hx hb d_La_law_1213 ?_
    refine va_sld hx hb hX hbl hbA hS h4 d_La_law_1214 ?_
    replace hP := kp_P (kp_perm A u ρ (vp_updL f 0 v.toInt64)) hP
    replace hD := kp_D (kp_perm A u ρ (vp_updL f 0 v.toInt64)) hD
    refine ka_i (va_runV (As := [.int (xs (x4 + 1).toNatClampNeg), .int (xs (x4 + 2).toNatClampNeg), .int (xs (x4 + 3).toNatClampNeg), .int (xs (x4 + 4).toNatClampNeg)]) (rest := []) S9 (c_Mo_file l hl9 D A (GW A u [ka_oc A (vp_updL f 0 v.toInt64)]) _ ρ (xs (x4 + 1).toNatClampNeg) (xs (x4 + 2).toNatClampNeg) (xs (x4 + 3).toNatClampNeg) (xs (x4 + 4).toNatClampNeg) z e2) (cwV 4 hts (tg_V wl_La_156 wm_Mo_file we_Mo_file wi_Mo wo_Mo_file) rfl rfl rfl wq_Mo_file ⟨Nat.le_of_ble_eq_true rfl, Nat.le_of_ble_eq_true rfl⟩) (ka_preV X9 hP hD hS 0 rfl rfl) rfl rfl hl.1 rfl (lv_room (Nat.le_of_ble_eq_true rfl)) d_La_law_1215 ⟨Nat.le_trans (Nat.le_succ _) hc, Nat.le_trans (Nat.le_add_right _ 6) hsl⟩) X9 hD hS rfl (fun H locs hP hD hS => ?_)
    refine lv_istore (lv' := (6, .int z.1) :: (5, .int 0) :: [(0, .ref b), (1, .ref (A 0)), (2, .ref (A 60)), (3, .ref (A 63)), (4, .int x4)]) hx hb d_La_law_1218 hl (by decide) rfl (fun ls hl => ?_)
    replace hP := kp_P (kp_perm A u z.2 (vp_updL f 0 v.toInt64)).symm hP
    replace hD := kp_D (kp_perm A u z.2 (vp_updL f 0 v.toInt64)).symm hD
    refine lv_goto (tgt := 1460) hx hb d_La_law_1220 (by decide) ?_
    refine W.widen (k := cells + 1) (n := slots + 6) (by omega) (by omega) ?_
    exact kk u z.2 (vp_updL f 0 v.toInt64) _ _ _ hI hP hD hS (lv_sub hl [2, 3, 4, 5, 6] rfl)
  refine lv_aload_n hx hb d_La_law_1159 rfl (lv_at hl 1 rfl) ?_
  refine lv_aload_n hx hb d_La_law_1160 rfl (lv_at hl 0 rfl) ?_
  refine lv_iload hx hb d_La_law_1161 (lv_at hl 4 rfl) ?_
  refine lv_iconst (v := 1) hx hb d_La_law_1163 (by decide) ?_
  refine lv_iadd hx hb d_La_law_1164 ?_
  refine va_sld hx hb hX hbl hbA hS h1 d_La_law_1165 ?_
  refine lv_aload_n hx hb d_La_law_1166 rfl (lv_at hl 0 rfl) ?_
  refine lv_iload hx hb d_La_law_1167 (lv_at hl 4 rfl) ?_
  refine lv_iconst (v := 2) hx hb d_La_law_1169 (by decide) ?_
  refine lv_iadd hx hb d_La_law_1170 ?_
  refine va_sld hx hb hX hbl hbA hS h2 d_La_law_1171 ?_
  refine lv_aload_n hx hb d_La_law_1172 rfl (lv_at hl 0 rfl) ?_
  refine lv_iload hx hb d_La_law_1173 (lv_at hl 4 rfl) ?_
  refine lv_iconst (v := 3) hx hb d_La_law_1175 (by decide) ?_
  refine lv_iadd hx hb d_La_law_1176 ?_
  refine va_sld hx hb hX hbl hbA hS h3 d_La_law_1177 ?_
  refine lv_aload_n hx hb d_La_law_1178 rfl (lv_at hl 0 rfl) ?_
  refine lv_iload hx hb d_La_law_1179 (lv_at hl 4 rfl) ?_
  refine lv_iconst (v := 4) hx hb d_La_law_1181 (by decide) ?_
  refine lv_iadd hx hb d_La_law_1182 ?_
  refine va_sld hx hb hX hbl hbA hS h4 d_La_law_1183 ?_
  refine lv_aload_n hx hb d_La_law_1184 rfl (lv_at hl 3 rfl) ?_
  refine ka_i (vx_runSW (As := [.ref (A 0), .int (xs (x4 + 1).toNatClampNeg), .int (xs (x4 + 2).toNatClampNeg), .int (xs (x4 + 3).toNatClampNeg), .int (xs (x4 + 4).toNatClampNeg), .ref (A 63)]) (rest := []) S9 (c_La_file_err l hl9 D A (MW A ρ []) f _ σ (xs (x4 + 1).toNatClampNeg) (xs (x4 + 2).toNatClampNeg) (xs (x4 + 3).toNatClampNeg) (xs (x4 + 4).toNatClampNeg) k hk u e1) (vx_cwSW 6 hts (tg_SW wl_La_154 ws_La_file wi_La wo_La_file) rfl rfl rfl wq_La_file.2 ⟨Nat.le_of_ble_eq_true rfl, Nat.le_of_ble_eq_true rfl⟩) (ka_preC X9 hC hP hD hS) rfl rfl hl.1 rfl (lv_room (Nat.le_of_ble_eq_true rfl)) d_La_law_1185 ⟨hc, hsl⟩) X9 hD hS rfl (fun H locs hP hD hS => ?_)
  refine lv_istore (lv' := (5, .int (nI k)) :: [(0, .ref b), (1, .ref (A 0)), (2, .ref (A 60)), (3, .ref (A 63)), (4, .int x4)]) hx hb d_La_law_1188 hl (by decide) rfl (fun ls hl => ?_)
  refine lv_aload_n hx hb d_La_law_1190 rfl (lv_at hl 3 rfl) ?_
  refine lv_aload_n hx hb d_La_law_1191 rfl (lv_at hl 1 rfl) ?_
  refine lv_iload hx hb d_La_law_1192 (lv_at hl 5 rfl) ?_
  refine lv_iconst (v := 1) hx hb d_La_law_1194 (by decide) ?_
  refine lv_iadd hx hb d_La_law_1195 ?_
  refine va_sld hx hb hX hbl hbA hS h1 d_La_law_1196 ?_
  refine lv_aload_n hx hb d_La_law_1197 rfl (lv_at hl 1 rfl) ?_
  refine lv_iload hx hb d_La_law_1198 (lv_at hl 5 rfl) ?_
  refine lv_iconst (v := 2) hx hb d_La_law_1200 (by decide) ?_
  refine lv_iadd hx hb d_La_law_1201 ?_
  refine va_sld hx hb hX hbl hbA hS h2 d_La_law_1202 ?_
  refine lv_aload_n hx hb d_La_law_1203 rfl (lv_at hl 1 rfl) ?_
  refine lv_iload hx hb d_La_law_1204 (lv_at hl 5 rfl) ?_
  refine lv_iconst (v := 3) hx hb d_La_law_1206 (by decide) ?_
  refine lv_iadd hx hb d_La_law_1207 ?_
  refine va_sld hx hb hX hbl hbA hS h3 d_La_law_1208 ?_
  refine lv_aload_n hx hb d_La_law_1209 rfl (lv_at hl 1 rfl) ?_
  refine lv_iload hx hb d_La_law_1210 (lv_at hl 5 rfl) ?_
  refine lv_iconst (v := 4) hx hb d_La_law_1212 (by decide) ?_
  refine lv_iadd hx hb d_La_law_1213 ?_
  refine va_sld hx hb hX hbl hbA hS h4 d_La_law_1214 ?_
  replace hP := kp_P (kp_perm A u ρ f) hP
  replace hD := kp_D (kp_perm A u ρ f) hD
  refine ka_i (va_runV (As := [.int (xs (x4 + 1).toNatClampNeg), .int (xs (x4 + 2).toNatClampNeg), .int (xs (x4 + 3).toNatClampNeg), .int (xs (x4 + 4).toNatClampNeg)]) (rest := []) S9 (c_Mo_file l hl9 D A (GW A u [ka_oc A f]) _ ρ (xs (x4 + 1).toNatClampNeg) (xs (x4 + 2).toNatClampNeg) (xs (x4 + 3).toNatClampNeg) (xs (x4 + 4).toNatClampNeg) z e2) (cwV 4 hts (tg_V wl_La_156 wm_Mo_file we_Mo_file wi_Mo wo_Mo_file) rfl rfl rfl wq_Mo_file ⟨Nat.le_of_ble_eq_true rfl, Nat.le_of_ble_eq_true rfl⟩) (ka_preV X9 hP hD hS 0 rfl rfl) rfl rfl hl.1 rfl (lv_room (Nat.le_of_ble_eq_true rfl)) d_La_law_1215 ⟨hc, hsl⟩) X9 hD hS rfl (fun H locs hP hD hS => ?_)
  refine lv_istore (lv' := (6, .int z.1) :: (5, .int (nI k)) :: [(0, .ref b), (1, .ref (A 0)), (2, .ref (A 60)), (3, .ref (A 63)), (4, .int x4)]) hx hb d_La_law_1218 hl (by decide) rfl (fun ls hl => ?_)
  replace hP := kp_P (kp_perm A u z.2 f).symm hP
  replace hD := kp_D (kp_perm A u z.2 f).symm hD
  refine lv_goto (tgt := 1460) hx hb d_La_law_1220 (by decide) ?_
  refine W.widen (k := cells + 1) (n := slots + 6) (by omega) (by omega) ?_
  exact kk u z.2 f _ _ _ hI hP hD hS (lv_sub hl [2, 3, 4, 5, 6] rfl)
set_option maxRecDepth 100000 in
set_option maxHeartbeats 4000000 in
theorem lc_18 {p : Program} {l : Launch} {e : Env} {s : State} {m : MethodId} {below : List Frame} {meth : Method} {c : Code} {b L : Nat} {xs : Nat → Int32} {D : va_G} {A : Nat → Nat} (I : KS → RS → Prop) (X : lx_ p l s m meth c b L xs D A) {cells slots : Nat} (hc : cells + 1 ≤ room_1.cells) (hsl : slots + 6 ≤ room_1.slots) (x4 : Int32) (h1 : vp_in (x4 + 1) L) (h2 : vp_in (x4 + 2) L) (h3 : vp_in (x4 + 3) L) (h4 : vp_in (x4 + 4) L) (h5 : vp_in (x4 + 5) L) (h6 : vp_in (x4 + 6) L) (σ : KS) (ρ : RS) (f : Nat → Int64) (sim : ∀ x1 x2 x3 x4 x5 x6 : Int32, (∃ (v : Int32) (u : KS) (z : Int32 × RS), f_Ke_access σ x1 x2 x3 x4 x5 x6 = some (.ok v, u) ∧ f_Mo_access ρ x1 x2 x3 x4 x5 x6 = some z ∧ I u z.2) ∨ (∃ (k : Nat) (u : KS) (z : Int32 × RS), (k = 1 ∨ k = 2 ∨ k = 3 ∨ k = 4) ∧ f_Ke_access σ x1 x2 x3 x4 x5 x6 = some (.error k, u) ∧ f_Mo_access ρ x1 x2 x3 x4 x5 x6 = some z ∧ I u z.2)) {H : Heap} {locs : List Loc} {ls : Array Slot} (hP : va_P D vwCl (kp_C A σ ρ f) H) (hD : va_D (fun q : Nat => s.heap.size ≤ q) (kp_C A σ ρ f)) (hS : va_S (fun q : Nat => s.heap.size ≤ q) s.heap H locs) (hl : lv_has ls 7 [(0, .ref b), (1, .ref (A 0)), (2, .ref (A 60)), (3, .ref (A 63)), (4, .int x4)])
    (kk : ∀ (u : KS) (ρ1 : RS) (f1 : Nat → Int64) (H : Heap) (locs : List Loc) (ls : Array Slot), I u ρ1 → va_P D vwCl (kp_C A u ρ1 f1) H → va_D (fun q : Nat => s.heap.size ≤ q) (kp_C A u ρ1 f1) → va_S (fun q : Nat => s.heap.size ≤ q) s.heap H locs → lv_has ls 7 [(0, .ref b), (1, .ref (A 0)), (2, .ref (A 60)), (3, .ref (A 63)), (4, .int x4)] → W p l e room_1 s m #[Value.ref b] below meth c H locs (cells + 1) (slots + 6) (lw_Z below #[Value.ref b] s) (F0 m 1460 ls [])) : W p l e room_1 s m #[Value.ref b] below meth c H locs cells slots (lw_Z below #[Value.ref b] s) (F0 m 1223 ls []) := by
  obtain ⟨hl9, S9, hX, hbl, hlk, hr, hC, X9⟩ := X
  obtain ⟨hx, hb, hml, hown, hts⟩ := id S9
  have hK := X9.2.1
  have hbA : ¬ (fun q : Nat => s.heap.size ≤ q) b := Nat.not_le.mpr hbl
  by_cases cb : xs (x4 + 5).toNatClampNeg = 0
  · rcases sim (xs (x4 + 1).toNatClampNeg) (xs (x4 + 2).toNatClampNeg) (xs (x4 + 3).toNatClampNeg) (xs (x4 + 4).toNatClampNeg) 0 (xs (x4 + 6).toNatClampNeg) with ⟨v, u, z, e1, e2, hI⟩ | ⟨k, u, z, hk, e1, e2, hI⟩
    · refine lv_aload_n hx hb d_La_law_1223 rfl (lv_at hl 1 rfl) ?_
      refine lv_aload_n hx hb d_La_law_1224 rfl (lv_at hl 0 rfl) ?_
      refine lv_iload hx hb d_La_law_1225 (lv_at hl 4 rfl) ?_
      refine lv_iconst (v := 1) hx hb d_La_law_1227 (by decide) ?_
      refine lv_iadd hx hb d_La_law_1228 ?_
      refine va_sld hx hb hX hbl hbA hS h1 d_La_law_1229 ?_
      refine lv_aload_n hx hb d_La_law_1230 rfl (lv_at hl 0 rfl) ?_
      refine lv_iload hx hb d_La_law_1231 (lv_at hl 4 rfl) ?_
      refine lv_iconst (v := 2) hx hb d_La_law_1233 (by decide) ?_
      refine lv_iadd hx hb d_La_law_1234 ?_
      refine va_sld hx hb hX hbl hbA hS h2 d_La_law_1235 ?_
      refine lv_aload_n hx hb d_La_law_1236 rfl (lv_at hl 0 rfl) ?_
      refine lv_iload hx hb d_La_law_1237 (lv_at hl 4 rfl) ?_
      refine lv_iconst (v := 3) hx hb d_La_law_1239 (by decide) ?_
      refine lv_iadd hx hb d_La_law_1240 ?_
      refine va_sld hx hb hX hbl hbA hS h3 d_La_law_1241 ?_
      refine lv_aload_n hx hb d_La_law_1242 rfl (lv_at hl 0 rfl) ?_
      refine lv_iload hx hb d_La_law_1243 (lv_at hl 4 rfl) ?_
      refine lv_iconst (v := 4) hx hb d_La_law_1245 (by decide) ?_
      refine lv_iadd hx hb d_La_law_1246 ?_
      refine va_sld hx hb hX hbl hbA hS h4 d_La_law_1247 ?_
      refine lv_aload_n hx hb d_La_law_1248 rfl (lv_at hl 0 rfl) ?_
      refine lv_iload hx hb d_La_law_1249 (lv_at hl 4 rfl) ?_
      refine lv_iconst (v := 5) hx hb d_La_law_1251 (by decide) ?_
      refine lv_iadd hx hb d_La_law_1252 ?_
      refine va_sld hx hb hX hbl hbA hS h5 d_La_law_1253 ?_
      refine lv_if_eq (tgt := 1261) hx hb d_La_law_1254 (by decide) (fun _ => ?_) (fun c9 => absurd cb c9)
      refine lv_iconst (v := 0) hx hb d_La_law_1261 (by decide) ?_
      refine lv_aload_n hx hb d_La_law_1262 rfl (lv_at hl 0 rfl) ?_
      refine lv_iload hx hb d_La_law_1263 (lv_at hl 4 rfl) ?_
      refine lv_bipush (v := 6) hx hb d_La_law_1265 (by decide) ?_
      refine lv_iadd hx hb d_La_law_1267 ?_
      refine va_sld hx hb hX hbl hbA hS h6 d_La_law_1268 ?_
      refine lv_aload_n hx hb d_La_law_1269 rfl (lv_at hl 3 rfl) ?_
      refine ka_i (vx_runSW (As := [.ref (A 0), .int (xs (x4 + 1).toNatClampNeg), .int (xs (x4 + 2).toNatClampNeg), .int (xs (x4 + 3).toNatClampNeg), .int (xs (x4 + 4).toNatClampNeg), .int 0, .int (xs (x4 + 6).toNatClampNeg), .ref (A 63)]) (rest := []) S9 (c_La_access_ok l hl9 D A (MW A ρ []) f _ σ (xs (x4 + 1).toNatClampNeg) (xs (x4 + 2).toNatClampNeg) (xs (x4 + 3).toNatClampNeg) (xs (x4 + 4).toNatClampNeg) 0 (xs (x4 + 6).toNatClampNeg) v u e1) (vx_cwSW 8 hts (tg_SW wl_La_157 ws_La_access wi_La wo_La_access) rfl rfl rfl wq_La_access.2 ⟨Nat.le_of_ble_eq_true rfl, Nat.le_of_ble_eq_true rfl⟩) (ka_preC X9 hC hP hD hS) rfl rfl hl.1 rfl (lv_room (Nat.le_of_ble_eq_true rfl)) d_La_law_1270 ⟨Nat.le_trans (Nat.le_succ _) hc, Nat.le_trans (Nat.le_add_right _ 6) hsl⟩) X9 hD hS rfl (fun H locs hP hD hS => ?_)
      refine lv_istore (lv' := (5, .int 0) :: [(0, .ref b), (1, .ref (A 0)), (2, .ref (A 60)), (3, .ref (A 63)), (4, .int x4)]) hx hb d_La_law_1273 hl (by decide) rfl (fun ls hl => ?_)
      refine lv_aload_n hx hb d_La_law_1275 rfl (lv_at hl 3 rfl) ?_
      refine lv_aload_n hx hb d_La_law_1276 rfl (lv_at hl 1 rfl) ?_
      refine lv_iload hx hb d_La_law_1277 (lv_at hl 5 rfl) ?_
      refine lv_iconst (v := 1) hx hb d_La_law_1279 (by decide) ?_
      refine lv_iadd hx hb d_La_law_1280 ?_
      refine va_sld hx hb hX hbl hbA hS h1 d_La_law_1281 ?_
      refine lv_aload_n hx hb d_La_law_1282 rfl (lv_at hl 1 rfl) ?_
      refine lv_iload hx hb d_La_law_1283 (lv_at hl 5 rfl) ?_
      refine lv_iconst (v := 2) hx hb d_La_law_1285 (by decide) ?_
      refine lv_iadd hx hb d_La_law_1286 ?_
      refine va_sld hx hb hX hbl hbA hS h2 d_La_law_1287 ?_
      refine lv_aload_n hx hb d_La_law_1288 rfl (lv_at hl 1 rfl) ?_
      refine lv_iload hx hb d_La_law_1289 (lv_at hl 5 rfl) ?_
      refine lv_iconst (v := 3) hx hb d_La_law_1291 (by decide) ?_
      refine lv_iadd hx hb d_La_law_1292 ?_
      refine va_sld hx hb hX hbl hbA hS h3 d_La_law_1293 ?_
      refine lv_aload_n hx hb d_La_law_1294 rfl (lv_at hl 1 rfl) ?_
      refine lv_iload hx hb d_La_law_1295 (lv_at hl 5 rfl) ?_
      refine lv_iconst (v := 4) hx hb d_La_law_1297 (by decide) ?_
      refine lv_iadd hx hb d_La_law_1298 ?_
      refine va_sld hx hb hX hbl hbA hS h4 d_La_law_1299 ?_
      refine lv_aload_n hx hb d_La_law_1300 rfl (lv_at hl 1 rfl) ?_
      refine lv_iload hx hb d_La_law_1301 (lv_at hl 5 rfl) ?_
      refine lv_iconst (v := 5) hx hb d_La_law_1303 (by decide) ?_
      refine lv_iadd hx hb d_La_law_1304 ?_
      refine va_sld hx hb hX hbl hbA hS h5 d_La_law_1305 ?_
      refine lv_if_eq (tgt := 1313) hx hb d_La_law_1306 (by decide) (fun _ => ?_) (fun c9 => absurd cb c9)
      refine lv_iconst (v := 0) hx hb d_La_law_1313 (by decide) ?_
      refine lv_aload_n hx hb d_La_law_1314 rfl (lv_at hl 1 rfl) ?_
      refine lv_iload hx hb d_La_law_1315 (lv_at hl 5 rfl) ?_
      refine lv_bipush (v := 6) hx hb d_La_law_1317 (by decide) ?_
      refine lv_iadd hx hb d_La_law_1319 ?_
      refine va_sld hx hb hX hbl hbA hS h6 d_La_law_1320 ?_
      replace hP := kp_P (kp_perm A u ρ (vp_updL f 0 v.toInt64)) hP
      replace hD := kp_D (kp_perm A u ρ (vp_updL f 0 v.toInt64)) hD
      refine ka_i (va_runV (As := [.int (xs (x4 + 1).toNatClampNeg), .int (xs (x4 + 2).toNatClampNeg), .int (xs (x4 + 3).toNatClampNeg), .int (xs (x4 + 4).toNatClampNeg), .int 0, .int (xs (x4 + 6).toNatClampNeg)]) (rest := []) S9 (c_Mo_access l hl9 D A (GW A u [ka_oc A (vp_updL f 0 v.toInt64)]) _ ρ (xs (x4 + 1).toNatClampNeg) (xs (x4 + 2).toNatClampNeg) (xs (x4 + 3).toNatClampNeg) (xs (x4 + 4).toNatClampNeg) 0 (xs (x4 + 6).toNatClampNeg) z e2) (cwV 6 hts (tg_V wl_La_160 wm_Mo_access we_Mo_access wi_Mo wo_Mo_access) rfl rfl rfl wq_Mo_access ⟨Nat.le_of_ble_eq_true rfl, Nat.le_of_ble_eq_true rfl⟩) (ka_preV X9 hP hD hS 0 rfl rfl) rfl rfl hl.1 rfl (lv_room (Nat.le_of_ble_eq_true rfl)) d_La_law_1321 ⟨Nat.le_trans (Nat.le_succ _) hc, Nat.le_trans (Nat.le_add_right _ 6) hsl⟩) X9 hD hS rfl (fun H locs hP hD hS => ?_)
      refine lv_istore (lv' := (6, .int z.1) :: (5, .int 0) :: [(0, .ref b), (1, .ref (A 0)), (2, .ref (A 60)), (3, .ref (A 63)), (4, .int x4)]) hx hb d_La_law_1324 hl (by decide) rfl (fun ls hl => ?_)
      replace hP := kp_P (kp_perm A u z.2 (vp_updL f 0 v.toInt64)).symm hP
      replace hD := kp_D (kp_perm A u z.2 (vp_updL f 0 v.toInt64)).symm hD
      refine lv_goto (tgt := 1460) hx hb d_La_law_1326 (by decide) ?_
      refine W.widen (k := cells + 1) (n := slots + 6) (by omega) (by omega) ?_
      exact kk u z.2 (vp_updL f 0 v.toInt64) _ _ _ hI hP hD hS (lv_sub hl [2, 3, 4, 5, 6] rfl)
    refine lv_aload_n hx hb d_La_law_1223 rfl (lv_at hl 1 rfl) ?_
    refine lv_aload_n hx hb d_La_law_1224 rfl (lv_at hl 0 rfl) ?_
    refine lv_iload hx hb d_La_law_1225 (lv_at hl 4 rfl) ?_
    refine lv_iconst (v := 1) hx hb d_La_law_1227 (by decide) ?_
    refine lv_iadd hx hb d_La_law_1228 ?_
    refine va_sld hx hb hX hbl hbA hS h1 d_La_law_1229 ?_
    refine lv_aload_n hx hb d_La_law_1230 rfl (lv_at hl 0 rfl) ?_
    refine lv_iload hx hb d_La_law_1231 (lv_at hl 4 rfl) ?_
    refine lv_iconst (v := 2) hx hb d_La_law_1233 (by decide) ?_
    refine lv_iadd hx hb d_La_law_1234 ?_
    refine va_sld hx hb hX hbl hbA hS h2 d_La_law_1235 ?_
    refine lv_aload_n hx hb d_La_law_1236 rfl (lv_at hl 0 rfl) ?_
    refine lv_iload hx hb d_La_law_1237 (lv_at hl 4 rfl) ?_
    refine lv_iconst (v := 3) hx hb d_La_law_1239 (by decide) ?_
    refine lv_iadd hx hb d_La_law_1240 ?_
    refine va_sld hx hb hX hbl hbA hS h3 d_La_law_1241 ?_
    refine lv_aload_n hx hb d_La_law_1242 rfl (lv_at hl 0 rfl) ?_
    refine lv_iload hx hb d_La_law_1243 (lv_at hl 4 rfl) ?_
    refine lv_iconst (v := 4) hx hb d_La_law_1245 (by decide) ?_
    refine lv_iadd hx hb d_La_law_1246 ?_
    refine va_sld hx hb hX hbl hbA hS h4 d_La_law_1247 ?_
    refine lv_aload_n hx hb d_La_law_1248 rfl (lv_at hl 0 rfl) ?_
    refine lv_iload hx hb d_La_law_1249 (lv_at hl 4 rfl) ?_
    refine lv_iconst (v := 5) hx hb d_La_law_1251 (by decide) ?_
    refine lv_iadd hx hb d_La_law_1252 ?_
    refine va_sld hx hb hX hbl hbA hS h5 d_La_law_1253 ?_
    refine lv_if_eq (tgt := 1261) hx hb d_La_law_1254 (by decide) (fun _ => ?_) (fun c9 => absurd cb c9)
    refine lv_iconst (v := 0) hx hb d_La_law_1261 (by decide) ?_
    refine lv_aload_n hx hb d_La_law_1262 rfl (lv_at hl 0 rfl) ?_
    refine lv_iload hx hb d_La_law_1263 (lv_at hl 4 rfl) ?_
    refine lv_bipush (v := 6) hx hb d_La_law_1265 (by decide) ?_
    refine lv_iadd hx hb d_La_law_1267 ?_
    refine va_sld hx hb hX hbl hbA hS h6 d_La_law_1268 ?_
    refine lv_aload_n hx hb d_La_law_1269 rfl (lv_at hl 3 rfl) ?_
    refine ka_i (vx_runSW (As := [.ref (A 0), .int (xs (x4 + 1).toNatClampNeg), .int (xs (x4 + 2).toNatClampNeg), .int (xs (x4 + 3).toNatClampNeg), .int (xs (x4 + 4).toNatClampNeg), .int 0, .int (xs (x4 + 6).toNatClampNeg), .ref (A 63)]) (rest := []) S9 (c_La_access_err l hl9 D A (MW A ρ []) f _ σ (xs (x4 + 1).toNatClampNeg) (xs (x4 + 2).toNatClampNeg) (xs (x4 + 3).toNatClampNeg) (xs (x4 + 4).toNatClampNeg) 0 (xs (x4 + 6).toNatClampNeg) k hk u e1) (vx_cwSW 8 hts (tg_SW wl_La_157 ws_La_access wi_La wo_La_access) rfl rfl rfl wq_La_access.2 ⟨Nat.le_of_ble_eq_true rfl, Nat.le_of_ble_eq_true rfl⟩) (ka_preC X9 hC hP hD hS) rfl rfl hl.1 rfl (lv_room (Nat.le_of_ble_eq_true rfl)) d_La_law_1270 ⟨hc, hsl⟩) X9 hD hS rfl (fun H locs hP hD hS => ?_)
    refine lv_istore (lv' := (5, .int (nI k)) :: [(0, .ref b), (1, .ref (A 0)), (2, .ref (A 60)), (3, .ref (A 63)), (4, .int x4)]) hx hb d_La_law_1273 hl (by decide) rfl (fun ls hl => ?_)
    refine lv_aload_n hx hb d_La_law_1275 rfl (lv_at hl 3 rfl) ?_
    refine lv_aload_n hx hb d_La_law_1276 rfl (lv_at hl 1 rfl) ?_
    refine lv_iload hx hb d_La_law_1277 (lv_at hl 5 rfl) ?_
    refine lv_iconst (v := 1) hx hb d_La_law_1279 (by decide) ?_
    refine lv_iadd hx hb d_La_law_1280 ?_
    refine va_sld hx hb hX hbl hbA hS h1 d_La_law_1281 ?_
    refine lv_aload_n hx hb d_La_law_1282 rfl (lv_at hl 1 rfl) ?_
    refine lv_iload hx hb d_La_law_1283 (lv_at hl 5 rfl) ?_
    refine lv_iconst (v := 2) hx hb d_La_law_1285 (by decide) ?_
    refine lv_iadd hx hb d_La_law_1286 ?_
    refine va_sld hx hb hX hbl hbA hS h2 d_La_law_1287 ?_
    refine lv_aload_n hx hb d_La_law_1288 rfl (lv_at hl 1 rfl) ?_
    refine lv_iload hx hb d_La_law_1289 (lv_at hl 5 rfl) ?_
    refine lv_iconst (v := 3) hx hb d_La_law_1291 (by decide) ?_
    refine lv_iadd hx hb d_La_law_1292 ?_
    refine va_sld hx hb hX hbl hbA hS h3 d_La_law_1293 ?_
    refine lv_aload_n hx hb d_La_law_1294 rfl (lv_at hl 1 rfl) ?_
    refine lv_iload hx hb d_La_law_1295 (lv_at hl 5 rfl) ?_
    refine lv_iconst (v := 4) hx hb d_La_law_1297 (by decide) ?_
    refine lv_iadd hx hb d_La_law_1298 ?_
    refine va_sld hx hb hX hbl hbA hS h4 d_La_law_1299 ?_
    refine lv_aload_n hx hb d_La_law_1300 rfl (lv_at hl 1 rfl) ?_
    refine lv_iload hx hb d_La_law_1301 (lv_at hl 5 rfl) ?_
    refine lv_iconst (v := 5) hx hb d_La_law_1303 (by decide) ?_
    refine lv_iadd hx hb d_La_law_1304 ?_
    refine va_sld hx hb hX hbl hbA hS h5 d_La_law_1305 ?_
    refine lv_if_eq (tgt := 1313) hx hb d_La_law_1306 (by decide) (fun _ => ?_) (fun c9 => absurd cb c9)
    refine lv_iconst (v := 0) hx hb d_La_law_1313 (by decide) ?_
    refine lv_aload_n hx hb d_La_law_1314 rfl (lv_at hl 1 rfl) ?_
    refine lv_iload hx hb d_La_law_1315 (lv_at hl 5 rfl) ?_
    refine lv_bipush (v := 6) hx hb d_La_law_1317 (by decide) ?_
    refine lv_iadd hx hb d_La_law_1319 ?_
    refine va_sld hx hb hX hbl hbA hS h6 d_La_law_1320 ?_
    replace hP := kp_P (kp_perm A u ρ f) hP
    replace hD := kp_D (kp_perm A u ρ f) hD
    refine ka_i (va_runV (As := [.int (xs (x4 + 1).toNatClampNeg), .int (xs (x4 + 2).toNatClampNeg), .int (xs (x4 + 3).toNatClampNeg), .int (xs (x4 + 4).toNatClampNeg), .int 0, .int (xs (x4 + 6).toNatClampNeg)]) (rest := []) S9 (c_Mo_access l hl9 D A (GW A u [ka_oc A f]) _ ρ (xs (x4 + 1).toNatClampNeg) (xs (x4 + 2).toNatClampNeg) (xs (x4 + 3).toNatClampNeg) (xs (x4 + 4).toNatClampNeg) 0 (xs (x4 + 6).toNatClampNeg) z e2) (cwV 6 hts (tg_V wl_La_160 wm_Mo_access we_Mo_access wi_Mo wo_Mo_access) rfl rfl rfl wq_Mo_access ⟨Nat.le_of_ble_eq_true rfl, Nat.le_of_ble_eq_true rfl⟩) (ka_preV X9 hP hD hS 0 rfl rfl) rfl rfl hl.1 rfl (lv_room (Nat.le_of_ble_eq_true rfl)) d_La_law_1321 ⟨hc, hsl⟩) X9 hD hS rfl (fun H locs hP hD hS => ?_)
    refine lv_istore (lv' := (6, .int z.1) :: (5, .int (nI k)) :: [(0, .ref b), (1, .ref (A 0)), (2, .ref (A 60)), (3, .ref (A 63)), (4, .int x4)]) hx hb d_La_law_1324 hl (by decide) rfl (fun ls hl => ?_)
    replace hP := kp_P (kp_perm A u z.2 f).symm hP
    replace hD := kp_D (kp_perm A u z.2 f).symm hD
    refine lv_goto (tgt := 1460) hx hb d_La_law_1326 (by decide) ?_
    refine W.widen (k := cells + 1) (n := slots + 6) (by omega) (by omega) ?_
    exact kk u z.2 f _ _ _ hI hP hD hS (lv_sub hl [2, 3, 4, 5, 6] rfl)
  rcases sim (xs (x4 + 1).toNatClampNeg) (xs (x4 + 2).toNatClampNeg) (xs (x4 + 3).toNatClampNeg) (xs (x4 + 4).toNatClampNeg) 1 (xs (x4 + 6).toNatClampNeg) with ⟨v, u, z, e1, e2, hI⟩ | ⟨k, u, z, hk, e1, e2, hI⟩
  · refine lv_aload_n hx hb d_La_law_1223 rfl (lv_at hl 1 rfl) ?_
    refine lv_aload_n hx hb d_La_law_1224 rfl (lv_at hl 0 rfl) ?_
    refine lv_iload hx hb d_La_law_1225 (lv_at hl 4 rfl) ?_
    refine lv_iconst (v := 1) hx hb d_La_law_1227 (by decide) ?_
    refine lv_iadd hx hb d_La_law_1228 ?_
    refine va_sld hx hb hX hbl hbA hS h1 d_La_law_1229 ?_
    refine lv_aload_n hx hb d_La_law_1230 rfl (lv_at hl 0 rfl) ?_
    refine lv_iload hx hb d_La_law_1231 (lv_at hl 4 rfl) ?_
    refine lv_iconst (v := 2) hx hb d_La_law_1233 (by decide) ?_
    refine lv_iadd hx hb d_La_law_1234 ?_
    refine va_sld hx hb hX hbl hbA hS h2 d_La_law_1235 ?_
    refine lv_aload_n hx hb d_La_law_1236 rfl (lv_at hl 0 rfl) ?_
    refine lv_iload hx hb d_La_law_1237 (lv_at hl 4 rfl) ?_
    refine lv_iconst (v := 3) hx hb d_La_law_1239 (by decide) ?_
    refine lv_iadd hx hb d_La_law_1240 ?_
    refine va_sld hx hb hX hbl hbA hS h3 d_La_law_1241 ?_
    refine lv_aload_n hx hb d_La_law_1242 rfl (lv_at hl 0 rfl) ?_
    refine lv_iload hx hb d_La_law_1243 (lv_at hl 4 rfl) ?_
    refine lv_iconst (v := 4) hx hb d_La_law_1245 (by decide) ?_
    refine lv_iadd hx hb d_La_law_1246 ?_
    refine va_sld hx hb hX hbl hbA hS h4 d_La_law_1247 ?_
    refine lv_aload_n hx hb d_La_law_1248 rfl (lv_at hl 0 rfl) ?_
    refine lv_iload hx hb d_La_law_1249 (lv_at hl 4 rfl) ?_
    refine lv_iconst (v := 5) hx hb d_La_law_1251 (by decide) ?_
    refine lv_iadd hx hb d_La_law_1252 ?_
    refine va_sld hx hb hX hbl hbA hS h5 d_La_law_1253 ?_
    refine lv_if_eq (tgt := 1261) hx hb d_La_law_1254 (by decide) (fun c9 => absurd c9 cb) (fun _ => ?_)
    refine lv_iconst (v := 1) hx hb d_La_law_1257 (by decide) ?_
    refine lv_goto (tgt := 1262) hx hb d_La_law_1258 (by decide) ?_
    refine lv_aload_n hx hb d_La_law_1262 rfl (lv_at hl 0 rfl) ?_
    refine lv_iload hx hb d_La_law_1263 (lv_at hl 4 rfl) ?_
    refine lv_bipush (v := 6) hx hb d_La_law_1265 (by decide) ?_
    refine lv_iadd hx hb d_La_law_1267 ?_
    refine va_sld hx hb hX hbl hbA hS h6 d_La_law_1268 ?_
    refine lv_aload_n hx hb d_La_law_1269 rfl (lv_at hl 3 rfl) ?_
    refine ka_i (vx_runSW (As := [.ref (A 0), .int (xs (x4 + 1).toNatClampNeg), .int (xs (x4 + 2).toNatClampNeg), .int (xs (x4 + 3).toNatClampNeg), .int (xs (x4 + 4).toNatClampNeg), .int 1, .int (xs (x4 + 6).toNatClampNeg), .ref (A 63)]) (rest := []) S9 (c_La_access_ok l hl9 D A (MW A ρ []) f _ σ (xs (x4 + 1).toNatClampNeg) (xs (x4 + 2).toNatClampNeg) (xs (x4 + 3).toNatClampNeg) (xs (x4 + 4).toNatClampNeg) 1 (xs (x4 + 6).toNatClampNeg) v u e1) (vx_cwSW 8 hts (tg_SW wl_La_157 ws_La_access wi_La wo_La_access) rfl rfl rfl wq_La_access.2 ⟨Nat.le_of_ble_eq_true rfl, Nat.le_of_ble_eq_true rfl⟩) (ka_preC X9 hC hP hD hS) rfl rfl hl.1 rfl (lv_room (Nat.le_of_ble_eq_true rfl)) d_La_law_1270 ⟨Nat.le_trans (Nat.le_succ _) hc, Nat.le_trans (Nat.le_add_right _ 6) hsl⟩) X9 hD hS rfl (fun H locs hP hD hS => ?_)
    refine lv_istore (lv' := (5, .int 0) :: [(0, .ref b), (1, .ref (A 0)), (2, .ref (A 60)), (3, .ref (A 63)), (4, .int x4)]) hx hb d_La_law_1273 hl (by decide) rfl (fun ls hl => ?_)
    refine lv_aload_n hx hb d_La_law_1275 rfl (lv_at hl 3 rfl) ?_
    refine lv_aload_n hx hb d_La_law_1276 rfl (lv_at hl 1 rfl) ?_
    refine lv_iload hx hb d_La_law_1277 (lv_at hl 5 rfl) ?_
    refine lv_iconst (v := 1) hx hb d_La_law_1279 (by decide) ?_
    refine lv_iadd hx hb d_La_law_1280 ?_
    refine va_sld hx hb hX hbl hbA hS h1 d_La_law_1281 ?_
    refine lv_aload_n hx hb d_La_law_1282 rfl (lv_at hl 1 rfl) ?_
    refine lv_iload hx hb d_La_law_1283 (lv_at hl 5 rfl) ?_
    refine lv_iconst (v := 2) hx hb d_La_law_1285 (by decide) ?_
    refine lv_iadd hx hb d_La_law_1286 ?_
    refine va_sld hx hb hX hbl hbA hS h2 d_La_law_1287 ?_
    refine lv_aload_n hx hb d_La_law_1288 rfl (lv_at hl 1 rfl) ?_
    refine lv_iload hx hb d_La_law_1289 (lv_at hl 5 rfl) ?_
    refine lv_iconst (v := 3) hx hb d_La_law_1291 (by decide) ?_
    refine lv_iadd hx hb d_La_law_1292 ?_
    refine va_sld hx hb hX hbl hbA hS h3 d_La_law_1293 ?_
    refine lv_aload_n hx hb d_La_law_1294 rfl (lv_at hl 1 rfl) ?_
    refine lv_iload hx hb d_La_law_1295 (lv_at hl 5 rfl) ?_
    refine lv_iconst (v := 4) hx hb d_La_law_1297 (by decide) ?_
    refine lv_iadd hx hb d_La_law_1298 ?_
    refine va_sld hx hb hX hbl hbA hS h4 d_La_law_1299 ?_
    refine lv_aload_n hx hb d_La_law_1300 rfl (lv_at hl 1 rfl) ?_
    refine lv_iload hx hb d_La_law_1301 (lv_at hl 5 rfl) ?_
    refine lv_iconst (v := 5) hx hb d_La_law_1303 (by decide) ?_
    refine lv_iadd hx hb d_La_law_1304 ?_
    refine va_sld hx hb hX hbl hbA hS h5 d_La_law_1305 ?_
    refine lv_if_eq (tgt := 1313) hx hb d_La_law_1306 (by decide) (fun c9 => absurd c9 cb) (fun _ => ?_)
    refine lv_iconst (v := 1) hx hb d_La_law_1309 (by decide) ?_
    refine lv_goto (tgt := 1314) hx hb d_La_law_1310 (by decide) ?_
    refine lv_aload_n hx hb d_La_law_1314 rfl (lv_at hl 1 rfl) ?_
    refine lv_iload hx hb d_La_law_1315 (lv_at hl 5 rfl) ?_
    refine lv_bipush (v := 6) hx hb d_La_law_1317 (by decide) ?_
    refine lv_iadd hx hb d_La_law_1319 ?_
    refine va_sld hx hb hX hbl hbA hS h6 d_La_law_1320 ?_
    replace hP := kp_P (kp_perm A u ρ (vp_updL f 0 v.toInt64)) hP
    replace hD := kp_D (kp_perm A u ρ (vp_updL f 0 v.toInt64)) hD
    refine ka_i (va_runV (As := [.int (xs (x4 + 1).toNatClampNeg), .int (xs (x4 + 2).toNatClampNeg), .int (xs (x4 + 3).toNatClampNeg), .int (xs (x4 + 4).toNatClampNeg), .int 1, .int (xs (x4 + 6).toNatClampNeg)]) (rest := []) S9 (c_Mo_access l hl9 D A (GW A u [ka_oc A (vp_updL f 0 v.toInt64)]) _ ρ (xs (x4 + 1).toNatClampNeg) (xs (x4 + 2).toNatClampNeg) (xs (x4 + 3).toNatClampNeg) (xs (x4 + 4).toNatClampNeg) 1 (xs (x4 + 6).toNatClampNeg) z e2) (cwV 6 hts (tg_V wl_La_160 wm_Mo_access we_Mo_access wi_Mo wo_Mo_access) rfl rfl rfl wq_Mo_access ⟨Nat.le_of_ble_eq_true rfl, Nat.le_of_ble_eq_true rfl⟩) (ka_preV X9 hP hD hS 0 rfl rfl) rfl rfl hl.1 rfl (lv_room (Nat.le_of_ble_eq_true rfl)) d_La_law_1321 ⟨Nat.le_trans (Nat.le_succ _) hc, Nat.le_trans (Nat.le_add_right _ 6) hsl⟩) X9 hD hS rfl (fun H locs hP hD hS => ?_)
    refine lv_istore (lv' := (6, .int z.1) :: (5, .int 0) :: [(0, .ref b), (1, .ref (A 0)), (2, .ref (A 60)), (3, .ref (A 63)), (4, .int x4)]) hx hb d_La_law_1324 hl (by decide) rfl (fun ls hl => ?_)
    replace hP := kp_P (kp_perm A u z.2 (vp_updL f 0 v.toInt64)).symm hP
    replace hD := kp_D (kp_perm A u z.2 (vp_updL f 0 v.toInt64)).symm hD
    refine lv_goto (tgt := 1460) hx hb d_La_law_1326 (by decide) ?_
    refine W.widen (k := cells + 1) (n := slots + 6) (by omega) (by omega) ?_
    exact kk u z.2 (vp_updL f 0 v.toInt64) _ _ _ hI hP hD hS (lv_sub hl [2, 3, 4, 5, 6] rfl)
  refine lv_aload_n hx hb d_La_law_1223 rfl (lv_at hl 1 rfl) ?_
  refine lv_aload_n hx hb d_La_law_1224 rfl (lv_at hl 0 rfl) ?_
  refine lv_iload hx hb d_La_law_1225 (lv_at hl 4 rfl) ?_
  refine lv_iconst (v := 1) hx hb d_La_law_1227 (by decide) ?_
  refine lv_iadd hx hb d_La_law_1228 ?_
  refine va_sld hx hb hX hbl hbA hS h1 d_La_law_1229 ?_
  refine lv_aload_n hx hb d_La_law_1230 rfl (lv_at hl 0 rfl) ?_
  refine lv_iload hx hb d_La_law_1231 (lv_at hl 4 rfl) ?_
  refine lv_iconst (v := 2) hx hb d_La_law_1233 (by decide) ?_
  refine lv_iadd hx hb d_La_law_1234 ?_
  refine va_sld hx hb hX hbl hbA hS h2 d_La_law_1235 ?_
  refine lv_aload_n hx hb d_La_law_1236 rfl (lv_at hl 0 rfl) ?_
  refine lv_iload hx hb d_La_law_1237 (lv_at hl 4 rfl) ?_
  refine lv_iconst (v := 3) hx hb d_La_law_1239 (by decide) ?_
  refine lv_iadd hx hb d_La_law_1240 ?_
  refine va_sld hx hb hX hbl hbA hS h3 d_La_law_1241 ?_
  refine lv_aload_n hx hb d_La_law_1242 rfl (lv_at hl 0 rfl) ?_
  refine lv_iload hx hb d_La_law_1243 (lv_at hl 4 rfl) ?_
  refine lv_iconst (v := 4) hx hb d_La_law_1245 (by decide) ?_
  refine lv_iadd hx hb d_La_law_1246 ?_
  refine va_sld hx hb hX hbl hbA hS h4 d_La_law_1247 ?_
  refine lv_aload_n hx hb d_La_law_1248 rfl (lv_at hl 0 rfl) ?_
  refine lv_iload hx hb d_La_law_1249 (lv_at hl 4 rfl) ?_
  refine lv_iconst (v := 5) hx hb d_La_law_1251 (by decide) ?_
  refine lv_iadd hx hb d_La_law_1252 ?_
  refine va_sld hx hb hX hbl hbA hS h5 d_La_law_1253 ?_
  refine lv_if_eq (tgt := 1261) hx hb d_La_law_1254 (by decide) (fun c9 => absurd c9 cb) (fun _ => ?_)
  refine lv_iconst (v := 1) hx hb d_La_law_1257 (by decide) ?_
  refine lv_goto (tgt := 1262) hx hb d_La_law_1258 (by decide) ?_
  refine lv_aload_n hx hb d_La_law_1262 rfl (lv_at hl 0 rfl) ?_
  refine lv_iload hx hb d_La_law_1263 (lv_at hl 4 rfl) ?_
  refine lv_bipush (v := 6) hx hb d_La_law_1265 (by decide) ?_
  refine lv_iadd hx hb d_La_law_1267 ?_
  refine va_sld hx hb hX hbl hbA hS h6 d_La_law_1268 ?_
  refine lv_aload_n hx hb d_La_law_1269 rfl (lv_at hl 3 rfl) ?_
  refine ka_i (vx_runSW (As := [.ref (A 0), .int (xs (x4 + 1).toNatClampNeg), .int (xs (x4 + 2).toNatClampNeg), .int (xs (x4 + 3).toNatClampNeg), .int (xs (x4 + 4).toNatClampNeg), .int 1, .int (xs (x4 + 6).toNatClampNeg), .ref (A 63)]) (rest := []) S9 (c_La_access_err l hl9 D A (MW A ρ []) f _ σ (xs (x4 + 1).toNatClampNeg) (xs (x4 + 2).toNatClampNeg) (xs (x4 + 3).toNatClampNeg) (xs (x4 + 4).toNatClampNeg) 1 (xs (x4 + 6).toNatClampNeg) k hk u e1) (vx_cwSW 8 hts (tg_SW wl_La_157 ws_La_access wi_La wo_La_access) rfl rfl rfl wq_La_access.2 ⟨Nat.le_of_ble_eq_true rfl, Nat.le_of_ble_eq_true rfl⟩) (ka_preC X9 hC hP hD hS) rfl rfl hl.1 rfl (lv_room (Nat.le_of_ble_eq_true rfl)) d_La_law_1270 ⟨hc, hsl⟩) X9 hD hS rfl (fun H locs hP hD hS => ?_)
  refine lv_istore (lv' := (5, .int (nI k)) :: [(0, .ref b), (1, .ref (A 0)), (2, .ref (A 60)), (3, .ref (A 63)), (4, .int x4)]) hx hb d_La_law_1273 hl (by decide) rfl (fun ls hl => ?_)
  refine lv_aload_n hx hb d_La_law_1275 rfl (lv_at hl 3 rfl) ?_
  refine lv_aload_n hx hb d_La_law_1276 rfl (lv_at hl 1 rfl) ?_
  refine lv_iload hx hb d_La_law_1277 (lv_at hl 5 rfl) ?_
  refine lv_iconst (v := 1) hx hb d_La_law_1279 (by decide) ?_
  refine lv_iadd hx hb d_La_law_1280 ?_
  refine va_sld hx hb hX hbl hbA hS h1 d_La_law_1281 ?_
  refine lv_aload_n hx hb d_La_law_1282 rfl (lv_at hl 1 rfl) ?_
  refine lv_iload hx hb d_La_law_1283 (lv_at hl 5 rfl) ?_
  refine lv_iconst (v := 2) hx hb d_La_law_1285 (by decide) ?_
  refine lv_iadd hx hb d_La_law_1286 ?_
  refine va_sld hx hb hX hbl hbA hS h2 d_La_law_1287 ?_
  refine lv_aload_n hx hb d_La_law_1288 rfl (lv_at hl 1 rfl) ?_
  refine lv_iload hx hb d_La_law_1289 (lv_at hl 5 rfl) ?_
  refine lv_iconst (v := 3) hx hb d_La_law_1291 (by decide) ?_
  refine lv_iadd hx hb d_La_law_1292 ?_
  refine va_sld hx hb hX hbl hbA hS h3 d_La_law_1293 ?_
  refine lv_aload_n hx hb d_La_law_1294 rfl (lv_at hl 1 rfl) ?_
  refine lv_iload hx hb d_La_law_1295 (lv_at hl 5 rfl) ?_
  refine lv_iconst (v := 4) hx hb d_La_law_1297 (by decide) ?_
  refine lv_iadd hx hb d_La_law_1298 ?_
  refine va_sld hx hb hX hbl hbA hS h4 d_La_law_1299 ?_
  refine lv_aload_n hx hb d_La_law_1300 rfl (lv_at hl 1 rfl) ?_
  refine lv_iload hx hb d_La_law_1301 (lv_at hl 5 rfl) ?_
  refine lv_iconst (v := 5) hx hb d_La_law_1303 (by decide) ?_
  refine lv_iadd hx hb d_La_law_1304 ?_
  refine va_sld hx hb hX hbl hbA hS h5 d_La_law_1305 ?_
  refine lv_if_eq (tgt := 1313) hx hb d_La_law_1306 (by decide) (fun c9 => absurd c9 cb) (fun _ => ?_)
  refine lv_iconst (v := 1) hx hb d_La_law_1309 (by decide) ?_
  refine lv_goto (tgt := 1314) hx hb d_La_law_1310 (by decide) ?_
  refine lv_aload_n hx hb d_La_law_1314 rfl (lv_at hl 1 rfl) ?_
  refine lv_iload hx hb d_La_law_1315 (lv_at hl 5 rfl) ?_
  refine lv_bipush (v := 6) hx hb d_La_law_1317 (by decide) ?_
  refine lv_iadd hx hb d_La_law_1319 ?_
  refine va_sld hx hb hX hbl hbA hS h6 d_La_law_1320 ?_
  replace hP := kp_P (kp_perm A u ρ f) hP
  replace hD := kp_D (kp_perm A u ρ f) hD
  refine ka_i (va_runV (As := [.int (xs (x4 + 1).toNatClampNeg), .int (xs (x4 + 2).toNatClampNeg), .int (xs (x4 + 3).toNatClampNeg), .int (xs (x4 + 4).toNatClampNeg), .int 1, .int (xs (x4 + 6).toNatClampNeg)]) (rest := []) S9 (c_Mo_access l hl9 D A (GW A u [ka_oc A f]) _ ρ (xs (x4 + 1).toNatClampNeg) (xs (x4 + 2).toNatClampNeg) (xs (x4 + 3).toNatClampNeg) (xs (x4 + 4).toNatClampNeg) 1 (xs (x4 + 6).toNatClampNeg) z e2) (cwV 6 hts (tg_V wl_La_160 wm_Mo_access we_Mo_access wi_Mo wo_Mo_access) rfl rfl rfl wq_Mo_access ⟨Nat.le_of_ble_eq_true rfl, Nat.le_of_ble_eq_true rfl⟩) (ka_preV X9 hP hD hS 0 rfl rfl) rfl rfl hl.1 rfl (lv_room (Nat.le_of_ble_eq_true rfl)) d_La_law_1321 ⟨hc, hsl⟩) X9 hD hS rfl (fun H locs hP hD hS => ?_)
  refine lv_istore (lv' := (6, .int z.1) :: (5, .int (nI k)) :: [(0, .ref b), (1, .ref (A 0)), (2, .ref (A 60)), (3, .ref (A 63)), (4, .int x4)]) hx hb d_La_law_1324 hl (by decide) rfl (fun ls hl => ?_)
  replace hP := kp_P (kp_perm A u z.2 f).symm hP
  replace hD := kp_D (kp_perm A u z.2 f).symm hD
  refine lv_goto (tgt := 1460) hx hb d_La_law_1326 (by decide) ?_
  refine W.widen (k := cells + 1) (n := slots + 6) (by omega) (by omega) ?_
  exact kk u z.2 f _ _ _ hI hP hD hS (lv_sub hl [2, 3, 4, 5, 6] rfl)
set_option maxRecDepth 100000 in
set_option maxHeartbeats 4000000 in
theorem lc_19 {p : Program} {l : Launch} {e : Env} {s : State} {m : MethodId} {below : List Frame} {meth : Method} {c : Code} {b L : Nat} {xs : Nat → Int32} {D : va_G} {A : Nat → Nat} (I : KS → RS → Prop) (X : lx_ p l s m meth c b L xs D A) {cells slots : Nat} (hc : cells + 1 ≤ room_1.cells) (hsl : slots + 6 ≤ room_1.slots) (x4 : Int32)  (σ : KS) (ρ : RS) (f : Nat → Int64) (sim : ∃ (v : Int32 × KS) (z : Int32 × RS), f_Ke_snapshot σ = some v ∧ f_Mo_snapshot ρ = some z ∧ I v.2 z.2) {H : Heap} {locs : List Loc} {ls : Array Slot} (hP : va_P D vwCl (kp_C A σ ρ f) H) (hD : va_D (fun q : Nat => s.heap.size ≤ q) (kp_C A σ ρ f)) (hS : va_S (fun q : Nat => s.heap.size ≤ q) s.heap H locs) (hl : lv_has ls 7 [(0, .ref b), (1, .ref (A 0)), (2, .ref (A 60)), (3, .ref (A 63)), (4, .int x4)])
    (kk : ∀ (u : KS) (ρ1 : RS) (f1 : Nat → Int64) (H : Heap) (locs : List Loc) (ls : Array Slot), I u ρ1 → va_P D vwCl (kp_C A u ρ1 f1) H → va_D (fun q : Nat => s.heap.size ≤ q) (kp_C A u ρ1 f1) → va_S (fun q : Nat => s.heap.size ≤ q) s.heap H locs → lv_has ls 7 [(0, .ref b), (1, .ref (A 0)), (2, .ref (A 60)), (3, .ref (A 63)), (4, .int x4)] → W p l e room_1 s m #[Value.ref b] below meth c H locs (cells + 1) (slots + 6) (lw_Z below #[Value.ref b] s) (F0 m 1460 ls [])) : W p l e room_1 s m #[Value.ref b] below meth c H locs cells slots (lw_Z below #[Value.ref b] s) (F0 m 1329 ls []) := by
  obtain ⟨hl9, S9, hX, hbl, hlk, hr, hC, X9⟩ := X
  obtain ⟨hx, hb, hml, hown, hts⟩ := id S9
  have hK := X9.2.1
  have hbA : ¬ (fun q : Nat => s.heap.size ≤ q) b := Nat.not_le.mpr hbl
  obtain ⟨v, z, e1, e2, hI⟩ := sim
  refine lv_aload_n hx hb d_La_law_1329 rfl (lv_at hl 1 rfl) ?_
  refine ka_i (va_runV (As := []) (rest := []) S9 (c_Ke_snapshot l hl9 D A (ka_oc A f :: MW A ρ []) _ σ v e1) (cwV 0 hts (tg_V wl_La_161 wm_Ke_snapshot we_Ke_snapshot wi_Ke wo_Ke_snapshot) rfl rfl rfl wq_Ke_snapshot ⟨Nat.le_of_ble_eq_true rfl, Nat.le_of_ble_eq_true rfl⟩) (ka_preV X9 hP hD hS 0 rfl rfl) rfl rfl hl.1 rfl (lv_room (Nat.le_of_ble_eq_true rfl)) d_La_law_1330 ⟨Nat.le_trans (Nat.le_succ _) hc, Nat.le_trans (Nat.le_add_right _ 6) hsl⟩) X9 hD hS rfl (fun H locs hP hD hS => ?_)
  refine lv_pop hx hb d_La_law_1333 rfl ?_
  refine lv_aload_n hx hb d_La_law_1334 rfl (lv_at hl 2 rfl) ?_
  replace hP := kp_P (kp_perm A v.2 ρ f) hP
  replace hD := kp_D (kp_perm A v.2 ρ f) hD
  refine ka_i (va_runV (As := []) (rest := []) S9 (c_Mo_snapshot l hl9 D A (GW A v.2 [ka_oc A f]) _ ρ z e2) (cwV 0 hts (tg_V wl_La_164 wm_Mo_snapshot we_Mo_snapshot wi_Mo wo_Mo_snapshot) rfl rfl rfl wq_Mo_snapshot ⟨Nat.le_of_ble_eq_true rfl, Nat.le_of_ble_eq_true rfl⟩) (ka_preV X9 hP hD hS 0 rfl rfl) rfl rfl hl.1 rfl (lv_room (Nat.le_of_ble_eq_true rfl)) d_La_law_1335 ⟨Nat.le_trans (Nat.le_succ _) hc, Nat.le_trans (Nat.le_add_right _ 6) hsl⟩) X9 hD hS rfl (fun H locs hP hD hS => ?_)
  replace hP := kp_P (kp_perm A v.2 z.2 f).symm hP
  replace hD := kp_D (kp_perm A v.2 z.2 f).symm hD
  refine lv_pop hx hb d_La_law_1338 rfl ?_
  refine lv_goto (tgt := 1460) hx hb d_La_law_1339 (by decide) ?_
  refine W.widen (k := cells + 1) (n := slots + 6) (by omega) (by omega) ?_
  exact kk v.2 z.2 f _ _ _ hI hP hD hS hl
set_option maxRecDepth 100000 in
set_option maxHeartbeats 4000000 in
theorem lc_20 {p : Program} {l : Launch} {e : Env} {s : State} {m : MethodId} {below : List Frame} {meth : Method} {c : Code} {b L : Nat} {xs : Nat → Int32} {D : va_G} {A : Nat → Nat} (I : KS → RS → Prop) (X : lx_ p l s m meth c b L xs D A) {cells slots : Nat} (hc : cells + 1 ≤ room_1.cells) (hsl : slots + 6 ≤ room_1.slots) (x4 : Int32)  (σ : KS) (ρ : RS) (f : Nat → Int64) (sim : ∃ (v : Int32 × KS) (z : Int32 × RS), f_Ke_crash σ = some v ∧ f_Mo_crash ρ = some z ∧ I v.2 z.2) {H : Heap} {locs : List Loc} {ls : Array Slot} (hP : va_P D vwCl (kp_C A σ ρ f) H) (hD : va_D (fun q : Nat => s.heap.size ≤ q) (kp_C A σ ρ f)) (hS : va_S (fun q : Nat => s.heap.size ≤ q) s.heap H locs) (hl : lv_has ls 7 [(0, .ref b), (1, .ref (A 0)), (2, .ref (A 60)), (3, .ref (A 63)), (4, .int x4)])
    (kk : ∀ (u : KS) (ρ1 : RS) (f1 : Nat → Int64) (H : Heap) (locs : List Loc) (ls : Array Slot), I u ρ1 → va_P D vwCl (kp_C A u ρ1 f1) H → va_D (fun q : Nat => s.heap.size ≤ q) (kp_C A u ρ1 f1) → va_S (fun q : Nat => s.heap.size ≤ q) s.heap H locs → lv_has ls 7 [(0, .ref b), (1, .ref (A 0)), (2, .ref (A 60)), (3, .ref (A 63)), (4, .int x4)] → W p l e room_1 s m #[Value.ref b] below meth c H locs (cells + 1) (slots + 6) (lw_Z below #[Value.ref b] s) (F0 m 1460 ls [])) : W p l e room_1 s m #[Value.ref b] below meth c H locs cells slots (lw_Z below #[Value.ref b] s) (F0 m 1342 ls []) := by
  obtain ⟨hl9, S9, hX, hbl, hlk, hr, hC, X9⟩ := X
  obtain ⟨hx, hb, hml, hown, hts⟩ := id S9
  have hK := X9.2.1
  have hbA : ¬ (fun q : Nat => s.heap.size ≤ q) b := Nat.not_le.mpr hbl
  obtain ⟨v, z, e1, e2, hI⟩ := sim
  refine lv_aload_n hx hb d_La_law_1342 rfl (lv_at hl 1 rfl) ?_
  refine ka_i (va_runV (As := []) (rest := []) S9 (c_Ke_crash l hl9 D A (ka_oc A f :: MW A ρ []) _ σ v e1) (cwV 0 hts (tg_V wl_La_165 wm_Ke_crash we_Ke_crash wi_Ke wo_Ke_crash) rfl rfl rfl wq_Ke_crash ⟨Nat.le_of_ble_eq_true rfl, Nat.le_of_ble_eq_true rfl⟩) (ka_preV X9 hP hD hS 0 rfl rfl) rfl rfl hl.1 rfl (lv_room (Nat.le_of_ble_eq_true rfl)) d_La_law_1343 ⟨Nat.le_trans (Nat.le_succ _) hc, Nat.le_trans (Nat.le_add_right _ 6) hsl⟩) X9 hD hS rfl (fun H locs hP hD hS => ?_)
  refine lv_pop hx hb d_La_law_1346 rfl ?_
  refine lv_aload_n hx hb d_La_law_1347 rfl (lv_at hl 2 rfl) ?_
  replace hP := kp_P (kp_perm A v.2 ρ f) hP
  replace hD := kp_D (kp_perm A v.2 ρ f) hD
  refine ka_i (va_runV (As := []) (rest := []) S9 (c_Mo_crash l hl9 D A (GW A v.2 [ka_oc A f]) _ ρ z e2) (cwV 0 hts (tg_V wl_La_168 wm_Mo_crash we_Mo_crash wi_Mo wo_Mo_crash) rfl rfl rfl wq_Mo_crash ⟨Nat.le_of_ble_eq_true rfl, Nat.le_of_ble_eq_true rfl⟩) (ka_preV X9 hP hD hS 0 rfl rfl) rfl rfl hl.1 rfl (lv_room (Nat.le_of_ble_eq_true rfl)) d_La_law_1348 ⟨Nat.le_trans (Nat.le_succ _) hc, Nat.le_trans (Nat.le_add_right _ 6) hsl⟩) X9 hD hS rfl (fun H locs hP hD hS => ?_)
  replace hP := kp_P (kp_perm A v.2 z.2 f).symm hP
  replace hD := kp_D (kp_perm A v.2 z.2 f).symm hD
  refine lv_pop hx hb d_La_law_1351 rfl ?_
  refine lv_goto (tgt := 1460) hx hb d_La_law_1352 (by decide) ?_
  refine W.widen (k := cells + 1) (n := slots + 6) (by omega) (by omega) ?_
  exact kk v.2 z.2 f _ _ _ hI hP hD hS hl
set_option maxRecDepth 100000 in
set_option maxHeartbeats 4000000 in
theorem lc_21 {p : Program} {l : Launch} {e : Env} {s : State} {m : MethodId} {below : List Frame} {meth : Method} {c : Code} {b L : Nat} {xs : Nat → Int32} {D : va_G} {A : Nat → Nat} (I : KS → RS → Prop) (X : lx_ p l s m meth c b L xs D A) {cells slots : Nat} (hc : cells + 1 ≤ room_1.cells) (hsl : slots + 6 ≤ room_1.slots) (x4 : Int32) (h1 : vp_in (x4 + 1) L) (h2 : vp_in (x4 + 2) L) (σ : KS) (ρ : RS) (f : Nat → Int64) (sim : ∀ x1 x2 : Int32, (∃ (v : Int32) (u : KS) (z : Int32 × RS), f_Ke_object σ x1 x2 = some (.ok v, u) ∧ f_Mo_object ρ x1 x2 = some z ∧ I u z.2) ∨ (∃ (k : Nat) (u : KS) (z : Int32 × RS), (k = 1 ∨ k = 2 ∨ k = 3 ∨ k = 4) ∧ f_Ke_object σ x1 x2 = some (.error k, u) ∧ f_Mo_object ρ x1 x2 = some z ∧ I u z.2)) {H : Heap} {locs : List Loc} {ls : Array Slot} (hP : va_P D vwCl (kp_C A σ ρ f) H) (hD : va_D (fun q : Nat => s.heap.size ≤ q) (kp_C A σ ρ f)) (hS : va_S (fun q : Nat => s.heap.size ≤ q) s.heap H locs) (hl : lv_has ls 7 [(0, .ref b), (1, .ref (A 0)), (2, .ref (A 60)), (3, .ref (A 63)), (4, .int x4)])
    (kk : ∀ (u : KS) (ρ1 : RS) (f1 : Nat → Int64) (H : Heap) (locs : List Loc) (ls : Array Slot), I u ρ1 → va_P D vwCl (kp_C A u ρ1 f1) H → va_D (fun q : Nat => s.heap.size ≤ q) (kp_C A u ρ1 f1) → va_S (fun q : Nat => s.heap.size ≤ q) s.heap H locs → lv_has ls 7 [(0, .ref b), (1, .ref (A 0)), (2, .ref (A 60)), (3, .ref (A 63)), (4, .int x4)] → W p l e room_1 s m #[Value.ref b] below meth c H locs (cells + 1) (slots + 6) (lw_Z below #[Value.ref b] s) (F0 m 1460 ls [])) : W p l e room_1 s m #[Value.ref b] below meth c H locs cells slots (lw_Z below #[Value.ref b] s) (F0 m 1355 ls []) := by
  obtain ⟨hl9, S9, hX, hbl, hlk, hr, hC, X9⟩ := X
  obtain ⟨hx, hb, hml, hown, hts⟩ := id S9
  have hK := X9.2.1
  have hbA : ¬ (fun q : Nat => s.heap.size ≤ q) b := Nat.not_le.mpr hbl
  rcases sim (xs (x4 + 1).toNatClampNeg) (xs (x4 + 2).toNatClampNeg) with ⟨v, u, z, e1, e2, hI⟩ | ⟨k, u, z, hk, e1, e2, hI⟩
  · refine lv_aload_n hx hb d_La_law_1355 rfl (lv_at hl 1 rfl) ?_
    refine lv_aload_n hx hb d_La_law_1356 rfl (lv_at hl 0 rfl) ?_
    refine lv_iload hx hb d_La_law_1357 (lv_at hl 4 rfl) ?_
    refine lv_iconst (v := 1) hx hb d_La_law_1359 (by decide) ?_
    refine lv_iadd hx hb d_La_law_1360 ?_
    refine va_sld hx hb hX hbl hbA hS h1 d_La_law_1361 ?_
    refine lv_aload_n hx hb d_La_law_1362 rfl (lv_at hl 0 rfl) ?_
    refine lv_iload hx hb d_La_law_1363 (lv_at hl 4 rfl) ?_
    refine lv_iconst (v := 2) hx hb d_La_law_1365 (by decide) ?_
    refine lv_iadd hx hb d_La_law_1366 ?_
    refine va_sld hx hb hX hbl hbA hS h2 d_La_law_1367 ?_
    refine lv_aload_n hx hb d_La_law_1368 rfl (lv_at hl 3 rfl) ?_
    refine ka_i (vx_runSW (As := [.ref (A 0), .int (xs (x4 + 1).toNatClampNeg), .int (xs (x4 + 2).toNatClampNeg), .ref (A 63)]) (rest := []) S9 (c_La_object_ok l hl9 D A (MW A ρ []) f _ σ (xs (x4 + 1).toNatClampNeg) (xs (x4 + 2).toNatClampNeg) v u e1) (vx_cwSW 4 hts (tg_SW wl_La_169 ws_La_object wi_La wo_La_object) rfl rfl rfl wq_La_object.2 ⟨Nat.le_of_ble_eq_true rfl, Nat.le_of_ble_eq_true rfl⟩) (ka_preC X9 hC hP hD hS) rfl rfl hl.1 rfl (lv_room (Nat.le_of_ble_eq_true rfl)) d_La_law_1369 ⟨Nat.le_trans (Nat.le_succ _) hc, Nat.le_trans (Nat.le_add_right _ 6) hsl⟩) X9 hD hS rfl (fun H locs hP hD hS => ?_)
    refine lv_istore (lv' := (5, .int 0) :: [(0, .ref b), (1, .ref (A 0)), (2, .ref (A 60)), (3, .ref (A 63)), (4, .int x4)]) hx hb d_La_law_1372 hl (by decide) rfl (fun ls hl => ?_)
    refine lv_aload_n hx hb d_La_law_1374 rfl (lv_at hl 3 rfl) ?_
    refine lv_aload_n hx hb d_La_law_1375 rfl (lv_at hl 1 rfl) ?_
    refine lv_iload hx hb d_La_law_1376 (lv_at hl 5 rfl) ?_
    refine lv_iconst (v := 1) hx hb d_La_law_1378 (by decide) ?_
    refine lv_iadd hx hb d_La_law_1379 ?_
    refine va_sld hx hb hX hbl hbA hS h1 d_La_law_1380 ?_
    refine lv_aload_n hx hb d_La_law_1381 rfl (lv_at hl 1 rfl) ?_
    refine lv_iload hx hb d_La_law_1382 (lv_at hl 5 rfl) ?_
    refine lv_iconst (v := 2) hx hb d_La_law_1384 (by decide) ?_
    refine lv_iadd hx hb d_La_law_1385 ?_
    refine va_sld hx hb hX hbl hbA hS h2 d_La_law_1386 ?_
    replace hP := kp_P (kp_perm A u ρ (vp_updL f 0 v.toInt64)) hP
    replace hD := kp_D (kp_perm A u ρ (vp_updL f 0 v.toInt64)) hD
    refine ka_i (va_runV (As := [.int (xs (x4 + 1).toNatClampNeg), .int (xs (x4 + 2).toNatClampNeg)]) (rest := []) S9 (c_Mo_object l hl9 D A (GW A u [ka_oc A (vp_updL f 0 v.toInt64)]) _ ρ (xs (x4 + 1).toNatClampNeg) (xs (x4 + 2).toNatClampNeg) z e2) (cwV 2 hts (tg_V wl_La_171 wm_Mo_object we_Mo_object wi_Mo wo_Mo_object) rfl rfl rfl wq_Mo_object ⟨Nat.le_of_ble_eq_true rfl, Nat.le_of_ble_eq_true rfl⟩) (ka_preV X9 hP hD hS 0 rfl rfl) rfl rfl hl.1 rfl (lv_room (Nat.le_of_ble_eq_true rfl)) d_La_law_1387 ⟨Nat.le_trans (Nat.le_succ _) hc, Nat.le_trans (Nat.le_add_right _ 6) hsl⟩) X9 hD hS rfl (fun H locs hP hD hS => ?_)
    refine lv_istore (lv' := (6, .int z.1) :: (5, .int 0) :: [(0, .ref b), (1, .ref (A 0)), (2, .ref (A 60)), (3, .ref (A 63)), (4, .int x4)]) hx hb d_La_law_1390 hl (by decide) rfl (fun ls hl => ?_)
    replace hP := kp_P (kp_perm A u z.2 (vp_updL f 0 v.toInt64)).symm hP
    replace hD := kp_D (kp_perm A u z.2 (vp_updL f 0 v.toInt64)).symm hD
    refine lv_goto (tgt := 1460) hx hb d_La_law_1392 (by decide) ?_
    refine W.widen (k := cells + 1) (n := slots + 6) (by omega) (by omega) ?_
    exact kk u z.2 (vp_updL f 0 v.toInt64) _ _ _ hI hP hD hS (lv_sub hl [2, 3, 4, 5, 6] rfl)
  refine lv_aload_n hx hb d_La_law_1355 rfl (lv_at hl 1 rfl) ?_
  refine lv_aload_n hx hb d_La_law_1356 rfl (lv_at hl 0 rfl) ?_
  refine lv_iload hx hb d_La_law_1357 (lv_at hl 4 rfl) ?_
  refine lv_iconst (v := 1) hx hb d_La_law_1359 (by decide) ?_
  refine lv_iadd hx hb d_La_law_1360 ?_
  refine va_sld hx hb hX hbl hbA hS h1 d_La_law_1361 ?_
  refine lv_aload_n hx hb d_La_law_1362 rfl (lv_at hl 0 rfl) ?_
  refine lv_iload hx hb d_La_law_1363 (lv_at hl 4 rfl) ?_
  refine lv_iconst (v := 2) hx hb d_La_law_1365 (by decide) ?_
  refine lv_iadd hx hb d_La_law_1366 ?_
  refine va_sld hx hb hX hbl hbA hS h2 d_La_law_1367 ?_
  refine lv_aload_n hx hb d_La_law_1368 rfl (lv_at hl 3 rfl) ?_
  refine ka_i (vx_runSW (As := [.ref (A 0), .int (xs (x4 + 1).toNatClampNeg), .int (xs (x4 + 2).toNatClampNeg), .ref (A 63)]) (rest := []) S9 (c_La_object_err l hl9 D A (MW A ρ []) f _ σ (xs (x4 + 1).toNatClampNeg) (xs (x4 + 2).toNatClampNeg) k hk u e1) (vx_cwSW 4 hts (tg_SW wl_La_169 ws_La_object wi_La wo_La_object) rfl rfl rfl wq_La_object.2 ⟨Nat.le_of_ble_eq_true rfl, Nat.le_of_ble_eq_true rfl⟩) (ka_preC X9 hC hP hD hS) rfl rfl hl.1 rfl (lv_room (Nat.le_of_ble_eq_true rfl)) d_La_law_1369 ⟨hc, hsl⟩) X9 hD hS rfl (fun H locs hP hD hS => ?_)
  refine lv_istore (lv' := (5, .int (nI k)) :: [(0, .ref b), (1, .ref (A 0)), (2, .ref (A 60)), (3, .ref (A 63)), (4, .int x4)]) hx hb d_La_law_1372 hl (by decide) rfl (fun ls hl => ?_)
  refine lv_aload_n hx hb d_La_law_1374 rfl (lv_at hl 3 rfl) ?_
  refine lv_aload_n hx hb d_La_law_1375 rfl (lv_at hl 1 rfl) ?_
  refine lv_iload hx hb d_La_law_1376 (lv_at hl 5 rfl) ?_
  refine lv_iconst (v := 1) hx hb d_La_law_1378 (by decide) ?_
  refine lv_iadd hx hb d_La_law_1379 ?_
  refine va_sld hx hb hX hbl hbA hS h1 d_La_law_1380 ?_
  refine lv_aload_n hx hb d_La_law_1381 rfl (lv_at hl 1 rfl) ?_
  refine lv_iload hx hb d_La_law_1382 (lv_at hl 5 rfl) ?_
  refine lv_iconst (v := 2) hx hb d_La_law_1384 (by decide) ?_
  refine lv_iadd hx hb d_La_law_1385 ?_
  refine va_sld hx hb hX hbl hbA hS h2 d_La_law_1386 ?_
  replace hP := kp_P (kp_perm A u ρ f) hP
  replace hD := kp_D (kp_perm A u ρ f) hD
  refine ka_i (va_runV (As := [.int (xs (x4 + 1).toNatClampNeg), .int (xs (x4 + 2).toNatClampNeg)]) (rest := []) S9 (c_Mo_object l hl9 D A (GW A u [ka_oc A f]) _ ρ (xs (x4 + 1).toNatClampNeg) (xs (x4 + 2).toNatClampNeg) z e2) (cwV 2 hts (tg_V wl_La_171 wm_Mo_object we_Mo_object wi_Mo wo_Mo_object) rfl rfl rfl wq_Mo_object ⟨Nat.le_of_ble_eq_true rfl, Nat.le_of_ble_eq_true rfl⟩) (ka_preV X9 hP hD hS 0 rfl rfl) rfl rfl hl.1 rfl (lv_room (Nat.le_of_ble_eq_true rfl)) d_La_law_1387 ⟨hc, hsl⟩) X9 hD hS rfl (fun H locs hP hD hS => ?_)
  refine lv_istore (lv' := (6, .int z.1) :: (5, .int (nI k)) :: [(0, .ref b), (1, .ref (A 0)), (2, .ref (A 60)), (3, .ref (A 63)), (4, .int x4)]) hx hb d_La_law_1390 hl (by decide) rfl (fun ls hl => ?_)
  replace hP := kp_P (kp_perm A u z.2 f).symm hP
  replace hD := kp_D (kp_perm A u z.2 f).symm hD
  refine lv_goto (tgt := 1460) hx hb d_La_law_1392 (by decide) ?_
  refine W.widen (k := cells + 1) (n := slots + 6) (by omega) (by omega) ?_
  exact kk u z.2 f _ _ _ hI hP hD hS (lv_sub hl [2, 3, 4, 5, 6] rfl)
set_option maxRecDepth 100000 in
set_option maxHeartbeats 4000000 in
theorem lc_22 {p : Program} {l : Launch} {e : Env} {s : State} {m : MethodId} {below : List Frame} {meth : Method} {c : Code} {b L : Nat} {xs : Nat → Int32} {D : va_G} {A : Nat → Nat} (I : KS → RS → Prop) (X : lx_ p l s m meth c b L xs D A) {cells slots : Nat} (hc : cells + 1 ≤ room_1.cells) (hsl : slots + 6 ≤ room_1.slots) (x4 : Int32) (h1 : vp_in (x4 + 1) L) (h2 : vp_in (x4 + 2) L) (σ : KS) (ρ : RS) (f : Nat → Int64) (sim : ∀ x1 x2 : Int32, (∃ (v : Int32) (u : KS) (z : Int32 × RS), f_Ke_in σ x1 x2 = some (.ok v, u) ∧ f_Mo_in ρ x1 x2 = some z ∧ I u z.2) ∨ (∃ (k : Nat) (u : KS) (z : Int32 × RS), (k = 1 ∨ k = 2 ∨ k = 3 ∨ k = 4) ∧ f_Ke_in σ x1 x2 = some (.error k, u) ∧ f_Mo_in ρ x1 x2 = some z ∧ I u z.2)) {H : Heap} {locs : List Loc} {ls : Array Slot} (hP : va_P D vwCl (kp_C A σ ρ f) H) (hD : va_D (fun q : Nat => s.heap.size ≤ q) (kp_C A σ ρ f)) (hS : va_S (fun q : Nat => s.heap.size ≤ q) s.heap H locs) (hl : lv_has ls 7 [(0, .ref b), (1, .ref (A 0)), (2, .ref (A 60)), (3, .ref (A 63)), (4, .int x4)])
    (kk : ∀ (u : KS) (ρ1 : RS) (f1 : Nat → Int64) (H : Heap) (locs : List Loc) (ls : Array Slot), I u ρ1 → va_P D vwCl (kp_C A u ρ1 f1) H → va_D (fun q : Nat => s.heap.size ≤ q) (kp_C A u ρ1 f1) → va_S (fun q : Nat => s.heap.size ≤ q) s.heap H locs → lv_has ls 7 [(0, .ref b), (1, .ref (A 0)), (2, .ref (A 60)), (3, .ref (A 63)), (4, .int x4)] → W p l e room_1 s m #[Value.ref b] below meth c H locs (cells + 1) (slots + 6) (lw_Z below #[Value.ref b] s) (F0 m 1460 ls [])) : W p l e room_1 s m #[Value.ref b] below meth c H locs cells slots (lw_Z below #[Value.ref b] s) (F0 m 1395 ls []) := by
  obtain ⟨hl9, S9, hX, hbl, hlk, hr, hC, X9⟩ := X
  obtain ⟨hx, hb, hml, hown, hts⟩ := id S9
  have hK := X9.2.1
  have hbA : ¬ (fun q : Nat => s.heap.size ≤ q) b := Nat.not_le.mpr hbl
  rcases sim (xs (x4 + 1).toNatClampNeg) (xs (x4 + 2).toNatClampNeg) with ⟨v, u, z, e1, e2, hI⟩ | ⟨k, u, z, hk, e1, e2, hI⟩
  · refine lv_aload_n hx hb d_La_law_1395 rfl (lv_at hl 1 rfl) ?_
    refine lv_aload_n hx hb d_La_law_1396 rfl (lv_at hl 0 rfl) ?_
    refine lv_iload hx hb d_La_law_1397 (lv_at hl 4 rfl) ?_
    refine lv_iconst (v := 1) hx hb d_La_law_1399 (by decide) ?_
    refine lv_iadd hx hb d_La_law_1400 ?_
    refine va_sld hx hb hX hbl hbA hS h1 d_La_law_1401 ?_
    refine lv_aload_n hx hb d_La_law_1402 rfl (lv_at hl 0 rfl) ?_
    refine lv_iload hx hb d_La_law_1403 (lv_at hl 4 rfl) ?_
    refine lv_iconst (v := 2) hx hb d_La_law_1405 (by decide) ?_
    refine lv_iadd hx hb d_La_law_1406 ?_
    refine va_sld hx hb hX hbl hbA hS h2 d_La_law_1407 ?_
    refine lv_aload_n hx hb d_La_law_1408 rfl (lv_at hl 3 rfl) ?_
    refine ka_i (vx_runSW (As := [.ref (A 0), .int (xs (x4 + 1).toNatClampNeg), .int (xs (x4 + 2).toNatClampNeg), .ref (A 63)]) (rest := []) S9 (c_La_in_ok l hl9 D A (MW A ρ []) f _ σ (xs (x4 + 1).toNatClampNeg) (xs (x4 + 2).toNatClampNeg) v u e1) (vx_cwSW 4 hts (tg_SW wl_La_172 ws_La_in wi_La wo_La_in) rfl rfl rfl wq_La_in.2 ⟨Nat.le_of_ble_eq_true rfl, Nat.le_of_ble_eq_true rfl⟩) (ka_preC X9 hC hP hD hS) rfl rfl hl.1 rfl (lv_room (Nat.le_of_ble_eq_true rfl)) d_La_law_1409 ⟨Nat.le_trans (Nat.le_succ _) hc, Nat.le_trans (Nat.le_add_right _ 6) hsl⟩) X9 hD hS rfl (fun H locs hP hD hS => ?_)
    refine lv_istore (lv' := (5, .int 0) :: [(0, .ref b), (1, .ref (A 0)), (2, .ref (A 60)), (3, .ref (A 63)), (4, .int x4)]) hx hb d_La_law_1412 hl (by decide) rfl (fun ls hl => ?_)
    refine lv_aload_n hx hb d_La_law_1414 rfl (lv_at hl 3 rfl) ?_
    refine lv_aload_n hx hb d_La_law_1415 rfl (lv_at hl 1 rfl) ?_
    refine lv_iload hx hb d_La_law_1416 (lv_at hl 5 rfl) ?_
    refine lv_iconst (v := 1) hx hb d_La_law_1418 (by decide) ?_
    refine lv_iadd hx hb d_La_law_1419 ?_
    refine va_sld hx hb hX hbl hbA hS h1 d_La_law_1420 ?_
    refine lv_aload_n hx hb d_La_law_1421 rfl (lv_at hl 1 rfl) ?_
    refine lv_iload hx hb d_La_law_1422 (lv_at hl 5 rfl) ?_
    refine lv_iconst (v := 2) hx hb d_La_law_1424 (by decide) ?_
    refine lv_iadd hx hb d_La_law_1425 ?_
    refine va_sld hx hb hX hbl hbA hS h2 d_La_law_1426 ?_
    replace hP := kp_P (kp_perm A u ρ (vp_updL f 0 v.toInt64)) hP
    replace hD := kp_D (kp_perm A u ρ (vp_updL f 0 v.toInt64)) hD
    refine ka_i (va_runV (As := [.int (xs (x4 + 1).toNatClampNeg), .int (xs (x4 + 2).toNatClampNeg)]) (rest := []) S9 (c_Mo_in l hl9 D A (GW A u [ka_oc A (vp_updL f 0 v.toInt64)]) _ ρ (xs (x4 + 1).toNatClampNeg) (xs (x4 + 2).toNatClampNeg) z e2) (cwV 2 hts (tg_V wl_La_174 wm_Mo_in we_Mo_in wi_Mo wo_Mo_in) rfl rfl rfl wq_Mo_in ⟨Nat.le_of_ble_eq_true rfl, Nat.le_of_ble_eq_true rfl⟩) (ka_preV X9 hP hD hS 0 rfl rfl) rfl rfl hl.1 rfl (lv_room (Nat.le_of_ble_eq_true rfl)) d_La_law_1427 ⟨Nat.le_trans (Nat.le_succ _) hc, Nat.le_trans (Nat.le_add_right _ 6) hsl⟩) X9 hD hS rfl (fun H locs hP hD hS => ?_)
    refine lv_istore (lv' := (6, .int z.1) :: (5, .int 0) :: [(0, .ref b), (1, .ref (A 0)), (2, .ref (A 60)), (3, .ref (A 63)), (4, .int x4)]) hx hb d_La_law_1430 hl (by decide) rfl (fun ls hl => ?_)
    replace hP := kp_P (kp_perm A u z.2 (vp_updL f 0 v.toInt64)).symm hP
    replace hD := kp_D (kp_perm A u z.2 (vp_updL f 0 v.toInt64)).symm hD
    refine lv_goto (tgt := 1460) hx hb d_La_law_1432 (by decide) ?_
    refine W.widen (k := cells + 1) (n := slots + 6) (by omega) (by omega) ?_
    exact kk u z.2 (vp_updL f 0 v.toInt64) _ _ _ hI hP hD hS (lv_sub hl [2, 3, 4, 5, 6] rfl)
  refine lv_aload_n hx hb d_La_law_1395 rfl (lv_at hl 1 rfl) ?_
  refine lv_aload_n hx hb d_La_law_1396 rfl (lv_at hl 0 rfl) ?_
  refine lv_iload hx hb d_La_law_1397 (lv_at hl 4 rfl) ?_
  refine lv_iconst (v := 1) hx hb d_La_law_1399 (by decide) ?_
  refine lv_iadd hx hb d_La_law_1400 ?_
  refine va_sld hx hb hX hbl hbA hS h1 d_La_law_1401 ?_
  refine lv_aload_n hx hb d_La_law_1402 rfl (lv_at hl 0 rfl) ?_
  refine lv_iload hx hb d_La_law_1403 (lv_at hl 4 rfl) ?_
  refine lv_iconst (v := 2) hx hb d_La_law_1405 (by decide) ?_
  refine lv_iadd hx hb d_La_law_1406 ?_
  refine va_sld hx hb hX hbl hbA hS h2 d_La_law_1407 ?_
  refine lv_aload_n hx hb d_La_law_1408 rfl (lv_at hl 3 rfl) ?_
  refine ka_i (vx_runSW (As := [.ref (A 0), .int (xs (x4 + 1).toNatClampNeg), .int (xs (x4 + 2).toNatClampNeg), .ref (A 63)]) (rest := []) S9 (c_La_in_err l hl9 D A (MW A ρ []) f _ σ (xs (x4 + 1).toNatClampNeg) (xs (x4 + 2).toNatClampNeg) k hk u e1) (vx_cwSW 4 hts (tg_SW wl_La_172 ws_La_in wi_La wo_La_in) rfl rfl rfl wq_La_in.2 ⟨Nat.le_of_ble_eq_true rfl, Nat.le_of_ble_eq_true rfl⟩) (ka_preC X9 hC hP hD hS) rfl rfl hl.1 rfl (lv_room (Nat.le_of_ble_eq_true rfl)) d_La_law_1409 ⟨hc, hsl⟩) X9 hD hS rfl (fun H locs hP hD hS => ?_)
  refine lv_istore (lv' := (5, .int (nI k)) :: [(0, .ref b), (1, .ref (A 0)), (2, .ref (A 60)), (3, .ref (A 63)), (4, .int x4)]) hx hb d_La_law_1412 hl (by decide) rfl (fun ls hl => ?_)
  refine lv_aload_n hx hb d_La_law_1414 rfl (lv_at hl 3 rfl) ?_
  refine lv_aload_n hx hb d_La_law_1415 rfl (lv_at hl 1 rfl) ?_
  refine lv_iload hx hb d_La_law_1416 (lv_at hl 5 rfl) ?_
  refine lv_iconst (v := 1) hx hb d_La_law_1418 (by decide) ?_
  refine lv_iadd hx hb d_La_law_1419 ?_
  refine va_sld hx hb hX hbl hbA hS h1 d_La_law_1420 ?_
  refine lv_aload_n hx hb d_La_law_1421 rfl (lv_at hl 1 rfl) ?_
  refine lv_iload hx hb d_La_law_1422 (lv_at hl 5 rfl) ?_
  refine lv_iconst (v := 2) hx hb d_La_law_1424 (by decide) ?_
  refine lv_iadd hx hb d_La_law_1425 ?_
  refine va_sld hx hb hX hbl hbA hS h2 d_La_law_1426 ?_
  replace hP := kp_P (kp_perm A u ρ f) hP
  replace hD := kp_D (kp_perm A u ρ f) hD
  refine ka_i (va_runV (As := [.int (xs (x4 + 1).toNatClampNeg), .int (xs (x4 + 2).toNatClampNeg)]) (rest := []) S9 (c_Mo_in l hl9 D A (GW A u [ka_oc A f]) _ ρ (xs (x4 + 1).toNatClampNeg) (xs (x4 + 2).toNatClampNeg) z e2) (cwV 2 hts (tg_V wl_La_174 wm_Mo_in we_Mo_in wi_Mo wo_Mo_in) rfl rfl rfl wq_Mo_in ⟨Nat.le_of_ble_eq_true rfl, Nat.le_of_ble_eq_true rfl⟩) (ka_preV X9 hP hD hS 0 rfl rfl) rfl rfl hl.1 rfl (lv_room (Nat.le_of_ble_eq_true rfl)) d_La_law_1427 ⟨hc, hsl⟩) X9 hD hS rfl (fun H locs hP hD hS => ?_)
  refine lv_istore (lv' := (6, .int z.1) :: (5, .int (nI k)) :: [(0, .ref b), (1, .ref (A 0)), (2, .ref (A 60)), (3, .ref (A 63)), (4, .int x4)]) hx hb d_La_law_1430 hl (by decide) rfl (fun ls hl => ?_)
  replace hP := kp_P (kp_perm A u z.2 f).symm hP
  replace hD := kp_D (kp_perm A u z.2 f).symm hD
  refine lv_goto (tgt := 1460) hx hb d_La_law_1432 (by decide) ?_
  refine W.widen (k := cells + 1) (n := slots + 6) (by omega) (by omega) ?_
  exact kk u z.2 f _ _ _ hI hP hD hS (lv_sub hl [2, 3, 4, 5, 6] rfl)
set_option maxRecDepth 100000 in
set_option maxHeartbeats 4000000 in
theorem lc_23 {p : Program} {l : Launch} {e : Env} {s : State} {m : MethodId} {below : List Frame} {meth : Method} {c : Code} {b L : Nat} {xs : Nat → Int32} {D : va_G} {A : Nat → Nat} (I : KS → RS → Prop) (X : lx_ p l s m meth c b L xs D A) {cells slots : Nat} (hc : cells + 1 ≤ room_1.cells) (hsl : slots + 6 ≤ room_1.slots) (x4 : Int32) (h1 : vp_in (x4 + 1) L) (σ : KS) (ρ : RS) (f : Nat → Int64) (sim : ∀ x1 : Int32, ∃ (v : Int32) (z : Int32 × RS), f_Ke_count σ x1 = some v ∧ f_Mo_count ρ x1 = some z ∧ I σ z.2) {H : Heap} {locs : List Loc} {ls : Array Slot} (hP : va_P D vwCl (kp_C A σ ρ f) H) (hD : va_D (fun q : Nat => s.heap.size ≤ q) (kp_C A σ ρ f)) (hS : va_S (fun q : Nat => s.heap.size ≤ q) s.heap H locs) (hl : lv_has ls 7 [(0, .ref b), (1, .ref (A 0)), (2, .ref (A 60)), (3, .ref (A 63)), (4, .int x4)])
    (kk : ∀ (u : KS) (ρ1 : RS) (f1 : Nat → Int64) (H : Heap) (locs : List Loc) (ls : Array Slot), I u ρ1 → va_P D vwCl (kp_C A u ρ1 f1) H → va_D (fun q : Nat => s.heap.size ≤ q) (kp_C A u ρ1 f1) → va_S (fun q : Nat => s.heap.size ≤ q) s.heap H locs → lv_has ls 7 [(0, .ref b), (1, .ref (A 0)), (2, .ref (A 60)), (3, .ref (A 63)), (4, .int x4)] → W p l e room_1 s m #[Value.ref b] below meth c H locs (cells + 1) (slots + 6) (lw_Z below #[Value.ref b] s) (F0 m 1460 ls [])) : W p l e room_1 s m #[Value.ref b] below meth c H locs cells slots (lw_Z below #[Value.ref b] s) (F0 m 1435 ls []) := by
  obtain ⟨hl9, S9, hX, hbl, hlk, hr, hC, X9⟩ := X
  obtain ⟨hx, hb, hml, hown, hts⟩ := id S9
  have hK := X9.2.1
  have hbA : ¬ (fun q : Nat => s.heap.size ≤ q) b := Nat.not_le.mpr hbl
  obtain ⟨v, z, e1, e2, hI⟩ := sim (xs (x4 + 1).toNatClampNeg)
  refine lv_aload_n hx hb d_La_law_1435 rfl (lv_at hl 1 rfl) ?_
  refine lv_aload_n hx hb d_La_law_1436 rfl (lv_at hl 0 rfl) ?_
  refine lv_iload hx hb d_La_law_1437 (lv_at hl 4 rfl) ?_
  refine lv_iconst (v := 1) hx hb d_La_law_1439 (by decide) ?_
  refine lv_iadd hx hb d_La_law_1440 ?_
  refine va_sld hx hb hX hbl hbA hS h1 d_La_law_1441 ?_
  refine ka_i (va_runV (As := [.int (xs (x4 + 1).toNatClampNeg)]) (rest := []) S9 (c_Ke_count l hl9 D A (ka_oc A f :: MW A ρ []) _ σ (xs (x4 + 1).toNatClampNeg) v e1) (cwV 1 hts (tg_V wl_La_175 wm_Ke_count we_Ke_count wi_Ke wo_Ke_count) rfl rfl rfl wq_Ke_count ⟨Nat.le_of_ble_eq_true rfl, Nat.le_of_ble_eq_true rfl⟩) (ka_preV X9 hP hD hS 0 rfl rfl) rfl rfl hl.1 rfl (lv_room (Nat.le_of_ble_eq_true rfl)) d_La_law_1442 ⟨Nat.le_trans (Nat.le_succ _) hc, Nat.le_trans (Nat.le_add_right _ 6) hsl⟩) X9 hD hS rfl (fun H locs hP hD hS => ?_)
  refine lv_pop hx hb d_La_law_1445 rfl ?_
  refine lv_aload_n hx hb d_La_law_1446 rfl (lv_at hl 2 rfl) ?_
  refine lv_aload_n hx hb d_La_law_1447 rfl (lv_at hl 0 rfl) ?_
  refine lv_iload hx hb d_La_law_1448 (lv_at hl 4 rfl) ?_
  refine lv_iconst (v := 1) hx hb d_La_law_1450 (by decide) ?_
  refine lv_iadd hx hb d_La_law_1451 ?_
  refine va_sld hx hb hX hbl hbA hS h1 d_La_law_1452 ?_
  replace hP := kp_P (kp_perm A σ ρ f) hP
  replace hD := kp_D (kp_perm A σ ρ f) hD
  refine ka_i (va_runV (As := [.int (xs (x4 + 1).toNatClampNeg)]) (rest := []) S9 (c_Mo_count l hl9 D A (GW A σ [ka_oc A f]) _ ρ (xs (x4 + 1).toNatClampNeg) z e2) (cwV 1 hts (tg_V wl_La_178 wm_Mo_count we_Mo_count wi_Mo wo_Mo_count) rfl rfl rfl wq_Mo_count ⟨Nat.le_of_ble_eq_true rfl, Nat.le_of_ble_eq_true rfl⟩) (ka_preV X9 hP hD hS 0 rfl rfl) rfl rfl hl.1 rfl (lv_room (Nat.le_of_ble_eq_true rfl)) d_La_law_1453 ⟨Nat.le_trans (Nat.le_succ _) hc, Nat.le_trans (Nat.le_add_right _ 6) hsl⟩) X9 hD hS rfl (fun H locs hP hD hS => ?_)
  replace hP := kp_P (kp_perm A σ z.2 f).symm hP
  replace hD := kp_D (kp_perm A σ z.2 f).symm hD
  refine lv_pop hx hb d_La_law_1456 rfl ?_
  refine lv_goto (tgt := 1460) hx hb d_La_law_1457 (by decide) ?_
  refine W.widen (k := cells + 1) (n := slots + 6) (by omega) (by omega) ?_
  exact kk σ z.2 f _ _ _ hI hP hD hS hl
