/-! MY ROWS: a class's methods as pure functions of a state; the machine does what they say -/
-- ===== pure helpers: f_ functions answer none where an index is out of range, a loop beyond its fuel
def zo_ushr (x y : Int32) : Int32 := (x.toUInt32 >>> (y.toUInt32 &&& Int32.toUInt32 31)).toInt32
theorem zo_i {α : Type} {c : Prop} [Decidable c] {a : Option α} {z : α} (h : (if c then none else a) = some z) : ¬ c ∧ a = some z := by
  by_cases hc : c
  · rw [if_pos hc] at h; cases h
  · rw [if_neg hc] at h; exact ⟨hc, h⟩
theorem zo_g {α : Type} {c : Prop} [Decidable c] {a : Option α} {z : α} (h : (if c then a else none) = some z) : c ∧ a = some z := by
  by_cases hc : c
  · rw [if_pos hc] at h; exact ⟨hc, h⟩
  · rw [if_neg hc] at h; cases h
theorem zo_t {α : Type} {c : Prop} [Decidable c] {a b r : α} (hc : c) (h : (if c then a else b) = r) : a = r := by
  rw [if_pos hc] at h; exact h
theorem zo_f {α : Type} {c : Prop} [Decidable c] {a b r : α} (hc : ¬ c) (h : (if c then a else b) = r) : b = r := by
  rw [if_neg hc] at h; exact h
theorem zo_n {α : Type} {c : Prop} [Decidable c] {a b r : α} (h : (if c then a else b) = r) : (c ∧ a = r) ∨ (¬ c ∧ b = r) := by
  by_cases hc : c
  · exact Or.inl ⟨hc, zo_t hc h⟩
  · exact Or.inr ⟨hc, zo_f hc h⟩
theorem zo_b {α β : Type} {x : Option β} {f : β → Option α} {z : α} (h : x.bind f = some z) : ∃ y, x = some y ∧ f y = some z := by
  cases x with
  | none => cases h
  | some y => exact ⟨y, rfl, h⟩
/-- a state gets a name -/
def zl {α β : Type} (x : α) (f : α → β) : β := f x
theorem zo_l {α β : Type} {x : α} {f : α → β} {z : β} (h : zl x f = z) : ∃ u, u = x ∧ f u = z := ⟨x, rfl, h⟩
/-- after a method that may throw -/
def zx {α β κ : Type} (x : Option (Except Nat β × κ)) (f : β → κ → Option (Except Nat α × κ)) : Option (Except Nat α × κ) := match x with
  | none => none
  | some (.ok v, u) => f v u
  | some (.error k, u) => some (.error k, u)
theorem zo_x {α β κ : Type} {x : Option (Except Nat β × κ)} {f : β → κ → Option (Except Nat α × κ)} {z : Except Nat α × κ} (h : zx x f = some z) : (∃ k u, x = some (.error k, u) ∧ z = (.error k, u)) ∨ (∃ v u, x = some (.ok v, u) ∧ f v u = some z) := by
  match x, h with
  | none, h => cases h
  | some (.ok v, u), h => exact Or.inr ⟨v, u, rfl, h⟩
  | some (.error k, u), h => exact Or.inl ⟨k, u, rfl, (Option.some.inj h).symm⟩
theorem zo_e {α κ : Type} {k k' : Nat} {u u' : κ} (h : (some (Except.error k, u) : Option (Except Nat α × κ)) = some (Except.error k', u')) : k = k' ∧ u = u' := by
  cases h; exact ⟨rfl, rfl⟩
theorem zo_nar {v : Int32} (h : vp_nar .boolean v = v) : narrow .boolean (.int v) = .int v := by
  have e : narrow .boolean (.int v) = .int (vp_nar .boolean v) := rfl
  rw [e, h]
-- ===== the world of a method
/-- the words of a throw that a warming keeps, though they aren't 'good' -/
def ka_NB : List Cond := [.castable "java/lang/IllegalArgumentException" "java/lang/IllegalArgumentException", .castable "java/util/NoSuchElementException" "java/util/NoSuchElementException", .castable "java/lang/UnsupportedOperationException" "java/lang/UnsupportedOperationException", .castable "java/lang/IllegalStateException" "java/lang/IllegalStateException",
  .declares ⟨"java/lang/RuntimeException", "<init>", "()V"⟩, .declares ⟨"java/lang/Exception", "<init>", "()V"⟩, .declares ⟨"java/lang/Throwable", "<init>", "()V"⟩]
def ka_N (U : State) : Prop := ∀ w ∈ ka_NB, va_Nw w U
theorem ka_N.moved {s U : State} (hW : s.WarmedH U.vm) (h : ka_N s) : ka_N U := by
  intro w hw
  have h0 := h w hw
  simp only [ka_NB, List.mem_cons, List.not_mem_nil, or_false] at hw
  rcases hw with rfl | rfl | rfl | rfl | rfl | rfl | rfl
  · exact va_Nw.warmC hW h0
  · exact va_Nw.warmC hW h0
  · exact va_Nw.warmC hW h0
  · exact va_Nw.warmC hW h0
  · exact va_Nw.warmD hW h0
  · exact va_Nw.warmD hW h0
  · exact va_Nw.warmD hW h0
theorem ka_N.same {s U : State} (h9 : s.vm = U.vm) (h : ka_N s) : ka_N U := by
  intro w hw
  have h0 := h w hw
  simp only [ka_NB, List.mem_cons, List.not_mem_nil, or_false] at hw
  rcases hw with rfl | rfl | rfl | rfl | rfl | rfl | rfl <;> exact va_Nw.same rfl h9 h0
theorem ka_N.use {U : State} {args : Array Value} (h : ka_N U) : ∀ w ∈ ka_NB, w.before args U = true := by
  intro w hw
  have h0 := h w hw
  simp only [ka_NB, List.mem_cons, List.not_mem_nil, or_false] at hw
  rcases hw with rfl | rfl | rfl | rfl | rfl | rfl | rfl <;> exact va_Nw.use rfl h0
abbrev ka_ty (A : Nat → Nat) : List (ClassId × FieldType) := [(A 900, .int), (A 901, .boolean), (A 902, .long)]
def ka_Wd (D : va_G) (A : Nat → Nat) (w : va_W) (sz : Nat) (U : State) : Prop :=
  U.heap.size = sz ∧ va_P D vwCl w U.heap ∧ va_K D vwCl (ka_ty A) U ∧ va_D (fun _ => True) w ∧ vx_Zq Bundle.tN "UNASSIGNED_STACK" Bundle.steD (va_A w sz) U U.heap ∧ vx_Zq Bundle.tN "SUPPRESSED_SENTINEL" Bundle.listD (va_A w sz) U U.heap ∧ ka_N U
theorem ka_blind {av : List Value} {D : va_G} {A : Nat → Nat} {w : va_W} {sz : Nat} : FrameBlind (va_Pc av (ka_Wd D A w sz)) := by
  intro a U g mk h
  obtain ⟨h0, h1, h2, h3, h4, h5, h6, h7⟩ := h
  exact ⟨h0, h1, h2, va_K.moved (u := U) (U := U.calling g mk a) (Vm.Alike.refl U.vm) h3, h4, vx_Zq.moved (u := U) (U := U.calling g mk a) (Vm.Alike.refl U.vm) h5, vx_Zq.moved (u := U) (U := U.calling g mk a) (Vm.Alike.refl U.vm) h6, ka_N.same (s := U) rfl h7⟩
/-- what stays as it is while a method runs -/
def ka_X (D : va_G) (A : Nat → Nat) (A9 : Nat → Prop) (s : State) : Prop := (∀ q, s.heap.size ≤ q → A9 q) ∧ va_K D vwCl (ka_ty A) s ∧ vx_Zq Bundle.tN "UNASSIGNED_STACK" Bundle.steD A9 s s.heap ∧ vx_Zq Bundle.tN "SUPPRESSED_SENTINEL" Bundle.listD A9 s s.heap ∧ ka_N s
theorem ka_free {D : va_G} {A : Nat → Nat} {A9 : Nat → Prop} {s : State} {w : va_W} {H : Heap} {locs : List Loc} (X : ka_X D A A9 s) (hD : va_D A9 w) (hS : va_S A9 s.heap H locs) : ∀ q, va_A w H.size q → A9 q := by
  intro q h
  rcases h with ⟨k, e, h⟩ | h
  · exact hD.2 k (q, e) h
  · exact X.1 q (Nat.le_trans hS.1 h)
theorem ka_Wd_of {D : va_G} {A : Nat → Nat} {A9 : Nat → Prop} {s : State} {w : va_W} {H : Heap} {locs : List Loc} (X : ka_X D A A9 s) (hP : va_P D vwCl w H) (hD : va_D A9 w) (hS : va_S A9 s.heap H locs) : ∀ U : State, U.heap = H → s.WarmedH U.vm → ka_Wd D A w H.size U := fun U hU hW =>
  ⟨by rw [hU], by rw [hU]; exact hP, va_K.moved hW.alike X.2.1, hD.weaken (fun _ _ _ _ => trivial),
   by rw [hU]; exact vx_Zq.moved hW.alike ((X.2.2.1.kept hS.2.1).narrow (ka_free X hD hS)), by rw [hU]; exact vx_Zq.moved hW.alike ((X.2.2.2.1.kept hS.2.1).narrow (ka_free X hD hS)), X.2.2.2.2.moved hW⟩
theorem ka_Dm {A9 : Nat → Prop} {w w' : va_W} (ha : w'.map Prod.fst = w.map Prod.fst) (hD : va_D A9 w) : va_D A9 w' := by
  have back : ∀ (k : Nat) (q : Nat × va_E), w'[k]? = some q → ∃ e, w[k]? = some (q.1, e) := by
    intro k q hk
    have h1 : (w'.map Prod.fst)[k]? = some q.1 := by rw [List.getElem?_map, hk]; rfl
    rw [ha, List.getElem?_map] at h1
    cases hw : w[k]? with
    | none => rw [hw] at h1; cases h1
    | some x =>
      rw [hw] at h1
      obtain ⟨a, e⟩ := x
      cases h1
      exact ⟨e, rfl⟩
  refine ⟨fun i j p q hi hj hpq => ?_, fun k q hk => ?_⟩
  · obtain ⟨e1, h1⟩ := back i p hi
    obtain ⟨e2, h2⟩ := back j q hj
    exact hD.1 i j _ _ h1 h2 hpq
  · obtain ⟨e1, h1⟩ := back k q hk
    exact hD.2 k (q.1, e1) h1

theorem ka_at {D : va_G} {w : va_W} {t : State} {H : Heap} (ht : t.heap = H) (hP : va_P D vwCl w H) : va_P D vwCl w t.heap := by
  rw [ht]; exact hP
-- ===== ends of a contract
abbrev ka_Ri (D : va_G) (z : Int32) (w' : va_W) (A9 : Nat → Prop) : Array Value → State → Outcome → State → Prop := va_Qi (fun (r : Int32) (_ : Unit) => r = z) (fun _ t => va_P D vwCl w' t.heap) A9
abbrev ka_Rv (D : va_G) (w' : va_W) (A9 : Nat → Prop) : Array Value → State → Outcome → State → Prop := va_Qv (fun (_ : Unit) => True) (fun _ t => va_P D vwCl w' t.heap) A9
def ka_ex (k : Nat) : String := if k = 1 then "java/lang/IllegalArgumentException" else if k = 2 then "java/util/NoSuchElementException" else if k = 3 then "java/lang/UnsupportedOperationException" else "java/lang/IllegalStateException"
abbrev ka_No : Array Value → State → Outcome → State → Prop := va_Qv (fun (_ : Unit) => False) (fun _ _ => True) (fun _ => True)
abbrev ka_Xe (D : va_G) (k : Nat) (w' : va_W) (A9 : Nat → Prop) : String → State → State → Prop := vx_X (fun (_ : Unit) => True) (fun E _ t => E = ka_ex k ∧ va_P D vwCl w' t.heap) A9
/-- a method that returns: its body's walk -/
theorem ka_of {l : Launch} {y : MethodName} {cc : ByteArray} {nL : Nat} {ret : Option FieldType} {rm : Room} {own : String} {av : List Value} {D : va_G} {A : Nat → Nat} {w : va_W} {sz mc ms : Nat} (Q : (Nat → Prop) → Array Value → State → Outcome → State → Prop)
    (hy : plainName y.cls = true) (ho : y.cls = own) (hn : (lg_sl av).length ≤ nL)
    (body : ∀ (p : Program) (e : Env) (s : State) (m : MethodId) (below : List Frame) (meth : Method) (c : Code) (A9 : Nat → Prop) (ls : Array Slot), CallFix p m c cc nL s av.toArray T0 own → meth.sig.returnType = ret → meth.locks = false → (meth.name = y.name) → ka_X D A A9 s → va_P D vwCl w s.heap → va_D A9 w → lv_has ls nL (lv_args 0 av) →
      W p l e rm s m av.toArray below meth c s.heap [] 0 0 (MQ below (Q A9) av.toArray s mc ms A9) (F0 m 0 ls [])) :
    Met l y (Cond.code y cc nL ret :: T0) rm (va_Pc av (ka_Wd D A w sz)) (Q (va_A w sz)) mc ms (va_A w sz) := by
  refine Met.ofW (cc := cc) (maxL := nL) (ret := ret) hy rfl ?_
  intro p e s m args below meth c s₁ B hml hv
  obtain ⟨rfl, hsz, hP, hK, hD0, hU, hN, hB⟩ := hv
  have hts := atoms_spec (ws := Cond.code y cc nL ret :: T0) B.pre
  have hown : s.vm.findClass own = some m.cls := by rw [← ho]; exact findClass_of_methodNamed B.named
  subst hsz
  have hD := hD0.self (sz := s.heap.size)
  have hA : ∀ q : Nat, s.heap.size ≤ q → va_A w s.heap.size q := fun q h => Or.inr h
  rw [lg_entry_eq]
  exact body p e s m below meth c _ _ ⟨B.exec, B.bytes, hml, hown, fun w h => hts w (List.mem_cons_of_mem _ h)⟩ B.returns B.notSynchronized (name_of_methodNamed B.named B.method).1 ⟨hA, hK, hU, hN, hB⟩ hP hD (lv_entry av hn)
/-- a method that throws: its body's walk -/
theorem ka_ofX {l : Launch} {y : MethodName} {cc : ByteArray} {nL : Nat} {ret : Option FieldType} {rm : Room} {own : String} {av : List Value} {D : va_G} {A : Nat → Nat} {w : va_W} {sz mc ms : Nat} (XC : (Nat → Prop) → String → State → State → Prop)
    (hy : plainName y.cls = true) (ho : y.cls = own) (hn : (lg_sl av).length ≤ nL)
    (body : ∀ (p : Program) (e : Env) (s : State) (m : MethodId) (below : List Frame) (meth : Method) (c : Code) (A9 : Nat → Prop) (ls : Array Slot), CallFix p m c cc nL s av.toArray T0 own → meth.sig.returnType = ret → meth.locks = false → (∀ x ∈ c.exceptionTable.toList, False) → ka_X D A A9 s → va_P D vwCl w s.heap → va_D A9 w → lv_has ls nL (lv_args 0 av) →
      W p l e rm s m av.toArray below meth c s.heap [] 0 0 (vx_MQ below ka_No (XC A9) av.toArray s mc ms A9) (F0 m 0 ls [])) :
    vx_Met l y (Cond.code y cc nL ret :: T0) rm (va_Pc av (ka_Wd D A w sz)) ka_No (XC (va_A w sz)) mc ms (va_A w sz) := by
  refine vx_ofW (cc := cc) (maxL := nL) (ret := ret) hy rfl ?_
  intro p e s m args below meth c s₁ B hml hx hv
  obtain ⟨rfl, hsz, hP, hK, hD0, hU, hN, hB⟩ := hv
  have hts := atoms_spec (ws := Cond.code y cc nL ret :: T0) B.pre
  have hown : s.vm.findClass own = some m.cls := by rw [← ho]; exact findClass_of_methodNamed B.named
  subst hsz
  have hD := hD0.self (sz := s.heap.size)
  have hA : ∀ q : Nat, s.heap.size ≤ q → va_A w s.heap.size q := fun q h => Or.inr h
  rw [lg_entry_eq]
  exact body p e s m below meth c _ _ ⟨B.exec, B.bytes, hml, hown, fun w h => hts w (List.mem_cons_of_mem _ h)⟩ B.returns B.notSynchronized hx ⟨hA, hK, hU, hN, hB⟩ hP hD (lv_entry av hn)
-- ===== calls: the whole world goes along
section KC
variable {p : Program} {l : Launch} {e : Env} {R : Room} {s : State} {m : MethodId} {args : Array Value} {below : List Frame} {meth : Method} {c : Code} {H : Heap} {locs : List Loc} {cells slots : Nat} {Q : State → Prop}
variable {pc : Nat} {ls : Array Slot} {rest st0 : List Value} {a : Array Value} {A9 : Nat → Prop} {mc ms : Nat} {D : va_G} {A : Nat → Nat} {w w' : va_W}
theorem ka_preV {C : String} {b ci : Nat} {fs : List Value} {T : u_T} {N : Nat} {As : List Value} (X : ka_X D A A9 s) (hP : va_P D vwCl w H) (hD : va_D A9 w) (hS : va_S A9 s.heap H locs) (q0 : Nat) (he : w[q0]? = some (b, .inr (ci, fs))) (hc : vwCl[ci]? = some (C, T, N)) : PreV s H C b (va_Pc (.ref b :: As) (ka_Wd D A w H.size)) As :=
  ⟨ka_blind, va_recv X.2.1 hP hc he, fun U hU hW => ⟨rfl, ka_Wd_of X hP hD hS U hU hW⟩⟩
theorem ka_preS {As : List Value} (X : ka_X D A A9 s) (hP : va_P D vwCl w H) (hD : va_D A9 w) (hS : va_S A9 s.heap H locs) : PreS s H (va_Pc As (ka_Wd D A w H.size)) As :=
  ⟨ka_blind, fun U hU hW => ⟨rfl, ka_Wd_of X hP hD hS U hU hW⟩⟩
theorem ka_i {z : Int32} (hr : va_Run p l e R s m args below meth c H locs cells slots mc ms (F0 m pc ls st0) rest (ka_Ri D z w' (va_A w H.size) a) (va_A w H.size)) (X : ka_X D A A9 s) (hD : va_D A9 w) (hS : va_S A9 s.heap H locs) (ha : w'.map Prod.fst = w.map Prod.fst)
    (kk : ∀ (H1 : Heap) (locs1 : List Loc), va_P D vwCl w' H1 → va_D A9 w' → va_S A9 s.heap H1 locs1 → W p l e R s m args below meth c H1 locs1 (cells + mc) (slots + ms) Q (F0 m (pc + 3) ls (.int z :: rest))) : W p l e R s m args below meth c H locs cells slots Q (F0 m pc ls st0) :=
  va_calli hr hS (fun q _ h => ka_free X hD hS q h) (ka_free X hD hS) (fun r u t H1 locs1 ht hvm hw hB hz hk hS1 => by
    subst hw
    rw [ht] at hB
    exact kk H1 locs1 hB (ka_Dm ha hD) hS1)
theorem ka_v (hr : va_Run p l e R s m args below meth c H locs cells slots mc ms (F0 m pc ls st0) rest (ka_Rv D w' (va_A w H.size) a) (va_A w H.size)) (X : ka_X D A A9 s) (hD : va_D A9 w) (hS : va_S A9 s.heap H locs) (ha : w'.map Prod.fst = w.map Prod.fst)
    (kk : ∀ (H1 : Heap) (locs1 : List Loc), va_P D vwCl w' H1 → va_D A9 w' → va_S A9 s.heap H1 locs1 → W p l e R s m args below meth c H1 locs1 (cells + mc) (slots + ms) Q (F0 m (pc + 3) ls rest)) : W p l e R s m args below meth c H locs cells slots Q (F0 m pc ls st0) :=
  va_callv hr hS (fun q _ h => ka_free X hD hS q h) (ka_free X hD hS) (fun u t H1 locs1 ht hvm hw hB hz hk hS1 => by
    rw [ht] at hB
    exact kk H1 locs1 hB (ka_Dm ha hD) hS1)
/-- a callee that throws: this method throws it on -/
theorem ka_err {k mc9 ms9 : Nat} (hr : vx_Run p l e R s m args below meth c H locs cells slots mc ms (F0 m pc ls st0) rest (ka_No a) (ka_Xe D k w' (va_A w H.size)) (va_A w H.size)) (hlk : meth.locks = false) (hex : ∀ x ∈ c.exceptionTable.toList, False) (X : ka_X D A A9 s) (hD : va_D A9 w) (hS : va_S A9 s.heap H locs) (h1 : cells + mc ≤ mc9) (h2 : slots + ms ≤ ms9) :
    W p l e R s m args below meth c H locs cells slots (vx_MQ below ka_No (ka_Xe D k w' A9) args s mc9 ms9 A9) (F0 m pc ls st0) := by
  intro T hT XX
  rcases hr T hT XX with ⟨v, st₀, t, T', L, h0, X', hL, e1, e2, ⟨⟨u, hv, hp, hb⟩, hF⟩, st⟩ | ⟨q, st₀, t, T', L, E, ce, h0, X', hL, e1, e2, ⟨u, hp, hb, hF⟩, hce, hcv, hcl, st⟩
  · exact hp.elim
  · obtain ⟨k1, k2, k3⟩ := vx_keep h0 e1 hS (fun q _ h => ka_free X hD hS q h) (ka_free X hD hS) hL hF
    obtain ⟨hE, hPw⟩ := hb
    have K : vx_W p l e R s m args below meth c T'.heap (locs ++ L) (cells + mc) (slots + ms) (vx_MQ below ka_No (ka_Xe D k w' A9) args s mc9 ms9 A9) (F0 m pc ls rest) q :=
      vx_out (E := E) (fun x hx => (hex x hx).elim) hlk (by rw [e1]; exact hce) hcv hcl (fun t9 ht9 _ => ⟨(), trivial, ⟨hE, by rw [ht9, e1]; exact hPw⟩, k3.F ht9⟩) k3.2.2 h1 h2
    obtain ⟨t2, a1, b1⟩ := K T' rfl X'
    exact ⟨t2, st.trans a1, b1⟩
end KC
section KT
variable {p : Program} {l : Launch} {e : Env} {R : Room} {s : State} {m : MethodId} {args : Array Value} {below : List Frame} {meth : Method} {c : Code} {H : Heap} {locs : List Loc} {cells slots : Nat} {Q : State → Prop}
variable {cc : ByteArray} {pc : Nat} {ls : Array Slot} {rest : List Value}
theorem ka_tabIn (hexec : p.tables.exec = Jvm.exec) (hb : c.code = cc) {dflt lo hi : Int} {offs : Array Int} {len : Nat} {x k : Int32} {off : Int} {tgt : Nat} (hdg : decode cc pc = .ok (.tableswitch dflt lo hi offs, len)) (e9 : x = k) (h1 : ¬ k.toInt < lo) (h2 : ¬ hi < k.toInt) (ho : offs[(k.toInt - lo).toNat]? = some off) (ht : (pc : Int) + off = (tgt : Int))
    (kk : W p l e R s m args below meth c H locs cells slots Q (F0 m tgt ls rest)) : W p l e R s m args below meth c H locs cells slots Q (F0 m pc ls (.int x :: rest)) := by
  subst e9
  exact lv_tableIn hexec hb hdg h1 h2 ho ht kk
theorem ka_lookIn (hexec : p.tables.exec = Jvm.exec) (hb : c.code = cc) {dflt : Int} {ps : Array (Int × Int)} {len : Nat} {x k : Int32} {off : Int} {tgt : Nat} (hdg : decode cc pc = .ok (.lookupswitch dflt ps, len)) (e9 : x = k) (hp : (ps.toList.zip (ps.toList.drop 1)).all (fun (a, next) => a.1 < next.1) = true) (ho : Op.lookupswitch.offset ps.toList dflt k.toInt = off) (ht : (pc : Int) + off = (tgt : Int))
    (kk : W p l e R s m args below meth c H locs cells slots Q (F0 m tgt ls rest)) : W p l e R s m args below meth c H locs cells slots Q (F0 m pc ls (.int x :: rest)) := by
  subst e9
  exact lv_lookup hexec hb hdg hp ho ht kk
end KT
