/-! the law's wrappers: a call of the class, its answer into the row 'out', or the exception's number -/
/-- which exceptions pass which handlers -/
def ka_C (U : State) : Prop := va_Nc "java/util/NoSuchElementException" "java/lang/IllegalArgumentException" U ∧ va_Nc "java/lang/UnsupportedOperationException" "java/lang/IllegalArgumentException" U ∧ va_Nc "java/lang/UnsupportedOperationException" "java/util/NoSuchElementException" U ∧ va_Nc "java/lang/IllegalStateException" "java/lang/IllegalArgumentException" U ∧ va_Nc "java/lang/IllegalStateException" "java/util/NoSuchElementException" U ∧ va_Nc "java/lang/IllegalStateException" "java/lang/UnsupportedOperationException" U
theorem ka_C.moved {u U : State} (hvm : u.vm.Alike U.vm) (h : ka_C u) : ka_C U := ⟨h.1.moved hvm, h.2.1.moved hvm, h.2.2.1.moved hvm, h.2.2.2.1.moved hvm, h.2.2.2.2.1.moved hvm, h.2.2.2.2.2.moved hvm⟩
abbrev ka_Wc (D : va_G) (A : Nat → Nat) (w : va_W) (sz : Nat) (U : State) : Prop := ka_Wd D A w sz U ∧ ka_C U
theorem ka_blindC {av : List Value} {D : va_G} {A : Nat → Nat} {w : va_W} {sz : Nat} : FrameBlind (va_Pc av (ka_Wc D A w sz)) := by
  intro a U g mk h
  obtain ⟨h0, h1, h2⟩ := h
  obtain ⟨-, h3⟩ := ka_blind (av := av) a U g mk ⟨h0, h1⟩
  exact ⟨h0, h3, ka_C.moved (u := U) (U := U.calling g mk a) (Vm.Alike.refl U.vm) h2⟩
/-- the law's row of one long -/
abbrev ka_oc (A : Nat → Nat) (f : Nat → Int64) : Nat × va_E := (A 63, .inl (A 902, 1, .inr (.inl f)))
theorem tg_SW {own : String} {i : Nat} {y : MethodName} {b : ByteArray} {n : Nat} {r : Option FieldType} {hh : List (Nat × Nat × Nat × Nat)} (h1 : Cond.methodLink own i y ∈ T0) (h2 : Cond.static y ∈ T0) (h4 : Cond.initialized y.cls ∈ T0) (h5 : Cond.codeWith y b n r hh ∈ T0) : GoodIn T0 (va_wsS own i y (Cond.codeWith y b n r hh :: T0)) := by
  refine tg_in (fun w hw => ?_)
  unfold va_wsS at hw
  simp only [List.cons_append, List.nil_append, List.mem_cons] at hw
  rcases hw with rfl | rfl | rfl | rfl | hw
  · exact h1
  · exact h2
  · exact h4
  · exact h5
  · exact hw
/-- a method with a table of its own that returns: its body's walk -/
theorem ka_ofT {l : Launch} {y : MethodName} {cc : ByteArray} {nL : Nat} {ret : Option FieldType} {hh : List (Nat × Nat × Nat × Nat)} {rm : Room} {own : String} {av : List Value} {D : va_G} {A : Nat → Nat} {w : va_W} {sz mc ms : Nat} (Q : (Nat → Prop) → Array Value → State → Outcome → State → Prop)
    (hy : plainName y.cls = true) (ho : y.cls = own) (hn : (lg_sl av).length ≤ nL)
    (body : ∀ (p : Program) (e : Env) (s : State) (m : MethodId) (below : List Frame) (meth : Method) (c : Code) (A9 : Nat → Prop) (ls : Array Slot), CallFix p m c cc nL s av.toArray T0 own → meth.sig.returnType = ret → meth.locks = false → c.exceptionTable.toList = tableOf hh → ka_C s → ka_X D A A9 s → va_P D vwCl w s.heap → va_D A9 w → lv_has ls nL (lv_args 0 av) →
      W p l e rm s m av.toArray below meth c s.heap [] 0 0 (MQ below (Q A9) av.toArray s mc ms A9) (F0 m 0 ls [])) :
    Met l y (Cond.codeWith y cc nL ret hh :: T0) rm (va_Pc av (ka_Wc D A w sz)) (Q (va_A w sz)) mc ms (va_A w sz) := by
  refine va_MetW (cc := cc) (maxL := nL) (ret := ret) (hh := hh) hy rfl ?_
  intro p e s m args below meth c s₁ B hml hv
  obtain ⟨rfl, ⟨hsz, hP, hK, hD0, hU, hN, hB⟩, hC⟩ := hv
  have hts := atoms_spec (ws := Cond.codeWith y cc nL ret hh :: T0) B.pre
  have hown : s.vm.findClass own = some m.cls := by rw [← ho]; exact findClass_of_methodNamed B.named
  subst hsz
  have hD := hD0.self (sz := s.heap.size)
  have hA : ∀ q : Nat, s.heap.size ≤ q → va_A w s.heap.size q := fun q h => Or.inr h
  rw [lg_entry_eq]
  exact body p e s m below meth c _ _ ⟨B.exec, B.bytes, hml, hown, fun w h => hts w (List.mem_cons_of_mem _ h)⟩ B.returns B.notSynchronized (vx_table (x := y) B (hts _ List.mem_cons_self)) hC ⟨hA, hK, hU, hN, hB⟩ hP hD (lv_entry av hn)
section KE
variable {p : Program} {l : Launch} {e : Env} {R : Room} {s : State} {m : MethodId} {args : Array Value} {below : List Frame} {meth : Method} {c : Code} {H : Heap} {locs : List Loc} {cells slots : Nat} {Q : State → Prop}
variable {pc : Nat} {ls : Array Slot} {rest st0 : List Value} {a : Array Value} {A9 : Nat → Prop} {mc ms : Nat} {D : va_G} {A : Nat → Nat} {w w' : va_W}
theorem ka_preC {As : List Value} (X : ka_X D A A9 s) (hC : ka_C s) (hP : va_P D vwCl w H) (hD : va_D A9 w) (hS : va_S A9 s.heap H locs) : PreS s H (va_Pc As (ka_Wc D A w H.size)) As :=
  ⟨ka_blindC, fun U hU hW => ⟨rfl, ka_Wd_of X hP hD hS U hU hW, hC.moved hW.alike⟩⟩
/-- a callee that throws, caught here -/
theorem ka_caught {k : Nat} (hr : vx_Run p l e R s m args below meth c H locs cells slots mc ms (F0 m pc ls st0) rest (ka_No a) (ka_Xe D k w' (va_A w H.size)) (va_A w H.size)) (X : ka_X D A A9 s) (hD : va_D A9 w) (hS : va_S A9 s.heap H locs) (ha : w'.map Prod.fst = w.map Prod.fst)
    (kk : ∀ (ce : Cell) (q9 : Addr) (H1 : Heap) (locs1 : List Loc), va_P D vwCl w' H1 → va_D A9 w' → va_S A9 s.heap H1 locs1 → H1[q9]? = some ce → ce.vm = .none → s.vm.findClass (ka_ex k) = some ce.cls → vx_W p l e R s m args below meth c H1 locs1 (cells + mc) (slots + ms) Q (F0 m pc ls rest) q9) : W p l e R s m args below meth c H locs cells slots Q (F0 m pc ls st0) := by
  intro T hT XX
  rcases hr T hT XX with ⟨v, st₀, t, T', L, h0, X', hL, e1, e2, ⟨⟨u, hv, hp, hb⟩, hF⟩, st⟩ | ⟨q, st₀, t, T', L, E, ce, h0, X', hL, e1, e2, ⟨u, hp, hb, hF⟩, hce, hcv, hcl, st⟩
  · exact hp.elim
  · obtain ⟨k1, k2, k3⟩ := vx_keep h0 e1 hS (fun q _ h => ka_free X hD hS q h) (ka_free X hD hS) hL hF
    obtain ⟨hE, hPw⟩ := hb
    subst hE
    obtain ⟨t2, a1, b1⟩ := kk ce q T'.heap (locs ++ L) (by rw [e1]; exact hPw) (ka_Dm ha hD) k3 (by rw [e1]; exact hce) hcv hcl T' rfl X'
    exact ⟨t2, st.trans a1, b1⟩
end KE
