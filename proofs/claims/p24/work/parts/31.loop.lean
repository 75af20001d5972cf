/-- what the pure side owes: each call keeps the two states in step -/
def sm_0 (I : KS → RS → Prop) (σ : KS) (ρ : RS) : Prop := ∀ x1 x2 x3 : Int32, (∃ (v : Int32) (u : KS) (z : Int32 × RS), f_Ke_label σ x1 x2 x3 = some (.ok v, u) ∧ f_Mo_label ρ x1 x2 x3 = some z ∧ I u z.2) ∨ (∃ (k : Nat) (u : KS) (z : Int32 × RS), (k = 1 ∨ k = 2 ∨ k = 3 ∨ k = 4) ∧ f_Ke_label σ x1 x2 x3 = some (.error k, u) ∧ f_Mo_label ρ x1 x2 x3 = some z ∧ I u z.2)
def sm_1 (I : KS → RS → Prop) (σ : KS) (ρ : RS) : Prop := ∀ x1 x2 : Int32, (∃ (v : Int32) (u : KS) (z : Int32 × RS), f_Ke_level σ x1 x2 = some (.ok v, u) ∧ f_Mo_level ρ x1 x2 = some z ∧ I u z.2) ∨ (∃ (k : Nat) (u : KS) (z : Int32 × RS), (k = 1 ∨ k = 2 ∨ k = 3 ∨ k = 4) ∧ f_Ke_level σ x1 x2 = some (.error k, u) ∧ f_Mo_level ρ x1 x2 = some z ∧ I u z.2)
def sm_2 (I : KS → RS → Prop) (σ : KS) (ρ : RS) : Prop := ∀ x1 x2 x3 : Int32, (∃ (v : Int32) (u : KS) (z : Int32 × RS), f_Ke_fits σ x1 x2 x3 = some (.ok v, u) ∧ f_Mo_fits ρ x1 x2 x3 = some z ∧ I u z.2) ∨ (∃ (k : Nat) (u : KS) (z : Int32 × RS), (k = 1 ∨ k = 2 ∨ k = 3 ∨ k = 4) ∧ f_Ke_fits σ x1 x2 x3 = some (.error k, u) ∧ f_Mo_fits ρ x1 x2 x3 = some z ∧ I u z.2)
def sm_3 (I : KS → RS → Prop) (σ : KS) (ρ : RS) : Prop := ∀ x1 : Int32, (∃ (v : Int32) (u : KS) (z : Int32 × RS), f_Ke_category σ x1 = some (.ok v, u) ∧ f_Mo_category ρ x1 = some z ∧ I u z.2) ∨ (∃ (k : Nat) (u : KS) (z : Int32 × RS), (k = 1 ∨ k = 2 ∨ k = 3 ∨ k = 4) ∧ f_Ke_category σ x1 = some (.error k, u) ∧ f_Mo_category ρ x1 = some z ∧ I u z.2)
def sm_4 (I : KS → RS → Prop) (σ : KS) (ρ : RS) : Prop := ∀ x1 x2 x3 x4 : Int32, (∃ (v : Int32) (u : KS) (z : Int32 × RS), f_Ke_container σ x1 x2 x3 x4 = some (.ok v, u) ∧ f_Mo_container ρ x1 x2 x3 x4 = some z ∧ I u z.2) ∨ (∃ (k : Nat) (u : KS) (z : Int32 × RS), (k = 1 ∨ k = 2 ∨ k = 3 ∨ k = 4) ∧ f_Ke_container σ x1 x2 x3 x4 = some (.error k, u) ∧ f_Mo_container ρ x1 x2 x3 x4 = some z ∧ I u z.2)
def sm_5 (I : KS → RS → Prop) (σ : KS) (ρ : RS) : Prop := ∀ x1 x2 x3 x4 : Int32, (∃ (v : Int32) (u : KS) (z : Int32 × RS), f_Ke_segment σ x1 x2 x3 x4 = some (.ok v, u) ∧ f_Mo_segment ρ x1 x2 x3 x4 = some z ∧ I u z.2) ∨ (∃ (k : Nat) (u : KS) (z : Int32 × RS), (k = 1 ∨ k = 2 ∨ k = 3 ∨ k = 4) ∧ f_Ke_segment σ x1 x2 x3 x4 = some (.error k, u) ∧ f_Mo_segment ρ x1 x2 x3 x4 = some z ∧ I u z.2)
def sm_6 (I : KS → RS → Prop) (σ : KS) (ρ : RS) : Prop := ∀ x1 x2 x3 x4 x5 : Int32, (∃ (v : Int32) (u : KS) (z : Int32 × RS), f_Ke_gate σ x1 x2 x3 x4 x5 = some (.ok v, u) ∧ f_Mo_gate ρ x1 x2 x3 x4 x5 = some z ∧ I u z.2) ∨ (∃ (k : Nat) (u : KS) (z : Int32 × RS), (k = 1 ∨ k = 2 ∨ k = 3 ∨ k = 4) ∧ f_Ke_gate σ x1 x2 x3 x4 x5 = some (.error k, u) ∧ f_Mo_gate ρ x1 x2 x3 x4 x5 = some z ∧ I u z.2)
def sm_7 (I : KS → RS → Prop) (σ : KS) (ρ : RS) : Prop := ∀ x1 x2 x3 x4 : Int32, (∃ (v : Int32) (u : KS) (z : Int32 × RS), f_Ke_thread σ x1 x2 x3 x4 = some (.ok v, u) ∧ f_Mo_thread ρ x1 x2 x3 x4 = some z ∧ I u z.2) ∨ (∃ (k : Nat) (u : KS) (z : Int32 × RS), (k = 1 ∨ k = 2 ∨ k = 3 ∨ k = 4) ∧ f_Ke_thread σ x1 x2 x3 x4 = some (.error k, u) ∧ f_Mo_thread ρ x1 x2 x3 x4 = some z ∧ I u z.2)
def sm_8 (I : KS → RS → Prop) (σ : KS) (ρ : RS) : Prop := ∀ x1 x2 x3 x4 : Int32, (∃ (v : Int32) (u : KS) (z : Int32 × RS), f_Ke_read σ x1 x2 x3 x4 = some (.ok v, u) ∧ f_Mo_read ρ x1 x2 x3 x4 = some z ∧ I u z.2) ∨ (∃ (k : Nat) (u : KS) (z : Int32 × RS), (k = 1 ∨ k = 2 ∨ k = 3 ∨ k = 4) ∧ f_Ke_read σ x1 x2 x3 x4 = some (.error k, u) ∧ f_Mo_read ρ x1 x2 x3 x4 = some z ∧ I u z.2)
def sm_9 (I : KS → RS → Prop) (σ : KS) (ρ : RS) : Prop := ∀ x1 x2 x3 x4 x5 : Int32, (∃ (v : Int32) (u : KS) (z : Int32 × RS), f_Ke_write σ x1 x2 x3 x4 x5 = some (.ok v, u) ∧ f_Mo_write ρ x1 x2 x3 x4 x5 = some z ∧ I u z.2) ∨ (∃ (k : Nat) (u : KS) (z : Int32 × RS), (k = 1 ∨ k = 2 ∨ k = 3 ∨ k = 4) ∧ f_Ke_write σ x1 x2 x3 x4 x5 = some (.error k, u) ∧ f_Mo_write ρ x1 x2 x3 x4 x5 = some z ∧ I u z.2)
def sm_10 (I : KS → RS → Prop) (σ : KS) (ρ : RS) : Prop := ∀ x1 x2 x3 x4 : Int32, (∃ (v : Int32) (u : KS) (z : Int32 × RS), f_Ke_move σ x1 x2 x3 x4 = some (.ok v, u) ∧ f_Mo_move ρ x1 x2 x3 x4 = some z ∧ I u z.2) ∨ (∃ (k : Nat) (u : KS) (z : Int32 × RS), (k = 1 ∨ k = 2 ∨ k = 3 ∨ k = 4) ∧ f_Ke_move σ x1 x2 x3 x4 = some (.error k, u) ∧ f_Mo_move ρ x1 x2 x3 x4 = some z ∧ I u z.2)
def sm_11 (I : KS → RS → Prop) (σ : KS) (ρ : RS) : Prop := ∀ x1 x2 x3 : Int32, (∃ (v : Int32) (u : KS) (z : Int32 × RS), f_Ke_drop σ x1 x2 x3 = some (.ok v, u) ∧ f_Mo_drop ρ x1 x2 x3 = some z ∧ I u z.2) ∨ (∃ (k : Nat) (u : KS) (z : Int32 × RS), (k = 1 ∨ k = 2 ∨ k = 3 ∨ k = 4) ∧ f_Ke_drop σ x1 x2 x3 = some (.error k, u) ∧ f_Mo_drop ρ x1 x2 x3 = some z ∧ I u z.2)
def sm_12 (I : KS → RS → Prop) (σ : KS) (ρ : RS) : Prop := ∀ x1 x2 : Int32, (∃ (v : Int32) (u : KS) (z : Int32 × RS), f_Ke_become σ x1 x2 = some (.ok v, u) ∧ f_Mo_become ρ x1 x2 = some z ∧ I u z.2) ∨ (∃ (k : Nat) (u : KS) (z : Int32 × RS), (k = 1 ∨ k = 2 ∨ k = 3 ∨ k = 4) ∧ f_Ke_become σ x1 x2 = some (.error k, u) ∧ f_Mo_become ρ x1 x2 = some z ∧ I u z.2)
def sm_13 (I : KS → RS → Prop) (σ : KS) (ρ : RS) : Prop := ∀ x1 x2 : Int32, (∃ (v : Int32) (u : KS) (z : Int32 × RS), f_Ke_lower σ x1 x2 = some (.ok v, u) ∧ f_Mo_lower ρ x1 x2 = some z ∧ I u z.2) ∨ (∃ (k : Nat) (u : KS) (z : Int32 × RS), (k = 1 ∨ k = 2 ∨ k = 3 ∨ k = 4) ∧ f_Ke_lower σ x1 x2 = some (.error k, u) ∧ f_Mo_lower ρ x1 x2 = some z ∧ I u z.2)
def sm_14 (I : KS → RS → Prop) (σ : KS) (ρ : RS) : Prop := ∀ x1 x2 x3 x4 x5 : Int32, (∃ (v : Int32) (u : KS) (z : Int32 × RS), f_Ke_enter σ x1 x2 x3 x4 x5 = some (.ok v, u) ∧ f_Mo_enter ρ x1 x2 x3 x4 x5 = some z ∧ I u z.2) ∨ (∃ (k : Nat) (u : KS) (z : Int32 × RS), (k = 1 ∨ k = 2 ∨ k = 3 ∨ k = 4) ∧ f_Ke_enter σ x1 x2 x3 x4 x5 = some (.error k, u) ∧ f_Mo_enter ρ x1 x2 x3 x4 x5 = some z ∧ I u z.2)
def sm_15 (I : KS → RS → Prop) (σ : KS) (ρ : RS) : Prop := ∀ x1 x2 x3 : Int32, (∃ (v : Int32) (u : KS) (z : Int32 × RS), f_Ke_user σ x1 x2 x3 = some (.ok v, u) ∧ f_Mo_user ρ x1 x2 x3 = some z ∧ I u z.2) ∨ (∃ (k : Nat) (u : KS) (z : Int32 × RS), (k = 1 ∨ k = 2 ∨ k = 3 ∨ k = 4) ∧ f_Ke_user σ x1 x2 x3 = some (.error k, u) ∧ f_Mo_user ρ x1 x2 x3 = some z ∧ I u z.2)
def sm_16 (I : KS → RS → Prop) (σ : KS) (ρ : RS) : Prop := ∀ x1 x2 x3 : Int32, (∃ (v : Int32) (u : KS) (z : Int32 × RS), f_Ke_login σ x1 x2 x3 = some (.ok v, u) ∧ f_Mo_login ρ x1 x2 x3 = some z ∧ I u z.2) ∨ (∃ (k : Nat) (u : KS) (z : Int32 × RS), (k = 1 ∨ k = 2 ∨ k = 3 ∨ k = 4) ∧ f_Ke_login σ x1 x2 x3 = some (.error k, u) ∧ f_Mo_login ρ x1 x2 x3 = some z ∧ I u z.2)
def sm_17 (I : KS → RS → Prop) (σ : KS) (ρ : RS) : Prop := ∀ x1 x2 x3 x4 : Int32, (∃ (v : Int32) (u : KS) (z : Int32 × RS), f_Ke_file σ x1 x2 x3 x4 = some (.ok v, u) ∧ f_Mo_file ρ x1 x2 x3 x4 = some z ∧ I u z.2) ∨ (∃ (k : Nat) (u : KS) (z : Int32 × RS), (k = 1 ∨ k = 2 ∨ k = 3 ∨ k = 4) ∧ f_Ke_file σ x1 x2 x3 x4 = some (.error k, u) ∧ f_Mo_file ρ x1 x2 x3 x4 = some z ∧ I u z.2)
def sm_18 (I : KS → RS → Prop) (σ : KS) (ρ : RS) : Prop := ∀ x1 x2 x3 x4 x5 x6 : Int32, (∃ (v : Int32) (u : KS) (z : Int32 × RS), f_Ke_access σ x1 x2 x3 x4 x5 x6 = some (.ok v, u) ∧ f_Mo_access ρ x1 x2 x3 x4 x5 x6 = some z ∧ I u z.2) ∨ (∃ (k : Nat) (u : KS) (z : Int32 × RS), (k = 1 ∨ k = 2 ∨ k = 3 ∨ k = 4) ∧ f_Ke_access σ x1 x2 x3 x4 x5 x6 = some (.error k, u) ∧ f_Mo_access ρ x1 x2 x3 x4 x5 x6 = some z ∧ I u z.2)
def sm_19 (I : KS → RS → Prop) (σ : KS) (ρ : RS) : Prop := ∃ (v : Int32 × KS) (z : Int32 × RS), f_Ke_snapshot σ = some v ∧ f_Mo_snapshot ρ = some z ∧ I v.2 z.2
def sm_20 (I : KS → RS → Prop) (σ : KS) (ρ : RS) : Prop := ∃ (v : Int32 × KS) (z : Int32 × RS), f_Ke_crash σ = some v ∧ f_Mo_crash ρ = some z ∧ I v.2 z.2
def sm_21 (I : KS → RS → Prop) (σ : KS) (ρ : RS) : Prop := ∀ x1 x2 : Int32, (∃ (v : Int32) (u : KS) (z : Int32 × RS), f_Ke_object σ x1 x2 = some (.ok v, u) ∧ f_Mo_object ρ x1 x2 = some z ∧ I u z.2) ∨ (∃ (k : Nat) (u : KS) (z : Int32 × RS), (k = 1 ∨ k = 2 ∨ k = 3 ∨ k = 4) ∧ f_Ke_object σ x1 x2 = some (.error k, u) ∧ f_Mo_object ρ x1 x2 = some z ∧ I u z.2)
def sm_22 (I : KS → RS → Prop) (σ : KS) (ρ : RS) : Prop := ∀ x1 x2 : Int32, (∃ (v : Int32) (u : KS) (z : Int32 × RS), f_Ke_in σ x1 x2 = some (.ok v, u) ∧ f_Mo_in ρ x1 x2 = some z ∧ gM_code z.2 = 0 ∧ z.1 = v ∧ I u z.2) ∨ (∃ (k : Nat) (u : KS) (z : Int32 × RS), (k = 1 ∨ k = 2 ∨ k = 3 ∨ k = 4) ∧ f_Ke_in σ x1 x2 = some (.error k, u) ∧ f_Mo_in ρ x1 x2 = some z ∧ gM_code z.2 = nI k ∧ I u z.2)
def sm_23 (I : KS → RS → Prop) (σ : KS) (ρ : RS) : Prop := ∀ x1 : Int32, ∃ (v : Int32) (z : Int32 × RS), f_Ke_count σ x1 = some v ∧ f_Mo_count ρ x1 = some z ∧ I σ z.2
def sm_all (I : KS → RS → Prop) : Prop := ∀ (σ : KS) (ρ : RS), I σ ρ → sm_0 I σ ρ ∧ sm_1 I σ ρ ∧ sm_2 I σ ρ ∧ sm_3 I σ ρ ∧ sm_4 I σ ρ ∧ sm_5 I σ ρ ∧ sm_6 I σ ρ ∧ sm_7 I σ ρ ∧ sm_8 I σ ρ ∧ sm_9 I σ ρ ∧ sm_10 I σ ρ ∧ sm_11 I σ ρ ∧ sm_12 I σ ρ ∧ sm_13 I σ ρ ∧ sm_14 I σ ρ ∧ sm_15 I σ ρ ∧ sm_16 I σ ρ ∧ sm_17 I σ ρ ∧ sm_18 I σ ρ ∧ sm_19 I σ ρ ∧ sm_20 I σ ρ ∧ sm_21 I σ ρ ∧ sm_22 I σ ρ ∧ sm_23 I σ ρ
theorem lx_in {L j a : Nat} {x4 : Int32} (e4 : x4 = nI (7 * j)) (h : 7 * j + 7 ≤ L) (hL : L ≤ 3584) (ha : a < 7) {y : Int32} (ey : y = nI a) : vp_in (x4 + y) L := by
  rw [e4, ey, nI_add]
  exact vp_in_nI (by omega) (by omega)
set_option maxRecDepth 100000 in
set_option maxHeartbeats 8000000 in
/-- THE LAW'S LOOP -/
theorem law_loop {p : Program} {l : Launch} {e : Env} {s : State} {m : MethodId} {below : List Frame} {meth : Method} {c : Code} {b L : Nat} {xs : Nat → Int32} {D : va_G} {A : Nat → Nat} (I : KS → RS → Prop) (hI0 : sm_all I) (hL : L ≤ 3584) (X : lx_ p l s m meth c b L xs D A) :
    ∀ (n j : Nat) (x4 : Int32), x4 = nI (7 * j) → 7 * j ≤ L → L + 7 ≤ 7 * j + 7 * n → ∀ (σ : KS) (ρ : RS) (f : Nat → Int64) (H : Heap) (locs : List Loc) (ls : Array Slot), I σ ρ → va_P D vwCl (kp_C A σ ρ f) H → va_D (fun q : Nat => s.heap.size ≤ q) (kp_C A σ ρ f) → va_S (fun q : Nat => s.heap.size ≤ q) s.heap H locs → lv_has ls 7 [(0, .ref b), (1, .ref (A 0)), (2, .ref (A 60)), (3, .ref (A 63)), (4, .int x4)] → W p l e room_1 s m #[Value.ref b] below meth c H locs (51 + j) (5535 + 6 * j) (lw_Z below #[Value.ref b] s) (F0 m 23 ls []) := by
  obtain ⟨hl9, S9, hX, hbl, hlk, hr, hC, X9⟩ := id X
  obtain ⟨hx, hb, hml, hown, hts⟩ := id S9
  have hbA : ¬ (fun q : Nat => s.heap.size ≤ q) b := Nat.not_le.mpr hbl
  intro n
  induction n with
  | zero =>
    intro j x4 e4 h1 h2
    exact absurd h2 (by omega)
  | succ n ih =>
    intro j x4 e4 hj hn σ ρ f H locs ls hI hP hD hS hl
    refine lv_iload hx hb d_La_law_23 (lv_at hl 4 rfl) ?_
    refine lv_aload_n hx hb d_La_law_25 rfl (lv_at hl 0 rfl) ?_
    refine va_slen hx hb hX hbl hbA hS d_La_law_26 ?_
    refine lv_bipush (v := 7) hx hb d_La_law_27 (by decide) ?_
    refine lv_isub hx hb d_La_law_29 ?_
    refine lv_icmp_gt (tgt := 1459) hx hb d_La_law_30 (by decide) (fun c9 => ?_) (fun c9 => ?_)
    · refine lv_iconst (v := 1) hx hb d_La_law_1459 (by decide) ?_
      refine va_forget (fun q hq => hS.2.2 q hq) ?_
      refine W.widen (k := 1079) (n := 13751) (by omega) (by omega) ?_
      exact lw_ret hx hb hr hlk d_La_law_1460
    have hlt : 7 * j + 7 ≤ L := by
      rcases Nat.lt_or_ge L (7 * j + 7) with q | q
      · refine absurd ?_ c9
        rw [e4]
        show Int32.ofNat L - 7 < nI (7 * j)
        rw [Int32.lt_iff_toInt_lt, nI_toInt (by omega)]
        have e9 : (nI L - nI 7).toInt = (L : Int) - 7 := pk_sub_toInt (by omega) (by omega)
        have e8 : (Int32.ofNat L - 7).toInt = (L : Int) - 7 := e9
        rw [e8]; omega
      · exact q
    have hin : ∀ (a : Nat) (y : Int32), a < 7 → y = nI a → vp_in (x4 + y) L := fun a y ha ey => lx_in e4 hlt hL ha ey
    have hin0 : vp_in x4 L := by rw [e4]; exact vp_in_nI (by omega) (by omega)
    have hc : (51 + j) + 1 ≤ room_1.cells := by show (51 + j) + 1 ≤ 1079; omega
    have hsl : (5535 + 6 * j) + 6 ≤ room_1.slots := by show (5535 + 6 * j) + 6 ≤ 13751; omega
    refine lv_aload_n hx hb d_La_law_33 rfl (lv_at hl 0 rfl) ?_
    refine lv_iload hx hb d_La_law_34 (lv_at hl 4 rfl) ?_
    refine va_sld hx hb hX hbl hbA hS hin0 d_La_law_36 ?_
    refine lv_bipush (v := 31) hx hb d_La_law_37 (by decide) ?_
    refine lv_iand hx hb d_La_law_39 ?_
    have kk : ∀ (u : KS) (ρ1 : RS) (f1 : Nat → Int64) (H : Heap) (locs : List Loc) (ls : Array Slot), I u ρ1 → va_P D vwCl (kp_C A u ρ1 f1) H → va_D (fun q : Nat => s.heap.size ≤ q) (kp_C A u ρ1 f1) → va_S (fun q : Nat => s.heap.size ≤ q) s.heap H locs → lv_has ls 7 [(0, .ref b), (1, .ref (A 0)), (2, .ref (A 60)), (3, .ref (A 63)), (4, .int x4)] → W p l e room_1 s m #[Value.ref b] below meth c H locs ((51 + j) + 1) ((5535 + 6 * j) + 6) (lw_Z below #[Value.ref b] s) (F0 m 1453 ls []) := by
      intro u ρ1 f1 H locs ls hI hP hD hS hl
      refine lv_iinc (v := x4 + 7) (lv' := (4, .int (x4 + 7)) :: [(0, .ref b), (1, .ref (A 0)), (2, .ref (A 60)), (3, .ref (A 63))]) hx hb d_La_law_1453 hl (k := 4) rfl rfl (by decide) rfl (fun ls hl => ?_)
      refine lv_goto (tgt := 23) hx hb d_La_law_1456 (by decide) ?_
      exact ih (j + 1) (x4 + 7) (by rw [e4]; exact nI_add (7 * j) 7) hlt (by omega) u ρ1 f1 _ _ _ hI hP hD hS (lv_sub hl [1, 2, 3, 4, 0] rfl)
    generalize hy : xs x4.toNatClampNeg &&& 31 = y
    obtain ⟨s0, s1, s2, s3, s4, s5, s6, s7, s8, s9, s10, s11, s12, s13, s14, s15, s16, s17, s18, s19, s20, s21, s22, s23⟩ := hI0 σ ρ hI
    by_cases c0 : y = 0
    · refine ka_tabIn (tgt := 152) (off := 112) hx hb d_La_law_40 c0 (by decide) (by decide) (by decide) (by decide) ?_
      exact lc_0 I X hc hsl x4 (hin 1 1 (by decide) (by decide)) (hin 2 2 (by decide) (by decide)) (hin 3 3 (by decide) (by decide)) σ ρ f s0 hP hD hS hl kk
    by_cases c1 : y = 1
    · refine ka_tabIn (tgt := 204) (off := 164) hx hb d_La_law_40 c1 (by decide) (by decide) (by decide) (by decide) ?_
      exact lc_1 I X hc hsl x4 (hin 1 1 (by decide) (by decide)) (hin 2 2 (by decide) (by decide)) σ ρ f s1 hP hD hS hl kk
    by_cases c2 : y = 2
    · refine ka_tabIn (tgt := 244) (off := 204) hx hb d_La_law_40 c2 (by decide) (by decide) (by decide) (by decide) ?_
      exact lc_2 I X hc hsl x4 (hin 1 1 (by decide) (by decide)) (hin 2 2 (by decide) (by decide)) (hin 3 3 (by decide) (by decide)) σ ρ f s2 hP hD hS hl kk
    by_cases c3 : y = 3
    · refine ka_tabIn (tgt := 312) (off := 272) hx hb d_La_law_40 c3 (by decide) (by decide) (by decide) (by decide) ?_
      exact lc_3 I X hc hsl x4 (hin 1 1 (by decide) (by decide)) σ ρ f s3 hP hD hS hl kk
    by_cases c4 : y = 4
    · refine ka_tabIn (tgt := 340) (off := 300) hx hb d_La_law_40 c4 (by decide) (by decide) (by decide) (by decide) ?_
      exact lc_4 I X hc hsl x4 (hin 1 1 (by decide) (by decide)) (hin 2 2 (by decide) (by decide)) (hin 3 3 (by decide) (by decide)) (hin 4 4 (by decide) (by decide)) σ ρ f s4 hP hD hS hl kk
    by_cases c5 : y = 5
    · refine ka_tabIn (tgt := 404) (off := 364) hx hb d_La_law_40 c5 (by decide) (by decide) (by decide) (by decide) ?_
      exact lc_5 I X hc hsl x4 (hin 1 1 (by decide) (by decide)) (hin 2 2 (by decide) (by decide)) (hin 3 3 (by decide) (by decide)) (hin 4 4 (by decide) (by decide)) σ ρ f s5 hP hD hS hl kk
    by_cases c6 : y = 6
    · refine ka_tabIn (tgt := 468) (off := 428) hx hb d_La_law_40 c6 (by decide) (by decide) (by decide) (by decide) ?_
      exact lc_6 I X hc hsl x4 (hin 1 1 (by decide) (by decide)) (hin 2 2 (by decide) (by decide)) (hin 3 3 (by decide) (by decide)) (hin 4 4 (by decide) (by decide)) (hin 5 5 (by decide) (by decide)) σ ρ f s6 hP hD hS hl kk
    by_cases c7 : y = 7
    · refine ka_tabIn (tgt := 544) (off := 504) hx hb d_La_law_40 c7 (by decide) (by decide) (by decide) (by decide) ?_
      exact lc_7 I X hc hsl x4 (hin 1 1 (by decide) (by decide)) (hin 2 2 (by decide) (by decide)) (hin 3 3 (by decide) (by decide)) (hin 4 4 (by decide) (by decide)) σ ρ f s7 hP hD hS hl kk
    by_cases c8 : y = 8
    · refine ka_tabIn (tgt := 608) (off := 568) hx hb d_La_law_40 c8 (by decide) (by decide) (by decide) (by decide) ?_
      exact lc_8 I X hc hsl x4 (hin 1 1 (by decide) (by decide)) (hin 2 2 (by decide) (by decide)) (hin 3 3 (by decide) (by decide)) (hin 4 4 (by decide) (by decide)) σ ρ f s8 hP hD hS hl kk
    by_cases c9 : y = 9
    · refine ka_tabIn (tgt := 672) (off := 632) hx hb d_La_law_40 c9 (by decide) (by decide) (by decide) (by decide) ?_
      exact lc_9 I X hc hsl x4 (hin 1 1 (by decide) (by decide)) (hin 2 2 (by decide) (by decide)) (hin 3 3 (by decide) (by decide)) (hin 4 4 (by decide) (by decide)) (hin 5 5 (by decide) (by decide)) σ ρ f s9 hP hD hS hl kk
    by_cases c10 : y = 10
    · refine ka_tabIn (tgt := 748) (off := 708) hx hb d_La_law_40 c10 (by decide) (by decide) (by decide) (by decide) ?_
      exact lc_10 I X hc hsl x4 (hin 1 1 (by decide) (by decide)) (hin 2 2 (by decide) (by decide)) (hin 3 3 (by decide) (by decide)) (hin 4 4 (by decide) (by decide)) σ ρ f s10 hP hD hS hl kk
    by_cases c11 : y = 11
    · refine ka_tabIn (tgt := 812) (off := 772) hx hb d_La_law_40 c11 (by decide) (by decide) (by decide) (by decide) ?_
      exact lc_11 I X hc hsl x4 (hin 1 1 (by decide) (by decide)) (hin 2 2 (by decide) (by decide)) (hin 3 3 (by decide) (by decide)) σ ρ f s11 hP hD hS hl kk
    by_cases c12 : y = 12
    · refine ka_tabIn (tgt := 864) (off := 824) hx hb d_La_law_40 c12 (by decide) (by decide) (by decide) (by decide) ?_
      exact lc_12 I X hc hsl x4 (hin 1 1 (by decide) (by decide)) (hin 2 2 (by decide) (by decide)) σ ρ f s12 hP hD hS hl kk
    by_cases c13 : y = 13
    · refine ka_tabIn (tgt := 904) (off := 864) hx hb d_La_law_40 c13 (by decide) (by decide) (by decide) (by decide) ?_
      exact lc_13 I X hc hsl x4 (hin 1 1 (by decide) (by decide)) (hin 2 2 (by decide) (by decide)) σ ρ f s13 hP hD hS hl kk
    by_cases c14 : y = 14
    · refine ka_tabIn (tgt := 944) (off := 904) hx hb d_La_law_40 c14 (by decide) (by decide) (by decide) (by decide) ?_
      exact lc_14 I X hc hsl x4 (hin 1 1 (by decide) (by decide)) (hin 2 2 (by decide) (by decide)) (hin 3 3 (by decide) (by decide)) (hin 4 4 (by decide) (by decide)) (hin 5 5 (by decide) (by decide)) σ ρ f s14 hP hD hS hl kk
    by_cases c15 : y = 15
    · refine ka_tabIn (tgt := 1020) (off := 980) hx hb d_La_law_40 c15 (by decide) (by decide) (by decide) (by decide) ?_
      exact lc_15 I X hc hsl x4 (hin 1 1 (by decide) (by decide)) (hin 2 2 (by decide) (by decide)) (hin 3 3 (by decide) (by decide)) σ ρ f s15 hP hD hS hl kk
    by_cases c16 : y = 16
    · refine ka_tabIn (tgt := 1072) (off := 1032) hx hb d_La_law_40 c16 (by decide) (by decide) (by decide) (by decide) ?_
      exact lc_16 I X hc hsl x4 (hin 1 1 (by decide) (by decide)) (hin 2 2 (by decide) (by decide)) (hin 3 3 (by decide) (by decide)) σ ρ f s16 hP hD hS hl kk
    by_cases c17 : y = 17
    · refine ka_tabIn (tgt := 1124) (off := 1084) hx hb d_La_law_40 c17 (by decide) (by decide) (by decide) (by decide) ?_
      exact lc_17 I X hc hsl x4 (hin 1 1 (by decide) (by decide)) (hin 2 2 (by decide) (by decide)) (hin 3 3 (by decide) (by decide)) (hin 4 4 (by decide) (by decide)) σ ρ f s17 hP hD hS hl kk
    by_cases c18 : y = 18
    · refine ka_tabIn (tgt := 1188) (off := 1148) hx hb d_La_law_40 c18 (by decide) (by decide) (by decide) (by decide) ?_
      exact lc_18 I X hc hsl x4 (hin 1 1 (by decide) (by decide)) (hin 2 2 (by decide) (by decide)) (hin 3 3 (by decide) (by decide)) (hin 4 4 (by decide) (by decide)) (hin 5 5 (by decide) (by decide)) (hin 6 6 (by decide) (by decide)) σ ρ f s18 hP hD hS hl kk
    by_cases c19 : y = 19
    · refine ka_tabIn (tgt := 1294) (off := 1254) hx hb d_La_law_40 c19 (by decide) (by decide) (by decide) (by decide) ?_
      exact lc_19 I X hc hsl x4 σ ρ f s19 hP hD hS hl kk
    by_cases c20 : y = 20
    · refine ka_tabIn (tgt := 1307) (off := 1267) hx hb d_La_law_40 c20 (by decide) (by decide) (by decide) (by decide) ?_
      exact lc_20 I X hc hsl x4 σ ρ f s20 hP hD hS hl kk
    by_cases c21 : y = 21
    · refine ka_tabIn (tgt := 1320) (off := 1280) hx hb d_La_law_40 c21 (by decide) (by decide) (by decide) (by decide) ?_
      exact lc_21 I X hc hsl x4 (hin 1 1 (by decide) (by decide)) (hin 2 2 (by decide) (by decide)) σ ρ f s21 hP hD hS hl kk
    by_cases c22 : y = 22
    · refine ka_tabIn (tgt := 1360) (off := 1320) hx hb d_La_law_40 c22 (by decide) (by decide) (by decide) (by decide) ?_
      exact lc_22 I X hc hsl x4 (hin 1 1 (by decide) (by decide)) (hin 2 2 (by decide) (by decide)) σ ρ f s22 hP hD hS hl kk
    by_cases c23 : y = 23
    · refine ka_tabIn (tgt := 1428) (off := 1388) hx hb d_La_law_40 c23 (by decide) (by decide) (by decide) (by decide) ?_
      exact lc_23 I X hc hsl x4 (hin 1 1 (by decide) (by decide)) σ ρ f s23 hP hD hS hl kk
    refine lv_tableOut (tgt := 1453) hx hb d_La_law_40 (by have q0 := lv_neT c0 (a := 0) (by decide); have q1 := lv_neT c1 (a := 1) (by decide); have q2 := lv_neT c2 (a := 2) (by decide); have q3 := lv_neT c3 (a := 3) (by decide); have q4 := lv_neT c4 (a := 4) (by decide); have q5 := lv_neT c5 (a := 5) (by decide); have q6 := lv_neT c6 (a := 6) (by decide); have q7 := lv_neT c7 (a := 7) (by decide); have q8 := lv_neT c8 (a := 8) (by decide); have q9 := lv_neT c9 (a := 9) (by decide); have q10 := lv_neT c10 (a := 10) (by decide); have q11 := lv_neT c11 (a := 11) (by decide); have q12 := lv_neT c12 (a := 12) (by decide); have q13 := lv_neT c13 (a := 13) (by decide); have q14 := lv_neT c14 (a := 14) (by decide); have q15 := lv_neT c15 (a := 15) (by decide); have q16 := lv_neT c16 (a := 16) (by decide); have q17 := lv_neT c17 (a := 17) (by decide); have q18 := lv_neT c18 (a := 18) (by decide); have q19 := lv_neT c19 (a := 19) (by decide); have q20 := lv_neT c20 (a := 20) (by decide); have q21 := lv_neT c21 (a := 21) (by decide); have q22 := lv_neT c22 (a := 22) (by decide); have q23 := lv_neT c23 (a := 23) (by decide); omega) (by decide) ?_
    refine W.widen (k := (51 + j) + 1) (n := (5535 + 6 * j) + 6) (by omega) (by omega) ?_
    exact kk σ ρ f _ _ _ hI hP hD hS hl
