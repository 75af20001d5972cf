theorem zq_zp_cl (n : Nat) (h : n < 2147483648) : (nI n).toNatClampNeg = n := by
  unfold nI Int32.toNatClampNeg
  rw [Int32.toInt_ofNat']
  have hz : Int32.size = 4294967296 := rfl
  rw [Int.bmod_eq_of_le] <;> omega
theorem zq_zp_ti (n : Nat) (h : n < 2147483648) : (nI n).toInt = n := by
  unfold nI
  rw [Int32.toInt_ofNat']
  have hz : Int32.size = 4294967296 := rfl
  rw [Int.bmod_eq_of_le] <;> omega
theorem zq_zp_lt {a b : Nat} (ha : a < 2147483648) (hb : b < 2147483648) : (nI a < nI b) = (a < b) := by
  rw [Int32.lt_iff_toInt_lt, zq_zp_ti a ha, zq_zp_ti b hb]; exact propext ⟨fun h => by omega, fun h => by omega⟩
theorem zq_zp_le {a b : Nat} (ha : a < 2147483648) (hb : b < 2147483648) : (nI a ≤ nI b) = (a ≤ b) := by
  rw [Int32.le_iff_toInt_le, zq_zp_ti a ha, zq_zp_ti b hb]; exact propext ⟨fun h => by omega, fun h => by omega⟩
theorem zq_zp_eq {a b : Nat} (ha : a < 2147483648) (hb : b < 2147483648) : (nI a = nI b) = (a = b) :=
  propext ⟨fun h => by have := congrArg Int32.toNatClampNeg h; rwa [zq_zp_cl a ha, zq_zp_cl b hb] at this, fun h => by rw [h]⟩
theorem zq_zp_add (a b : Nat) : nI a + nI b = nI (a + b) := (Int32.ofNat_add a b).symm
theorem zq_zp_mul (a b : Nat) : nI a * nI b = nI (a * b) := (Int32.ofNat_mul a b).symm
theorem zq_zp_ex {x : Int32} (h : 0 ≤ x) : ∃ n, n < 2147483648 ∧ x = nI n := by
  refine ⟨x.toNatClampNeg, ?_, ?_⟩
  · have := Int32.toInt_lt x
    unfold Int32.toNatClampNeg; omega
  · apply Int32.toInt_inj.mp
    rw [zq_zp_ti]
    · unfold Int32.toNatClampNeg
      rw [Int32.le_iff_toInt_le] at h
      have h0 : (0 : Int32).toInt = 0 := rfl
      omega
    · have := Int32.toInt_lt x
      unfold Int32.toNatClampNeg; omega
theorem zq_zp_rng {x : Int32} {a b : Nat} (hb : b < 2147483648) (h1 : nI a ≤ x) (h2 : x ≤ nI b) (ha : a < 2147483648) : ∃ n, a ≤ n ∧ n ≤ b ∧ x = nI n := by
  have h0 : (0 : Int32) ≤ x := by
    rw [Int32.le_iff_toInt_le, zq_zp_ti a ha] at h1
    rw [Int32.le_iff_toInt_le]
    have h0 : (0 : Int32).toInt = 0 := rfl
    omega
  obtain ⟨n, hn, rfl⟩ := zq_zp_ex h0
  rw [zq_zp_le ha hn] at h1
  rw [zq_zp_le hn hb] at h2
  exact ⟨n, h1, h2, rfl⟩
theorem zq_zp_nlt {x y : Int32} : (¬ x < y) = (y ≤ x) := propext Int32.not_lt
theorem zq_zp_nle {x y : Int32} : (¬ x ≤ y) = (y < x) := propext Int32.not_le
theorem zq_zp_ix {α : Type} {n N : Nat} (h : n < N) (hN : N < 2147483648) (a : Option α) : (if nI n < 0 ∨ N ≤ (nI n).toNatClampNeg then none else a) = a := by
  rw [if_neg]
  rw [zq_zp_cl n (by omega)]
  rintro (h1 | h1)
  · have h0 : (0 : Int32) = nI 0 := rfl
    rw [h0, zq_zp_lt (by omega) (by omega)] at h1
    omega
  · omega
def zq_lvI (p : Int32) (c : Nat) : Int32 := (zo_ushr p (4 * nI c)) &&& 15
def zq_chI (p : Int32) (c : Nat) (v : Int32) : Int32 := (p &&& ((15 <<< ((4 * nI c) &&& 31)) ^^^ (-1))) ||| (v <<< ((4 * nI c) &&& 31))
def zq_zb (p : Int32) (j : Nat) : Bool := p.toBitVec.getLsbD j
theorem zq_zb_ext {p q : Int32} (h : ∀ j, j < 32 → zq_zb p j = zq_zb q j) : p = q :=
  Int32.toBitVec_inj.mp (BitVec.eq_of_getLsbD_eq fun i hi => h i hi)
theorem zq_zb_and (p q : Int32) (j : Nat) : zq_zb (p &&& q) j = (zq_zb p j && zq_zb q j) := by
  unfold zq_zb; rw [Int32.toBitVec_and, BitVec.getLsbD_and]
theorem zq_zb_or (p q : Int32) (j : Nat) : zq_zb (p ||| q) j = (zq_zb p j || zq_zb q j) := by
  unfold zq_zb; rw [Int32.toBitVec_or, BitVec.getLsbD_or]
theorem zq_zb_not (p : Int32) (j : Nat) (hj : j < 32) : zq_zb (p ^^^ (-1)) j = !(zq_zb p j) := by
  have h1 : (-1 : Int32).toBitVec = BitVec.allOnes 32 := rfl
  unfold zq_zb; rw [Int32.toBitVec_xor, h1, BitVec.getLsbD_xor, BitVec.getLsbD_allOnes]
  simp [hj]
theorem zq_zb_zero (j : Nat) : zq_zb 0 j = false := BitVec.getLsbD_zero
theorem zq_zb_nat (k j : Nat) : zq_zb (nI k) j = (decide (j < 32) && k.testBit j) := by
  unfold zq_zb nI
  have : (Int32.ofNat k).toBitVec = BitVec.ofNat 32 k := rfl
  rw [this, BitVec.getLsbD_ofNat]
theorem zq_zb_shl (p : Int32) (c j : Nat) (hc : c < 8) (hj : j < 32) : zq_zb (p <<< ((4 * nI c) &&& 31)) j = (decide (4 * c ≤ j) && zq_zb p (j - 4 * c)) := by
  have e : (p <<< ((4 * nI c) &&& 31)).toBitVec = p.toBitVec <<< (4 * c) := by
    match c, hc with
    | 0, _ | 1, _ | 2, _ | 3, _ | 4, _ | 5, _ | 6, _ | 7, _ => rfl
  unfold zq_zb; rw [e, BitVec.getLsbD_shiftLeft]
  by_cases h : j < 4 * c
  · have h' : ¬ 4 * c ≤ j := by omega
    simp [h, h']
  · have h' : 4 * c ≤ j := by omega
    simp [h, h', hj]
theorem zq_zb_15 (j : Nat) : zq_zb 15 j = decide (j < 4) := by
  have e : (15 : Int32) = nI 15 := rfl
  rw [e, zq_zb_nat]
  by_cases h : j < 4
  · match j, h with
    | 0, _ | 1, _ | 2, _ | 3, _ => rfl
  · have : Nat.testBit 15 j = false := by
      apply Nat.testBit_lt_two_pow
      calc 15 < 2 ^ 4 := by decide
        _ ≤ 2 ^ j := Nat.pow_le_pow_right (by decide) (by omega)
    simp [this, h]
theorem zq_zb_lv (p : Int32) (c : Nat) (hc : c < 8) (j : Nat) : zq_zb (zq_lvI p c) j = (decide (j < 4) && zq_zb p (4 * c + j)) := by
  have e : (zq_lvI p c).toBitVec = (p.toBitVec >>> (4 * c)) &&& (15 : Int32).toBitVec := by
    match c, hc with
    | 0, _ | 1, _ | 2, _ | 3, _ | 4, _ | 5, _ | 6, _ | 7, _ => rfl
  have h15 := zq_zb_15 j
  unfold zq_zb at h15 ⊢
  rw [e, BitVec.getLsbD_and, BitVec.getLsbD_ushiftRight, h15, Bool.and_comm]
theorem zq_zb_ch (p : Int32) (c k : Nat) (hc : c < 8) (hk : k < 16) (j : Nat) (hj : j < 32) : zq_zb (zq_chI p c (nI k)) j = if 4 * c ≤ j ∧ j < 4 * c + 4 then k.testBit (j - 4 * c) else zq_zb p j := by
  unfold zq_chI
  rw [zq_zb_or, zq_zb_and, zq_zb_not _ _ hj, zq_zb_shl _ _ _ hc hj, zq_zb_shl _ _ _ hc hj, zq_zb_15, zq_zb_nat]
  by_cases h1 : 4 * c ≤ j
  · by_cases h2 : j < 4 * c + 4
    · have h3 : j - 4 * c < 4 := by omega
      have h4 : j - 4 * c < 32 := by omega
      simp [h1, h2, h3, h4]
    · have h3 : ¬ j - 4 * c < 4 := by omega
      have h4 : j - 4 * c < 32 := by omega
      have h5 : k.testBit (j - 4 * c) = false := by
        apply Nat.testBit_lt_two_pow
        calc k < 2 ^ 4 := hk
          _ ≤ 2 ^ (j - 4 * c) := Nat.pow_le_pow_right (by decide) (by omega)
      simp [h1, h2, h3, h5]
  · simp [h1]
theorem zq_zp_lvch (p : Int32) (c d k : Nat) (hc : c < 8) (hd : d < 8) (hk : k < 16) : zq_lvI (zq_chI p c (nI k)) d = if d = c then nI k else zq_lvI p d := by
  apply zq_zb_ext
  intro j hj
  rw [zq_zb_lv _ _ hd]
  by_cases h : j < 4
  · rw [zq_zb_ch p c k hc hk _ (by omega)]
    by_cases e : d = c
    · subst e
      have h1 : 4 * d ≤ 4 * d + j ∧ 4 * d + j < 4 * d + 4 := by omega
      rw [if_pos h1, if_pos rfl, zq_zb_nat]
      have h2 : 4 * d + j - 4 * d = j := by omega
      simp [h2, h, hj]
    · have h1 : ¬ (4 * c ≤ 4 * d + j ∧ 4 * d + j < 4 * c + 4) := by omega
      rw [if_neg h1, if_neg e, zq_zb_lv _ _ hd]
  · by_cases e : d = c
    · rw [if_pos e, zq_zb_nat]
      have h5 : k.testBit j = false := by
        apply Nat.testBit_lt_two_pow
        calc k < 2 ^ 4 := hk
          _ ≤ 2 ^ j := Nat.pow_le_pow_right (by decide) (by omega)
      simp [h, h5]
    · rw [if_neg e, zq_zb_lv _ _ hd]
      simp [h]
theorem zq_zp_lvext {p q : Int32} (h : ∀ c, c < 8 → zq_lvI p c = zq_lvI q c) : p = q := by
  apply zq_zb_ext
  intro j hj
  have h1 := congrArg (fun x => zq_zb x (j % 4)) (h (j / 4) (by omega))
  rw [zq_zb_lv _ _ (by omega), zq_zb_lv _ _ (by omega)] at h1
  have h2 : j % 4 < 4 := Nat.mod_lt _ (by decide)
  have h3 : 4 * (j / 4) + j % 4 = j := Nat.div_add_mod j 4
  simpa [h2, h3] using h1
theorem zq_zb_stars (j : Nat) (hj : j < 32) : zq_zb 1145324612 j = decide (j % 4 = 2) := by
  revert j; decide
theorem zq_zp_star {p : Int32} {c k : Nat} (hc : c < 8) (hk : k ≤ 4) (h : zq_lvI p c = nI k) : zq_zb p (4 * c + 2) = decide (k = 4) := by
  have h1 := zq_zb_lv p c hc 2
  rw [h, zq_zb_nat] at h1
  have h2 : (decide (2 < 4) && zq_zb p (4 * c + 2)) = zq_zb p (4 * c + 2) := by simp
  rw [h2] at h1
  rw [← h1]
  match k, hk with
  | 0, _ | 1, _ | 2, _ | 3, _ | 4, _ => rfl
theorem zq_zp_starless {p : Int32} (hl : ∀ c, c < 8 → ∃ k, k ≤ 4 ∧ zq_lvI p c = nI k) : ((p &&& 1145324612) = 0) = (∀ c, c < 8 → zq_lvI p c ≠ 4) := by
  apply propext
  constructor
  · intro h c hc e
    obtain ⟨k, hk, h1⟩ := hl c hc
    have h2 := zq_zp_star hc hk h1
    have h3 := congrArg (fun x => zq_zb x (4 * c + 2)) h
    rw [zq_zb_and, zq_zb_zero, zq_zb_stars _ (by omega)] at h3
    have h4 : (4 * c + 2) % 4 = 2 := by omega
    rw [h2] at h3
    simp [h4] at h3
    rw [h1] at e
    have : (4 : Int32) = nI 4 := rfl
    rw [this, zq_zp_eq (by omega) (by omega)] at e
    exact h3 e
  · intro h
    apply zq_zb_ext
    intro j hj
    rw [zq_zb_and, zq_zb_zero, zq_zb_stars _ hj]
    by_cases h4 : j % 4 = 2
    · obtain ⟨k, hk, h1⟩ := hl (j / 4) (by omega)
      have h2 := zq_zp_star (by omega) hk h1
      have h3 : 4 * (j / 4) + 2 = j := by omega
      rw [h3] at h2
      have h5 : k ≠ 4 := by
        intro e
        apply h (j / 4) (by omega)
        rw [h1, e]; rfl
      simp [h2, h5]
    · simp [h4]
theorem zq_zp_stars {p q : Int32} (hl : ∀ c, c < 8 → ∃ k, k ≤ 4 ∧ zq_lvI p c = nI k) (hq : ∀ c, c < 8 → ∃ k, k ≤ 4 ∧ zq_lvI q c = nI k) : (((p &&& (q ^^^ (-1))) &&& 1145324612) = 0) = (∀ c, c < 8 → zq_lvI p c = 4 → zq_lvI q c = 4) := by
  have e4 : (4 : Int32) = nI 4 := rfl
  apply propext
  constructor
  · intro h c hc e
    obtain ⟨k, hk, h1⟩ := hl c hc
    obtain ⟨k', hk', h1'⟩ := hq c hc
    have h2 := zq_zp_star hc hk h1
    have h2' := zq_zp_star hc hk' h1'
    have h3 := congrArg (fun x => zq_zb x (4 * c + 2)) h
    rw [zq_zb_and, zq_zb_and, zq_zb_zero, zq_zb_not _ _ (by omega), zq_zb_stars _ (by omega)] at h3
    have h4 : (4 * c + 2) % 4 = 2 := by omega
    rw [h2, h2'] at h3
    rw [h1, e4, zq_zp_eq (by omega) (by omega)] at e
    simp [h4, e] at h3
    rw [h1', h3]; rfl
  · intro h
    apply zq_zb_ext
    intro j hj
    rw [zq_zb_and, zq_zb_and, zq_zb_zero, zq_zb_not _ _ hj, zq_zb_stars _ hj]
    by_cases h4 : j % 4 = 2
    · obtain ⟨k, hk, h1⟩ := hl (j / 4) (by omega)
      obtain ⟨k', hk', h1'⟩ := hq (j / 4) (by omega)
      have h2 := zq_zp_star (by omega) hk h1
      have h2' := zq_zp_star (by omega) hk' h1'
      have h3 : 4 * (j / 4) + 2 = j := by omega
      rw [h3] at h2 h2'
      by_cases h5 : k = 4
      · have h6 := h (j / 4) (by omega) (by rw [h1, h5]; rfl)
        rw [h1', e4, zq_zp_eq (by omega) (by omega)] at h6
        simp [h2, h2', h6]
      · simp [h2, h5]
    · simp [h4]
def zq_RLb (s : Nat) (pk row : Nat → Int32) : Prop := ∀ l, l < s → ∀ c, c < 8 → row (1037 + 8 * l + c) = zq_lvI (pk l) c ∧ ∃ k, k ≤ 4 ∧ zq_lvI (pk l) c = nI k
def zq_ROb (s : Nat) (σ : SS) (row : Nat → Int32) (o : Nat) : Prop :=
  (p_there σ o = row (17 * o) ∧ (row (17 * o) = 0 ∨ row (17 * o) = 1)) ∧
  (p_kind σ o = row (17 * o + 1) ∧ ∃ k, k < 4 ∧ row (17 * o + 1) = nI k) ∧
  (p_label σ o = row (17 * o + 2) ∧ ∃ l, l < s ∧ row (17 * o + 2) = nI l) ∧
  (p_quota σ o = row (17 * o + 3)) ∧
  (p_place σ o = row (17 * o + 4) ∧ ((o = 1 ∧ row (17 * o + 4) = 0 ∧ p_depth σ o = 0) ∨ (∃ d, 1 ≤ d ∧ d < o ∧ row (17 * o + 4) = nI d ∧ p_depth σ o = p_depth σ d + 1))) ∧
  (((row (17 * o + 1) = 0 ∨ row (17 * o + 1) = 1) ∧ p_clearance σ o = -1) ∨ ((row (17 * o + 1) = 2 ∨ row (17 * o + 1) = 3) ∧ p_clearance σ o = row (17 * o + 6) ∧ ∃ l, l < s ∧ row (17 * o + 6) = nI l)) ∧
  (row (17 * o + 1) = 2 → p_guard σ o = row (17 * o + 5) ∧ (∃ l, l < s ∧ row (17 * o + 5) = nI l) ∧ p_entry σ o = row (17 * o + 7)) ∧
  (p_cellCount σ o = row (17 * o + 8)) ∧
  (∀ i, i < 8 → p_cells σ (8 * o + i) = row (17 * o + 9 + i))
def zq_RNb (σ : SS) (o : Nat) : Prop := p_there σ o = 0 ∧ p_cellCount σ o = 0 ∧ ∀ i, i < 8 → p_cells σ (8 * o + i) = 0
def zq_RUs (σ : SS) (row : Nat → Int32) (u : Nat) : Prop :=
  (p_uthere σ u = row (1517 + 8 * u) ∧ (row (1517 + 8 * u) = 0 ∨ row (1517 + 8 * u) = 1)) ∧
  p_password σ u = row (1517 + 8 * u + 1) ∧
  p_firstCategory σ u = row (1517 + 8 * u + 2) ∧
  p_secondCategory σ u = row (1517 + 8 * u + 3) ∧
  p_home σ u = row (1517 + 8 * u + 4) ∧
  p_directory σ u = row (1517 + 8 * u + 5) ∧
  p_gate σ u = row (1517 + 8 * u + 6) ∧
  (∃ a, a < 8 ∧ row (1517 + 8 * u + 2) = nI a) ∧ (∃ b, b < 8 ∧ row (1517 + 8 * u + 3) = nI b)
def zq_Rel (s m g : Nat) (σ : SS) (row : Nat → Int32) : Prop :=
  (2 ≤ s ∧ s ≤ 60 ∧ 2 ≤ m ∧ m ≤ 60 ∧ g ≤ 8) ∧
  (p_size σ = nI s ∧ row 1550 = nI s) ∧ (p_made σ = nI m ∧ row 1549 = nI m) ∧ (p_categories σ = nI g ∧ row 1551 = nI g) ∧
  zq_RLb s (p_packed σ) row ∧ (∀ o, 1 ≤ o → o ≤ m → zq_ROb s σ row o) ∧ (∀ o, (o = 0 ∨ m < o) → o ≤ 60 → zq_RNb σ o) ∧ (∀ u, u < 4 → zq_RUs σ row u)
theorem zq_zp_guard {α : Type} {x : Int32} {n N : Nat} (e : x = nI n) (h : n < N) (hN : N < 2147483648) (a : Nat → Option α) : (if x < 0 ∨ N ≤ x.toNatClampNeg then none else a x.toNatClampNeg) = a n := by
  subst e; rw [zq_zp_ix h hN, zq_zp_cl n (by omega)]
theorem zq_zp_at (ρ : RS) (o f : Nat) (ho : o ≤ 60) (hf : f < 17) : f_Mo_at ρ (nI o) (nI f) = some (gM_row ρ (17 * o + f)) := by
  have e : 17 * nI o + nI f = nI (17 * o + f) := by rw [← zq_zp_add, ← zq_zp_mul]; rfl
  exact zq_zp_guard (N := 1552) e (by omega) (by omega) (fun k => some (gM_row ρ k))
theorem zq_zp_lev (ρ : RS) (l c : Nat) (hl : l < 60) (hc : c < 8) : f_Mo_lev ρ (nI l) (nI c) = some (gM_row ρ (1037 + 8 * l + c)) := by
  have e : 1037 + 8 * nI l + nI c = nI (1037 + 8 * l + c) := by rw [← zq_zp_add, ← zq_zp_add, ← zq_zp_mul]; rfl
  exact zq_zp_guard (N := 1552) e (by omega) (by omega) (fun k => some (gM_row ρ k))
theorem zq_zp_of (ρ : RS) (u f : Nat) (hu : u < 4) (hf : f < 8) : f_Mo_of ρ (nI u) (nI f) = some (gM_row ρ (1517 + 8 * u + f)) := by
  have e : 1517 + 8 * nI u + nI f = nI (1517 + 8 * u + f) := by rw [← zq_zp_add, ← zq_zp_add, ← zq_zp_mul]; rfl
  exact zq_zp_guard (N := 1552) e (by omega) (by omega) (fun k => some (gM_row ρ k))
theorem zq_zp_at0 (ρ : RS) (o : Nat) (ho : o ≤ 60) : f_Mo_at ρ (nI o) 0 = some (gM_row ρ (17 * o)) := zq_zp_at ρ o 0 ho (by omega)
theorem zq_zp_at1 (ρ : RS) (o : Nat) (ho : o ≤ 60) : f_Mo_at ρ (nI o) 1 = some (gM_row ρ (17 * o + 1)) := zq_zp_at ρ o 1 ho (by omega)
theorem zq_zp_at2 (ρ : RS) (o : Nat) (ho : o ≤ 60) : f_Mo_at ρ (nI o) 2 = some (gM_row ρ (17 * o + 2)) := zq_zp_at ρ o 2 ho (by omega)
theorem zq_zp_at3 (ρ : RS) (o : Nat) (ho : o ≤ 60) : f_Mo_at ρ (nI o) 3 = some (gM_row ρ (17 * o + 3)) := zq_zp_at ρ o 3 ho (by omega)
theorem zq_zp_at4 (ρ : RS) (o : Nat) (ho : o ≤ 60) : f_Mo_at ρ (nI o) 4 = some (gM_row ρ (17 * o + 4)) := zq_zp_at ρ o 4 ho (by omega)
theorem zq_zp_at5 (ρ : RS) (o : Nat) (ho : o ≤ 60) : f_Mo_at ρ (nI o) 5 = some (gM_row ρ (17 * o + 5)) := zq_zp_at ρ o 5 ho (by omega)
theorem zq_zp_at6 (ρ : RS) (o : Nat) (ho : o ≤ 60) : f_Mo_at ρ (nI o) 6 = some (gM_row ρ (17 * o + 6)) := zq_zp_at ρ o 6 ho (by omega)
theorem zq_zp_at7 (ρ : RS) (o : Nat) (ho : o ≤ 60) : f_Mo_at ρ (nI o) 7 = some (gM_row ρ (17 * o + 7)) := zq_zp_at ρ o 7 ho (by omega)
theorem zq_zp_at8 (ρ : RS) (o : Nat) (ho : o ≤ 60) : f_Mo_at ρ (nI o) 8 = some (gM_row ρ (17 * o + 8)) := zq_zp_at ρ o 8 ho (by omega)
theorem zq_zp_all8 {F : Nat → Int32 → Option Int32} {P : Nat → Prop}
    (hend : ∀ n, F (n + 1) 8 = some 1)
    (hst : ∀ n c, c < 8 → (P c ∧ F (n + 1) (nI c) = F n (nI (c + 1))) ∨ (¬ P c ∧ F (n + 1) (nI c) = some 0)) :
    (F 100 0 = some 1 ∧ ∀ c, c < 8 → P c) ∨ (F 100 0 = some 0 ∧ ¬ ∀ c, c < 8 → P c) := by
  have key : ∀ d, d ≤ 8 → ∀ n, (F (n + d + 1) (nI (8 - d)) = some 1 ∧ ∀ c, 8 - d ≤ c → c < 8 → P c) ∨ (F (n + d + 1) (nI (8 - d)) = some 0 ∧ ¬ ∀ c, 8 - d ≤ c → c < 8 → P c) := by
    intro d
    induction d with
    | zero => intro _ n; left; exact ⟨hend n, fun c h1 h2 => absurd h2 (by omega)⟩
    | succ d ih =>
      intro hd n
      have e1 : 8 - (d + 1) + 1 = 8 - d := by omega
      rcases hst (n + d + 1) (8 - (d + 1)) (by omega) with ⟨hp, hf⟩ | ⟨hp, hf⟩
      · rw [e1] at hf
        have e2 : n + (d + 1) + 1 = (n + d + 1) + 1 := by omega
        rw [e2, hf]
        rcases ih (by omega) n with ⟨h1, h2⟩ | ⟨h1, h2⟩
        · left; refine ⟨h1, fun c h3 h4 => ?_⟩
          by_cases e : c = 8 - (d + 1)
          · rw [e]; exact hp
          · exact h2 c (by omega) h4
        · right; refine ⟨h1, fun h3 => h2 fun c h4 h5 => h3 c (by omega) h5⟩
      · right
        have e2 : n + (d + 1) + 1 = (n + d + 1) + 1 := by omega
        rw [e2]
        exact ⟨hf, fun h => hp (h _ (by omega) (by omega))⟩
  rcases key 8 (by omega) 91 with ⟨h1, h2⟩ | ⟨h1, h2⟩
  · left; exact ⟨h1, fun c h => h2 c (by omega) h⟩
  · right; exact ⟨h1, fun h => h2 fun c _ h4 => h c h4⟩
theorem zq_zp_8le {c : Nat} (hc : c < 8) : ¬ ((8 : Int32) ≤ nI c) := by
  have e : (8 : Int32) = nI 8 := rfl
  rw [e, zq_zp_le (by omega) (by omega)]; omega
theorem zq_zp_s1 (c : Nat) : nI c + 1 = nI (c + 1) := zq_zp_add c 1
def zq_lo (x : Int32) : Int32 := if x = 4 then -1 else x
theorem zq_zp_low (x : Int32) : f_Lb_low x = some (zq_lo x) := by unfold f_Lb_low zq_lo; split <;> rfl
theorem zq_zp_lowM (x : Int32) : f_Mo_low x = some (zq_lo x) := by unfold f_Mo_low zq_lo; split <;> rfl
theorem zq_zp_levelAt (σ : KS) (l c : Nat) (hl : l < 60) (hc : c < 8) : f_Lb_levelAt σ (nI l) (nI c) = some (zq_lvI (gN_packed σ l) c) :=
  zq_zp_guard (N := 60) rfl hl (by omega) (fun k => some ((zo_ushr (gN_packed σ k) (4 * nI c)) &&& 15))
def zq_PU (pk : Nat → Int32) (a b c : Nat) : Prop := zq_lo (zq_lvI (pk a) c) ≤ zq_lo (zq_lvI (pk b) c)
def zq_PH (pk : Nat → Int32) (a b c : Nat) : Prop := zq_lo (zq_lvI (pk a) c) ≤ zq_lvI (pk b) c
theorem zq_zp_fitsUnder (σ : KS) (a b : Nat) (ha : a < 60) (hb : b < 60) :
    (f_Lb_fitsUnder σ (nI a) (nI b) = some 1 ∧ ∀ c, c < 8 → zq_PU (gN_packed σ) a b c) ∨ (f_Lb_fitsUnder σ (nI a) (nI b) = some 0 ∧ ¬ ∀ c, c < 8 → zq_PU (gN_packed σ) a b c) := by
  refine zq_zp_all8 (F := fun n y => f_Lb_fitsUnder_L2 σ n (nI a) (nI b) y) (fun n => ?_) (fun n c hc => ?_)
  · simp [f_Lb_fitsUnder_L2]
  · simp only [f_Lb_fitsUnder_L2, if_neg (zq_zp_8le hc), zq_zp_levelAt σ a c ha hc, zq_zp_levelAt σ b c hb hc, Option.bind_some, zq_zp_low, zq_zp_s1]
    by_cases h : zq_PU (gN_packed σ) a b c
    · left; exact ⟨h, if_pos h⟩
    · right; exact ⟨h, if_neg h⟩
theorem zq_zp_fitsHigh (σ : KS) (a b : Nat) (ha : a < 60) (hb : b < 60) :
    (f_Lb_fitsHigh σ (nI a) (nI b) = some 1 ∧ ∀ c, c < 8 → zq_PH (gN_packed σ) a b c) ∨ (f_Lb_fitsHigh σ (nI a) (nI b) = some 0 ∧ ¬ ∀ c, c < 8 → zq_PH (gN_packed σ) a b c) := by
  refine zq_zp_all8 (F := fun n y => f_Lb_fitsHigh_L2 σ n (nI a) (nI b) y) (fun n => ?_) (fun n c hc => ?_)
  · simp [f_Lb_fitsHigh_L2]
  · simp only [f_Lb_fitsHigh_L2, if_neg (zq_zp_8le hc), zq_zp_levelAt σ a c ha hc, zq_zp_levelAt σ b c hb hc, Option.bind_some, zq_zp_low, zq_zp_s1]
    by_cases h : zq_PH (gN_packed σ) a b c
    · left; exact ⟨h, if_pos h⟩
    · right; exact ⟨h, if_neg h⟩
theorem zq_zp_levM {s : Nat} {pk : Nat → Int32} {ρ : RS} (hs : s ≤ 60) (hL : zq_RLb s pk (gM_row ρ)) {l c : Nat} (hl : l < s) (hc : c < 8) : f_Mo_lev ρ (nI l) (nI c) = some (zq_lvI (pk l) c) := by
  rw [zq_zp_lev ρ l c (by omega) hc, (hL l hl c hc).1]
theorem zq_zp_under0 {s : Nat} {pk : Nat → Int32} {ρ : RS} (hs : s ≤ 60) (hL : zq_RLb s pk (gM_row ρ)) {a b : Nat} (ha : a < s) (hb : b < s) :
    (f_Mo_under ρ (nI a) (nI b) 0 = some 1 ∧ ∀ c, c < 8 → zq_PU pk a b c) ∨ (f_Mo_under ρ (nI a) (nI b) 0 = some 0 ∧ ¬ ∀ c, c < 8 → zq_PU pk a b c) := by
  refine zq_zp_all8 (F := fun n y => f_Mo_under_L3 ρ n (nI a) (nI b) 0 y) (fun n => ?_) (fun n c hc => ?_)
  · simp [f_Mo_under_L3]
  · simp only [f_Mo_under_L3, if_neg (zq_zp_8le hc), zq_zp_levM hs hL ha hc, zq_zp_levM hs hL hb hc, Option.bind_some, zq_zp_lowM, zq_zp_s1, if_true]
    by_cases h : zq_PU pk a b c
    · left; exact ⟨h, if_pos h⟩
    · right; exact ⟨h, if_neg h⟩
theorem zq_zp_lo5 {k : Nat} (hk : k ≤ 4) : zq_lo (nI k) ≤ 5 ∧ zq_lo (nI k) ≤ 4 := by
  revert k; decide
theorem zq_zp_under1 {s : Nat} {pk : Nat → Int32} {ρ : RS} (hs : s ≤ 60) (hL : zq_RLb s pk (gM_row ρ)) {a b : Nat} (ha : a < s) (hb : b < s) {y : Int32} (hy : ¬ y = 0) :
    (f_Mo_under ρ (nI a) (nI b) y = some 1 ∧ ∀ c, c < 8 → zq_PH pk a b c) ∨ (f_Mo_under ρ (nI a) (nI b) y = some 0 ∧ ¬ ∀ c, c < 8 → zq_PH pk a b c) := by
  refine zq_zp_all8 (F := fun n x => f_Mo_under_L3 ρ n (nI a) (nI b) y x) (fun n => ?_) (fun n c hc => ?_)
  · simp [f_Mo_under_L3]
  · simp only [f_Mo_under_L3, if_neg (zq_zp_8le hc), zq_zp_levM hs hL ha hc, zq_zp_levM hs hL hb hc, Option.bind_some, zq_zp_lowM, zq_zp_s1, if_neg hy]
    obtain ⟨k, hk, ek⟩ := (hL a ha c hc).2
    by_cases h4 : zq_lvI (pk b) c = 4
    · left
      refine ⟨?_, ?_⟩
      · unfold zq_PH; rw [h4, ek]; exact (zq_zp_lo5 hk).2
      · rw [if_pos h4, ek, if_pos (zq_zp_lo5 hk).1]
    · have e : zq_lo (zq_lvI (pk b) c) = zq_lvI (pk b) c := if_neg h4
      rw [if_neg h4, e]
      by_cases h : zq_PH pk a b c
      · left; exact ⟨h, if_pos h⟩
      · right; exact ⟨h, if_neg h⟩
def zq_Both (x y : Option Int32) : Prop := (x = some 1 ∧ y = some 1) ∨ (x = some 0 ∧ y = some 0)
theorem zq_zp_bb {x y : Option Int32} {P : Prop} (h1 : (x = some 1 ∧ P) ∨ (x = some 0 ∧ ¬ P)) (h2 : (y = some 1 ∧ P) ∨ (y = some 0 ∧ ¬ P)) : zq_Both x y := by
  rcases h1 with ⟨a, p⟩ | ⟨a, p⟩ <;> rcases h2 with ⟨b, q⟩ | ⟨b, q⟩
  · exact Or.inl ⟨a, b⟩
  · exact absurd p q
  · exact absurd q p
  · exact Or.inr ⟨a, b⟩
theorem zq_zp_bU {s : Nat} {σ : KS} {ρ : RS} (hs : s ≤ 60) (hL : zq_RLb s (gN_packed σ) (gM_row ρ)) {a b : Nat} (ha : a < s) (hb : b < s) : zq_Both (f_Lb_fitsUnder σ (nI a) (nI b)) (f_Mo_under ρ (nI a) (nI b) 0) :=
  zq_zp_bb (zq_zp_fitsUnder σ a b (by omega) (by omega)) (zq_zp_under0 hs hL ha hb)
theorem zq_zp_bH {s : Nat} {σ : KS} {ρ : RS} (hs : s ≤ 60) (hL : zq_RLb s (gN_packed σ) (gM_row ρ)) {a b : Nat} (ha : a < s) (hb : b < s) {y : Int32} (hy : ¬ y = 0) : zq_Both (f_Lb_fitsHigh σ (nI a) (nI b)) (f_Mo_under ρ (nI a) (nI b) y) :=
  zq_zp_bb (zq_zp_fitsHigh σ a b (by omega) (by omega)) (zq_zp_under1 hs hL ha hb hy)
theorem zq_zp_has {s : Nat} {σ : KS} {ρ : RS} (hs : s ≤ 60) (h1 : gN_size σ = nI s) (h2 : gM_row ρ 1550 = nI s) (h0 : 1 ≤ s) (x : Int32) :
    (∃ l, l < s ∧ x = nI l ∧ f_Lb_has σ x = some 1 ∧ f_Mo_isLabel ρ x = some 1) ∨ (f_Lb_has σ x = some 0 ∧ f_Mo_isLabel ρ x = some 0) := by
  have e1 : nI s - 1 = nI (s - 1) := by
    have : nI s = nI (s - 1) + 1 := by rw [zq_zp_s1]; congr 1; omega
    rw [this]; exact Int32.add_sub_cancel _ _
  have e2 : f_Mo_isLabel ρ x = (f_Mo_within x 0 (nI (s - 1))).bind (fun v1 => if vp_nar .boolean v1 = v1 then some v1 else none) := by
    unfold f_Mo_isLabel
    have := zq_zp_guard (x := (1550 : Int32)) (n := 1550) (N := 1552) rfl (by omega) (by omega) (fun k => (f_Mo_within x 0 ((gM_row ρ k) - 1)).bind (fun v1 => if vp_nar .boolean v1 = v1 then some v1 else none))
    rw [this, h2, e1]
  by_cases hx : x < 0
  · right
    refine ⟨by unfold f_Lb_has; rw [if_pos hx], ?_⟩
    rw [e2]; unfold f_Mo_within; rw [if_pos hx]; rfl
  · obtain ⟨l, hl, rfl⟩ := zq_zp_ex (by rw [zq_zp_nlt] at hx; exact hx)
    by_cases h : l < s
    · left
      refine ⟨l, h, rfl, ?_, ?_⟩
      · unfold f_Lb_has; rw [if_neg hx, h1, if_neg]
        rw [zq_zp_le (by omega) (by omega)]; omega
      · rw [e2]; unfold f_Mo_within; rw [if_neg hx, if_neg]
        · rfl
        · rw [zq_zp_lt (by omega) (by omega)]; omega
    · right
      refine ⟨?_, ?_⟩
      · unfold f_Lb_has; rw [if_neg hx, h1, if_pos]
        rw [zq_zp_le (by omega) (by omega)]; omega
      · rw [e2]; unfold f_Mo_within; rw [if_neg hx, if_pos]
        · rfl
        · rw [zq_zp_lt (by omega) (by omega)]; omega
theorem zq_zp_starlessM {s : Nat} {pk : Nat → Int32} {ρ : RS} (hs : s ≤ 60) (hL : zq_RLb s pk (gM_row ρ)) {a : Nat} (ha : a < s) :
    (f_Mo_starless ρ (nI a) = some 1 ∧ ∀ c, c < 8 → zq_lvI (pk a) c ≠ 4) ∨ (f_Mo_starless ρ (nI a) = some 0 ∧ ¬ ∀ c, c < 8 → zq_lvI (pk a) c ≠ 4) := by
  refine zq_zp_all8 (F := fun n x => f_Mo_starless_L2 ρ n (nI a) x) (P := fun c => zq_lvI (pk a) c ≠ 4) (fun n => ?_) (fun n c hc => ?_)
  · simp [f_Mo_starless_L2]
  · simp only [f_Mo_starless_L2, if_neg (zq_zp_8le hc), zq_zp_levM hs hL ha hc, Option.bind_some, zq_zp_s1]
    by_cases h : zq_lvI (pk a) c = 4
    · right; exact ⟨fun h' => h' h, if_pos h⟩
    · left; exact ⟨h, if_neg h⟩
theorem zq_zp_isStarless {s : Nat} {σ : KS} {ρ : RS} (hs : s ≤ 60) (h1 : gN_size σ = nI s) (h2 : gM_row ρ 1550 = nI s) (h0 : 1 ≤ s) (hL : zq_RLb s (gN_packed σ) (gM_row ρ)) (x : Int32) :
    (∃ l, l < s ∧ x = nI l ∧ f_Lb_isStarless σ x = some 1 ∧ f_Mo_isLabel ρ x = some 1 ∧ f_Mo_starless ρ x = some 1) ∨ (f_Lb_isStarless σ x = some 0 ∧ (f_Mo_isLabel ρ x = some 0 ∨ (f_Mo_isLabel ρ x = some 1 ∧ f_Mo_starless ρ x = some 0))) := by
  rcases zq_zp_has hs h1 h2 h0 x with ⟨l, hl, rfl, e1, e2⟩ | ⟨e1, e2⟩
  · have e3 : f_Lb_isStarless σ (nI l) = if ((gN_packed σ l) &&& 1145324612) = 0 then (some 1) else (some 0) := by
      unfold f_Lb_isStarless
      rw [e1]
      exact zq_zp_guard (N := 60) rfl (by omega) (by omega) (fun k => if ((gN_packed σ k) &&& 1145324612) = 0 then (some (1 : Int32)) else (some 0))
    have e4 := zq_zp_starless (p := gN_packed σ l) (fun c hc => (hL l hl c hc).2)
    rcases zq_zp_starlessM hs hL hl with ⟨e5, e6⟩ | ⟨e5, e6⟩
    · left; refine ⟨l, hl, rfl, ?_, e2, e5⟩
      rw [e3, if_pos]; rw [e4]; exact e6
    · right; refine ⟨?_, Or.inr ⟨e2, e5⟩⟩
      rw [e3, if_neg]; rw [e4]; exact e6
  · right; refine ⟨?_, Or.inl e2⟩
    unfold f_Lb_isStarless; rw [e1]; rfl
theorem zq_zp_bS {s : Nat} {σ : KS} {ρ : RS} (hs : s ≤ 60) (hL : zq_RLb s (gN_packed σ) (gM_row ρ)) {a b t : Nat} (ha : a < s) (hb : b < s) (ht : t ≤ 60) (h2 : gM_row ρ (17 * t + 2) = nI b) : zq_Both (f_Lb_hasStarsOnlyOf σ (nI a) (nI b)) (f_Mo_starsOf ρ (nI a) (nI t)) := by
  have e3 : f_Lb_hasStarsOnlyOf σ (nI a) (nI b) = if (((gN_packed σ a) &&& ((gN_packed σ b) ^^^ (-1))) &&& 1145324612) = 0 then (some 1) else (some 0) := by
    unfold f_Lb_hasStarsOnlyOf
    rw [zq_zp_ix (N := 60) (by omega) (by omega), zq_zp_ix (N := 60) (by omega) (by omega), zq_zp_cl _ (by omega), zq_zp_cl _ (by omega)]
  have e4 := zq_zp_stars (p := gN_packed σ a) (q := gN_packed σ b) (fun c hc => (hL a ha c hc).2) (fun c hc => (hL b hb c hc).2)
  refine zq_zp_bb (P := ∀ c, c < 8 → zq_lvI (gN_packed σ a) c = 4 → zq_lvI (gN_packed σ b) c = 4) ?_ ?_
  · rw [e3]
    by_cases h : ∀ c, c < 8 → zq_lvI (gN_packed σ a) c = 4 → zq_lvI (gN_packed σ b) c = 4
    · left; exact ⟨if_pos (e4.mpr h), h⟩
    · right; exact ⟨if_neg (fun k => h (e4.mp k)), h⟩
  · refine zq_zp_all8 (F := fun n x => f_Mo_starsOf_L2 ρ n (nI a) (nI t) x) (P := fun c => zq_lvI (gN_packed σ a) c = 4 → zq_lvI (gN_packed σ b) c = 4) (fun n => ?_) (fun n c hc => ?_)
    · simp [f_Mo_starsOf_L2]
    · simp only [f_Mo_starsOf_L2, if_neg (zq_zp_8le hc), zq_zp_levM hs hL ha hc, zq_zp_at2 ρ t ht, h2, zq_zp_levM hs hL hb hc, Option.bind_some, zq_zp_s1, f_Mo_starsWithin]
      by_cases h : zq_lvI (gN_packed σ a) c = 4
      · by_cases h' : zq_lvI (gN_packed σ b) c = 4
        · left; refine ⟨fun _ => h', ?_⟩
          rw [if_pos h, if_pos h']; rfl
        · right; refine ⟨fun k => h' (k h), ?_⟩
          rw [if_pos h, if_neg h']; rfl
      · left; refine ⟨fun k => absurd k h, ?_⟩
        rw [if_neg h]; rfl
theorem zq_zp_find {F : Nat → Int32 → Option Int32} {P : Nat → Prop} {s : Nat} (hs : s ≤ 60)
    (hend : ∀ n, F (n + 1) (nI s) = some (-1))
    (hst : ∀ n y, y < s → (P y ∧ F (n + 1) (nI y) = some (nI y)) ∨ (¬ P y ∧ F (n + 1) (nI y) = F n (nI (y + 1)))) :
    (∃ k, k < s ∧ F 100 0 = some (nI k) ∧ P k ∧ ∀ j, j < k → ¬ P j) ∨ (F 100 0 = some (-1) ∧ ∀ j, j < s → ¬ P j) := by
  have key : ∀ d, d ≤ s → ∀ n, (∃ k, s - d ≤ k ∧ k < s ∧ F (n + d + 1) (nI (s - d)) = some (nI k) ∧ P k ∧ ∀ j, s - d ≤ j → j < k → ¬ P j) ∨ (F (n + d + 1) (nI (s - d)) = some (-1) ∧ ∀ j, s - d ≤ j → j < s → ¬ P j) := by
    intro d
    induction d with
    | zero => intro _ n; right; exact ⟨hend n, fun j h1 h2 => absurd h2 (by omega)⟩
    | succ d ih =>
      intro hd n
      have e1 : s - (d + 1) + 1 = s - d := by omega
      have e2 : n + (d + 1) + 1 = (n + d + 1) + 1 := by omega
      rw [e2]
      rcases hst (n + d + 1) (s - (d + 1)) (by omega) with ⟨hp, hf⟩ | ⟨hp, hf⟩
      · left; exact ⟨s - (d + 1), by omega, by omega, hf, hp, fun j h1 h2 => absurd h2 (by omega)⟩
      · rw [e1] at hf
        rw [hf]
        rcases ih (by omega) n with ⟨k, h1, h2, h3, h4, h5⟩ | ⟨h1, h2⟩
        · left; refine ⟨k, by omega, h2, h3, h4, fun j h6 h7 => ?_⟩
          by_cases e : j = s - (d + 1)
          · rw [e]; exact hp
          · exact h5 j (by omega) h7
        · right; refine ⟨h1, fun j h6 h7 => ?_⟩
          by_cases e : j = s - (d + 1)
          · rw [e]; exact hp
          · exact h2 j (by omega) h7
  have e3 : s - s = 0 := by omega
  have e4 : 99 - s + s + 1 = 100 := by omega
  have := key s (by omega) (99 - s)
  rw [e3, e4] at this
  rcases this with ⟨k, h1, h2, h3, h4, h5⟩ | ⟨h1, h2⟩
  · left; exact ⟨k, h2, h3, h4, fun j hj => h5 j (by omega) hj⟩
  · right; exact ⟨h1, fun j hj => h2 j (by omega) hj⟩
theorem zq_zp_indexOf {s : Nat} {σ : KS} (hs : s ≤ 60) (h1 : gN_size σ = nI s) (w : Int32) :
    (∃ k, k < s ∧ f_Lb_indexOf σ w = some (nI k) ∧ gN_packed σ k = w ∧ ∀ j, j < k → ¬ gN_packed σ j = w) ∨ (f_Lb_indexOf σ w = some (-1) ∧ ∀ j, j < s → ¬ gN_packed σ j = w) := by
  refine zq_zp_find (F := fun n y => f_Lb_indexOf_L2 σ n w y) (P := fun k => gN_packed σ k = w) hs (fun n => ?_) (fun n y hy => ?_)
  · simp [f_Lb_indexOf_L2, h1]
  · have e : f_Lb_indexOf_L2 σ (n + 1) w (nI y) = if gN_packed σ y = w then some (nI y) else f_Lb_indexOf_L2 σ n w (nI (y + 1)) := by
      have h2 : ¬ (nI s ≤ nI y) := by rw [zq_zp_le (by omega) (by omega)]; omega
      simp only [f_Lb_indexOf_L2, h1, if_neg h2, zq_zp_s1]
      exact zq_zp_guard (N := 60) rfl (by omega) (by omega) (fun k => if gN_packed σ k = w then some (nI y) else f_Lb_indexOf_L2 σ n w (nI (y + 1)))
    simp only [e]
    by_cases h : gN_packed σ y = w
    · left; exact ⟨h, if_pos h⟩
    · right; exact ⟨h, if_neg h⟩
abbrev zq_PL (pk : Nat → Int32) (l c : Nat) (v : Int32) (k j : Nat) : Prop := zq_lvI (pk k) j = if j = c then v else zq_lvI (pk l) j
theorem zq_zp_like22s {s : Nat} {pk : Nat → Int32} {ρ : RS} (hs : s ≤ 60) (hL : zq_RLb s pk (gM_row ρ)) {l c k j : Nat} (hl : l < s) (hk : k < s) (hj : j < 8) (hc : c < 8) (v : Int32) (n : Nat) (y : Int32) :
    f_Mo_like_L22 ρ (n + 1) (nI l) (nI c) v (nI k) y (nI j) = f_Mo_like_L22 ρ n (nI l) (nI c) v (nI k) (if zq_PL pk l c v k j then y else 0) (nI (j + 1)) := by
  rw [f_Mo_like_L22]
  simp only [if_neg (zq_zp_8le hj), zq_zp_levM hs hL hk hj, zq_zp_levM hs hL hl hj, Option.bind_some, zq_zp_s1]
  simp only [zq_zp_eq (show j < 2147483648 by omega) (show c < 2147483648 by omega)]
  by_cases h5 : j = c
  · simp only [h5, if_true]
    by_cases h6 : zq_lvI (pk k) c = v
    · simp only [zq_PL, h5, h6, if_true, if_false]
    · simp only [zq_PL, h5, h6, if_true, if_false]
  · simp only [h5, if_false]
    by_cases h6 : zq_lvI (pk k) j = zq_lvI (pk l) j
    · simp only [zq_PL, h5, h6, if_true, if_false]
    · simp only [zq_PL, h5, h6, if_true, if_false]
theorem zq_zp_like22 {s : Nat} {pk : Nat → Int32} {ρ : RS} (hs : s ≤ 60) (hL : zq_RLb s pk (gM_row ρ)) {l c k : Nat} (hl : l < s) (hc : c < 8) (hk : k < s) (v : Int32) :
    ∃ f, f_Mo_like_L22 ρ 100 (nI l) (nI c) v (nI k) 1 0 = some (nI l, nI c, v, nI k, f, 8) ∧ ((f = 1 ∧ ∀ j, j < 8 → zq_PL pk l c v k j) ∨ (f = 0 ∧ ¬ ∀ j, j < 8 → zq_PL pk l c v k j)) := by
  have key : ∀ d, d ≤ 8 → ∀ n y, ∃ f, f_Mo_like_L22 ρ (n + d + 1) (nI l) (nI c) v (nI k) y (nI (8 - d)) = some (nI l, nI c, v, nI k, f, 8) ∧ ((f = y ∧ ∀ j, 8 - d ≤ j → j < 8 → zq_PL pk l c v k j) ∨ (f = 0 ∧ ¬ ∀ j, 8 - d ≤ j → j < 8 → zq_PL pk l c v k j)) := by
    intro d
    induction d with
    | zero => intro _ n y; exact ⟨y, by simp [f_Mo_like_L22]; rfl, Or.inl ⟨rfl, fun c h1 h2 => absurd h2 (by omega)⟩⟩
    | succ d ih =>
      intro hd n y
      have e1 : 8 - (d + 1) + 1 = 8 - d := by omega
      have e2 : n + (d + 1) + 1 = (n + d + 1) + 1 := by omega
      have hj : 8 - (d + 1) < 8 := by omega
      rw [e2]
      have hstep := zq_zp_like22s hs hL hl hk hj hc v (n + d + 1) y
      rw [e1] at hstep
      rw [hstep]
      by_cases hp : zq_PL pk l c v k (8 - (d + 1))
      · rw [if_pos hp]
        obtain ⟨f, h1, h2⟩ := ih (by omega) n y
        refine ⟨f, h1, ?_⟩
        rcases h2 with ⟨h3, h4⟩ | ⟨h3, h4⟩
        · left; refine ⟨h3, fun j h5 h6 => ?_⟩
          by_cases e : j = 8 - (d + 1)
          · rw [e]; exact hp
          · exact h4 j (by omega) h6
        · right; exact ⟨h3, fun h => h4 fun j h5 h6 => h j (by omega) h6⟩
      · rw [if_neg hp]
        obtain ⟨f, h1, h2⟩ := ih (by omega) n 0
        refine ⟨f, h1, Or.inr ⟨?_, fun h => hp (h _ (by omega) hj)⟩⟩
        rcases h2 with ⟨h3, -⟩ | ⟨h3, -⟩ <;> exact h3
  obtain ⟨f, h1, h2⟩ := key 8 (by omega) 91 1
  refine ⟨f, h1, ?_⟩
  rcases h2 with ⟨h3, h4⟩ | ⟨h3, h4⟩
  · left; exact ⟨h3, fun j h => h4 j (by omega) h⟩
  · right; exact ⟨h3, fun h => h4 fun j _ h6 => h j h6⟩
theorem zq_zp_PL {pk : Nat → Int32} {l c k v : Nat} (hc : c < 8) (hv : v < 16) : (∀ j, j < 8 → zq_PL pk l c (nI v) k j) ↔ pk k = zq_chI (pk l) c (nI v) := by
  constructor
  · intro h
    apply zq_zp_lvext
    intro j hj
    rw [zq_zp_lvch _ _ _ _ hc hj hv]
    exact h j hj
  · intro h j hj
    unfold zq_PL
    rw [h, zq_zp_lvch _ _ _ _ hc hj hv]
theorem zq_zp_like {s : Nat} {pk : Nat → Int32} {ρ : RS} (hs : s ≤ 60) (hL : zq_RLb s pk (gM_row ρ)) (h2 : gM_row ρ 1550 = nI s) {l c v : Nat} (hl : l < s) (hc : c < 8) (hv : v < 16) :
    (∃ k, k < s ∧ f_Mo_like ρ (nI l) (nI c) (nI v) = some (nI k) ∧ pk k = zq_chI (pk l) c (nI v) ∧ ∀ j, j < k → ¬ pk j = zq_chI (pk l) c (nI v)) ∨ (f_Mo_like ρ (nI l) (nI c) (nI v) = some (-1) ∧ ∀ j, j < s → ¬ pk j = zq_chI (pk l) c (nI v)) := by
  have hg : ∀ n y, f_Mo_like_L3 ρ (n + 1) (nI l) (nI c) (nI v) y = if nI s ≤ y then (some (-1)) else ((f_Mo_like_L22 ρ 100 (nI l) (nI c) (nI v) y 1 0).bind fun v8 => if v8.2.2.2.2.1 = 0 then (f_Mo_like_L3 ρ n v8.1 v8.2.1 v8.2.2.1 (v8.2.2.2.1 + 1)) else (some v8.2.2.2.1)) := by
    intro n y
    rw [← h2]
    exact zq_zp_guard (x := (1550 : Int32)) (n := 1550) (N := 1552) rfl (by omega) (by omega) (fun q => if gM_row ρ q ≤ y then (some (-1)) else ((f_Mo_like_L22 ρ 100 (nI l) (nI c) (nI v) y 1 0).bind fun v8 => if v8.2.2.2.2.1 = 0 then (f_Mo_like_L3 ρ n v8.1 v8.2.1 v8.2.2.1 (v8.2.2.2.1 + 1)) else (some v8.2.2.2.1)))
  refine zq_zp_find (F := fun n y => f_Mo_like_L3 ρ n (nI l) (nI c) (nI v) y) (P := fun k => pk k = zq_chI (pk l) c (nI v)) hs (fun n => ?_) (fun n y hy => ?_)
  · simp only [hg]; rw [if_pos (Int32.le_refl _)]
  · have h3 : ¬ (nI s ≤ nI y) := by rw [zq_zp_le (by omega) (by omega)]; omega
    simp only [hg, if_neg h3]
    obtain ⟨f, e1, e2⟩ := zq_zp_like22 hs hL hl hc hy (nI v)
    rw [e1]
    simp only [Option.bind_some, zq_zp_s1]
    rcases e2 with ⟨rfl, e3⟩ | ⟨rfl, e3⟩
    · left; exact ⟨(zq_zp_PL hc hv).mp e3, rfl⟩
    · right; exact ⟨fun h => e3 ((zq_zp_PL hc hv).mpr h), rfl⟩
theorem zq_zp_bL {s : Nat} {σ : KS} {ρ : RS} (hs : s ≤ 60) (h1 : gN_size σ = nI s) (h2 : gM_row ρ 1550 = nI s) (hL : zq_RLb s (gN_packed σ) (gM_row ρ)) {l c v : Nat} (hl : l < s) (hc : c < 8) (hv : v < 16) :
    (∃ k, k < s ∧ f_Lb_indexOf σ (zq_chI (gN_packed σ l) c (nI v)) = some (nI k) ∧ f_Mo_like ρ (nI l) (nI c) (nI v) = some (nI k)) ∨ (f_Lb_indexOf σ (zq_chI (gN_packed σ l) c (nI v)) = some (-1) ∧ f_Mo_like ρ (nI l) (nI c) (nI v) = some (-1)) := by
  rcases zq_zp_indexOf hs h1 (zq_chI (gN_packed σ l) c (nI v)) with ⟨k, a1, a2, a3, a4⟩ | ⟨a1, a2⟩ <;> rcases zq_zp_like hs hL h2 hl hc hv with ⟨k', b1, b2, b3, b4⟩ | ⟨b1, b2⟩
  · left
    have e : k = k' := by
      rcases Nat.lt_trichotomy k k' with h | h | h
      · exact absurd a3 (b4 k h)
      · exact h
      · exact absurd b3 (a4 k' h)
    subst e
    exact ⟨k, a1, a2, b2⟩
  · exact absurd a3 (b2 k a1)
  · exact absurd b3 (a2 k' b1)
  · right; exact ⟨a1, b1⟩
theorem zq_zp_changed (σ : KS) (l c : Nat) (v : Int32) (hl : l < 60) : f_Lb_changed σ (nI l) (nI c) v = some (zq_chI (gN_packed σ l) c v) :=
  zq_zp_guard (N := 60) rfl hl (by omega) (fun k => some ((gN_packed σ k &&& ((15 <<< ((4 * nI c) &&& 31)) ^^^ (-1))) ||| (v <<< ((4 * nI c) &&& 31))))
theorem zq_upd_ne {f : Nat → Int32} {k j : Nat} {x : Int32} (h : j ≠ k) : upd f k x j = f j := if_neg h
theorem zq_upd_eq {f : Nat → Int32} {k : Nat} {x : Int32} : upd f k x k = x := if_pos rfl
def zq_TEq (σ σ' : SS) (o : Nat) : Prop :=
  p_there σ' o = p_there σ o ∧ p_kind σ' o = p_kind σ o ∧ p_label σ' o = p_label σ o ∧ p_quota σ' o = p_quota σ o ∧ p_place σ' o = p_place σ o ∧
  (∀ d, d ≤ o → p_depth σ' d = p_depth σ d) ∧ p_clearance σ' o = p_clearance σ o ∧ p_guard σ' o = p_guard σ o ∧ p_entry σ' o = p_entry σ o ∧
  p_cellCount σ' o = p_cellCount σ o ∧ ∀ i, i < 8 → p_cells σ' (8 * o + i) = p_cells σ (8 * o + i)
theorem zq_zp_exmono {s s' : Nat} (hs : s ≤ s') {x : Int32} (h : ∃ l, l < s ∧ x = nI l) : ∃ l, l < s' ∧ x = nI l := by
  obtain ⟨l, h1, h2⟩ := h; exact ⟨l, by omega, h2⟩
theorem zq_ROb_of {s s' : Nat} {σ σ' : SS} {row row' : Nat → Int32} {o : Nat} (hs : s ≤ s') (hrow : ∀ j, j < 17 → row' (17 * o + j) = row (17 * o + j)) (T : zq_TEq σ σ' o) (h : zq_ROb s σ row o) : zq_ROb s' σ' row' o := by
  obtain ⟨t1, t2, t3, t4, t5, t6, t7, t8, t9, t10, t11⟩ := T
  obtain ⟨⟨a1, a2⟩, ⟨b1, b2⟩, ⟨c1, c2⟩, d1, ⟨e1, e2⟩, f1, g1, i1, k1⟩ := h
  have r0 : row' (17 * o) = row (17 * o) := hrow 0 (by omega)
  have r1 := hrow 1 (by omega)
  have r2 := hrow 2 (by omega)
  have r3 := hrow 3 (by omega)
  have r4 := hrow 4 (by omega)
  have r5 := hrow 5 (by omega)
  have r6 := hrow 6 (by omega)
  have r7 := hrow 7 (by omega)
  have r8 := hrow 8 (by omega)
  unfold zq_ROb
  rw [r0, r1, r2, r3, r4, r5, r6, r7, r8, t1, t2, t3, t4, t5, t7, t8, t9, t10, t6 o (by omega)]
  refine ⟨⟨a1, a2⟩, ⟨b1, b2⟩, ⟨c1, zq_zp_exmono hs c2⟩, d1, ⟨e1, ?_⟩, ?_, ?_, i1, ?_⟩
  · rcases e2 with e2 | ⟨d, e3, e4, e5, e6⟩
    · exact Or.inl e2
    · refine Or.inr ⟨d, e3, e4, e5, ?_⟩
      rw [t6 d (by omega)]; exact e6
  · rcases f1 with f1 | ⟨f1, f2, f3⟩
    · exact Or.inl f1
    · exact Or.inr ⟨f1, f2, zq_zp_exmono hs f3⟩
  · intro hk
    obtain ⟨g2, g3, g4⟩ := g1 hk
    exact ⟨g2, zq_zp_exmono hs g3, g4⟩
  · intro i hi
    have r9 := hrow (9 + i) (by omega)
    rw [← Nat.add_assoc] at r9
    rw [t11 i hi, r9]; exact k1 i hi
def zq_UEq (σ σ' : SS) : Prop :=
  p_uthere σ' = p_uthere σ ∧ p_password σ' = p_password σ ∧ p_firstCategory σ' = p_firstCategory σ ∧ p_secondCategory σ' = p_secondCategory σ ∧
  p_home σ' = p_home σ ∧ p_directory σ' = p_directory σ ∧ p_gate σ' = p_gate σ
theorem zq_RUs_of {σ σ' : SS} {row row' : Nat → Int32} {u : Nat} (hrow : ∀ j, j < 8 → row' (1517 + 8 * u + j) = row (1517 + 8 * u + j)) (T : zq_UEq σ σ') (h : zq_RUs σ row u) : zq_RUs σ' row' u := by
  obtain ⟨t1, t2, t3, t4, t5, t6, t7⟩ := T
  have r0 : row' (1517 + 8 * u) = row (1517 + 8 * u) := hrow 0 (by omega)
  have r1 := hrow 1 (by omega)
  have r2 := hrow 2 (by omega)
  have r3 := hrow 3 (by omega)
  have r4 := hrow 4 (by omega)
  have r5 := hrow 5 (by omega)
  have r6 := hrow 6 (by omega)
  unfold zq_RUs at h ⊢
  rw [r0, r1, r2, r3, r4, r5, r6, t1, t2, t3, t4, t5, t6, t7]
  exact h
theorem zq_RLb_of {s : Nat} {pk row row' : Nat → Int32} (hrow : ∀ j, 1037 ≤ j → j < 1037 + 8 * s → row' j = row j) (h : zq_RLb s pk row) : zq_RLb s pk row' := by
  intro l hl c hc
  rw [hrow (1037 + 8 * l + c) (by omega) (by omega)]
  exact h l hl c hc
def zq_rwL (row : Nat → Int32) (s d : Nat) (f : Nat → Int32) : Nat → Int32 := fun j => if 1037 + 8 * s ≤ j ∧ j < 1037 + 8 * s + d then f (j - (1037 + 8 * s)) else row j
theorem zq_zp_rwL_step {row : Nat → Int32} {s d : Nat} {f : Nat → Int32} {x : Int32} (hx : x = f d) : upd (zq_rwL row s d f) (1037 + 8 * s + d) x = zq_rwL row s (d + 1) f := by
  funext j
  unfold upd zq_rwL
  by_cases h : j = 1037 + 8 * s + d
  · rw [if_pos h, if_pos (by omega), h, hx]; congr 1; omega
  · rw [if_neg h]
    by_cases h1 : 1037 + 8 * s ≤ j ∧ j < 1037 + 8 * s + d
    · rw [if_pos h1, if_pos (by omega)]
    · rw [if_neg h1, if_neg (by omega)]
theorem zq_zp_made49 {s : Nat} {pk : Nat → Int32} {ρ : RS} (hs : s < 60) (hL : zq_RLb s pk (gM_row ρ)) (h2 : gM_row ρ 1550 = nI s) {l c : Nat} (hl : l < s) (hc : c < 8) (v : Int32) :
    f_Mo_made_L49 100 ρ (nI l) (nI c) v (nI s) 0 = some (nI s, sM_row ρ (upd (zq_rwL (gM_row ρ) s 8 (fun j => if j = c then v else zq_lvI (pk l) j)) 1550 (nI (s + 1)))) := by
  have key : ∀ d, d ≤ 8 → ∀ n, f_Mo_made_L49 (n + d + 1) (sM_row ρ (zq_rwL (gM_row ρ) s (8 - d) (fun j => if j = c then v else zq_lvI (pk l) j))) (nI l) (nI c) v (nI s) (nI (8 - d)) = some (nI s, sM_row ρ (upd (zq_rwL (gM_row ρ) s 8 (fun j => if j = c then v else zq_lvI (pk l) j)) 1550 (nI (s + 1)))) := by
    intro d
    induction d with
    | zero =>
      intro _ n
      rw [f_Mo_made_L49]
      have e8 : (8 : Int32) ≤ nI (8 - 0) := Int32.le_refl _
      rw [if_pos e8]
      have e9 : zq_rwL (gM_row ρ) s 8 (fun j => if j = c then v else zq_lvI (pk l) j) 1550 = nI s := by
        unfold zq_rwL; rw [if_neg (by omega)]; exact h2
      have g1 := fun (a : Option (Int32 × RS)) => zq_zp_ix (n := 1550) (N := 1552) (by omega) (by omega) a
      have g2 : (1550 : Int32).toNatClampNeg = 1550 := zq_zp_cl 1550 (by omega)
      have g3 : ∀ r : Nat → Int32, gM_row (sM_row ρ r) = r := fun _ => rfl
      have g4 : ∀ r r' : Nat → Int32, sM_row (sM_row ρ r) r' = sM_row ρ r' := fun _ _ => rfl
      show (if nI 1550 < 0 ∨ 1552 ≤ (nI 1550).toNatClampNeg then none else if nI 1550 < 0 ∨ 1552 ≤ (nI 1550).toNatClampNeg then none else _) = _
      rw [g1, g1]
      simp only [zl, g2, g3, g4]
      show some (nI s, sM_row ρ (upd (zq_rwL (gM_row ρ) s 8 (fun j => if j = c then v else zq_lvI (pk l) j)) 1550 (zq_rwL (gM_row ρ) s 8 (fun j => if j = c then v else zq_lvI (pk l) j) 1550 + 1))) = _
      rw [e9, zq_zp_s1]
    | succ d ih =>
      intro hd n
      have e1 : 8 - (d + 1) + 1 = 8 - d := by omega
      have e2 : n + (d + 1) + 1 = (n + d + 1) + 1 := by omega
      have hj : 8 - (d + 1) < 8 := by omega
      have hL' : zq_RLb s pk (gM_row (sM_row ρ (zq_rwL (gM_row ρ) s (8 - (d + 1)) (fun j => if j = c then v else zq_lvI (pk l) j)))) := by
        refine zq_RLb_of (row := gM_row ρ) (fun j h3 h4 => ?_) hL
        show zq_rwL (gM_row ρ) s (8 - (d + 1)) (fun j => if j = c then v else zq_lvI (pk l) j) j = gM_row ρ j
        unfold zq_rwL; rw [if_neg (by omega)]
      have ix : 1037 + 8 * nI s + nI (8 - (d + 1)) = nI (1037 + 8 * s + (8 - (d + 1))) := by rw [← zq_zp_add, ← zq_zp_add, ← zq_zp_mul]; rfl
      have key2 : ∀ x : Int32, (x = if 8 - (d + 1) = c then v else zq_lvI (pk l) (8 - (d + 1))) → (if 1037 + 8 * nI s + nI (8 - (d + 1)) < 0 ∨ 1552 ≤ (1037 + 8 * nI s + nI (8 - (d + 1))).toNatClampNeg then none else zl (sM_row (sM_row ρ (zq_rwL (gM_row ρ) s (8 - (d + 1)) (fun j => if j = c then v else zq_lvI (pk l) j))) (upd (gM_row (sM_row ρ (zq_rwL (gM_row ρ) s (8 - (d + 1)) (fun j => if j = c then v else zq_lvI (pk l) j)))) (1037 + 8 * nI s + nI (8 - (d + 1))).toNatClampNeg x)) fun u9 => f_Mo_made_L49 (n + d + 1) u9 (nI l) (nI c) v (nI s) (nI (8 - (d + 1)) + 1)) = some (nI s, sM_row ρ (upd (zq_rwL (gM_row ρ) s 8 (fun j => if j = c then v else zq_lvI (pk l) j)) 1550 (nI (s + 1)))) := by
        intro x hx
        rw [ix, zq_zp_ix (by omega) (by omega), zq_zp_cl _ (by omega), zq_zp_s1, e1]
        have := zq_zp_rwL_step (row := gM_row ρ) (s := s) (d := 8 - (d + 1)) (f := fun j => if j = c then v else zq_lvI (pk l) j) hx
        rw [e1] at this
        show f_Mo_made_L49 (n + d + 1) (sM_row ρ (upd (zq_rwL (gM_row ρ) s (8 - (d + 1)) (fun j => if j = c then v else zq_lvI (pk l) j)) (1037 + 8 * s + (8 - (d + 1))) x)) (nI l) (nI c) v (nI s) (nI (8 - d)) = _
        rw [this]
        exact ih (by omega) n
      rw [e2, f_Mo_made_L49, if_neg (zq_zp_8le hj)]
      by_cases h5 : 8 - (d + 1) = c
      · rw [if_pos (by rw [h5])]
        exact key2 v (by rw [if_pos h5])
      · rw [if_neg (by rw [zq_zp_eq (by omega) (by omega)]; exact h5), zq_zp_levM (by omega) hL' hl hj, Option.bind_some]
        exact key2 _ (by rw [if_neg h5])
  have e0 : zq_rwL (gM_row ρ) s (8 - 8) (fun j => if j = c then v else zq_lvI (pk l) j) = gM_row ρ := by
    funext j; unfold zq_rwL; rw [if_neg (by omega)]
  have := key 8 (by omega) 91
  rw [e0] at this
  exact this
def zq_lbS (σ : KS) (s : Nat) (w : Int32) : KS := (q_size (q_packed σ.1 (upd (p_packed σ.1) s w)) (nI (s + 1)), σ.2)
def zq_lbR (ρ : RS) (s l c : Nat) (pk : Nat → Int32) (v : Int32) : RS := sM_row ρ (upd (zq_rwL (gM_row ρ) s 8 (fun j => if j = c then v else zq_lvI (pk l) j)) 1550 (nI (s + 1)))
theorem zq_lbR_row {ρ : RS} {s l c : Nat} {pk : Nat → Int32} {v : Int32} {j : Nat} (hs : s < 60) (h : j < 1037 + 8 * s ∨ (1517 ≤ j ∧ j ≠ 1550)) : gM_row (zq_lbR ρ s l c pk v) j = gM_row ρ j := by
  show upd (zq_rwL (gM_row ρ) s 8 (fun j => if j = c then v else zq_lvI (pk l) j)) 1550 (nI (s + 1)) j = gM_row ρ j
  rw [zq_upd_ne (by omega)]
  unfold zq_rwL; rw [if_neg (by omega)]
theorem zq_zp_RelL {s m g : Nat} {σ : KS} {ρ : RS} (h : zq_Rel s m g σ.1 (gM_row ρ)) (hs : s < 60) {l c v : Nat} (hl : l < s) (hc : c < 8) (hv : v ≤ 4) :
    zq_Rel (s + 1) m g (zq_lbS σ s (zq_chI (gN_packed σ l) c (nI v))).1 (gM_row (zq_lbR ρ s l c (gN_packed σ) (nI v))) := by
  obtain ⟨⟨a1, a2, a3, a4, a5⟩, ⟨b1, b2⟩, ⟨c1, c2⟩, ⟨d1, d2⟩, hL, hO, hN, hU⟩ := h
  refine ⟨⟨by omega, by omega, a3, a4, a5⟩, ⟨rfl, ?_⟩, ⟨c1, ?_⟩, ⟨d1, ?_⟩, ?_, ?_, ?_, ?_⟩
  · show upd (zq_rwL (gM_row ρ) s 8 (fun j => if j = c then nI v else zq_lvI (gN_packed σ l) j)) 1550 (nI (s + 1)) 1550 = _
    exact zq_upd_eq
  · rw [zq_lbR_row hs (by omega)]; exact c2
  · rw [zq_lbR_row hs (by omega)]; exact d2
  · intro l' hl' c' hc'
    have e : p_packed (zq_lbS σ s (zq_chI (gN_packed σ l) c (nI v))).1 l' = upd (p_packed σ.1) s (zq_chI (gN_packed σ l) c (nI v)) l' := rfl
    rw [e]
    by_cases h : l' = s
    · rw [h, zq_upd_eq, zq_zp_lvch _ _ _ _ hc hc' (by omega)]
      have e2 : gM_row (zq_lbR ρ s l c (gN_packed σ) (nI v)) (1037 + 8 * s + c') = if c' = c then nI v else zq_lvI (gN_packed σ l) c' := by
        show upd (zq_rwL (gM_row ρ) s 8 (fun j => if j = c then nI v else zq_lvI (gN_packed σ l) j)) 1550 (nI (s + 1)) (1037 + 8 * s + c') = _
        rw [zq_upd_ne (by omega)]
        unfold zq_rwL; rw [if_pos (by omega)]
        have e3 : 1037 + 8 * s + c' - (1037 + 8 * s) = c' := by omega
        rw [e3]
      refine ⟨e2, ?_⟩
      by_cases h6 : c' = c
      · rw [if_pos h6]; exact ⟨v, hv, rfl⟩
      · rw [if_neg h6]; exact (hL l hl c' hc').2
    · rw [zq_upd_ne h, zq_lbR_row hs (by omega)]
      exact hL l' (by omega) c' hc'
  · intro o h1 h2
    refine zq_ROb_of (by omega) (fun j hj => zq_lbR_row hs (by omega)) ?_ (hO o h1 h2)
    exact ⟨rfl, rfl, rfl, rfl, rfl, fun _ _ => rfl, rfl, rfl, rfl, rfl, fun _ _ => rfl⟩
  · exact hN
  · intro u hu
    exact zq_RUs_of (fun j hj => zq_lbR_row hs (by omega)) ⟨rfl, rfl, rfl, rfl, rfl, rfl, rfl⟩ (hU u hu)
theorem zq_zp_m1 : ¬ ((-1 : Int32) = 0) := by decide
theorem zq_zp_nm1 {k : Nat} (hk : k < 2147483648) : ¬ (nI k = (-1 : Int32)) := by
  intro h
  have := congrArg Int32.toInt h
  rw [zq_zp_ti k hk] at this
  have e : (-1 : Int32).toInt = -1 := rfl
  omega
theorem zq_zp_n0 {k : Nat} (hk : k < 2147483648) : ¬ (nI k < (0 : Int32)) := by
  have e : (0 : Int32) = nI 0 := rfl
  rw [e, zq_zp_lt hk (by omega)]; omega
theorem zq_zp_mk {s m g : Nat} {σ : KS} {ρ : RS} (h : zq_Rel s m g σ.1 (gM_row ρ)) {l c v : Nat} (hl : l < s) (hc : c < 8) (hv : v ≤ 4) :
    (∃ k, k < s ∧ f_Lb_indexOf σ (zq_chI (gN_packed σ l) c (nI v)) = some (nI k) ∧ f_Mo_like ρ (nI l) (nI c) (nI v) = some (nI k) ∧ f_Lb_numberOf σ (zq_chI (gN_packed σ l) c (nI v)) = some (nI k, σ) ∧ f_Mo_made ρ (nI l) (nI c) (nI v) = some (nI k, ρ)) ∨
    (f_Lb_indexOf σ (zq_chI (gN_packed σ l) c (nI v)) = some (-1) ∧ f_Mo_like ρ (nI l) (nI c) (nI v) = some (-1) ∧ (s = 60 → f_Mo_made ρ (nI l) (nI c) (nI v) = some (0, sM_code ρ 4)) ∧
      (s < 60 → f_Lb_numberOf σ (zq_chI (gN_packed σ l) c (nI v)) = some (nI s, zq_lbS σ s (zq_chI (gN_packed σ l) c (nI v))) ∧ f_Mo_made ρ (nI l) (nI c) (nI v) = some (nI s, zq_lbR ρ s l c (gN_packed σ) (nI v)) ∧ zq_Rel (s + 1) m g (zq_lbS σ s (zq_chI (gN_packed σ l) c (nI v))).1 (gM_row (zq_lbR ρ s l c (gN_packed σ) (nI v))))) := by
  have h' := h
  obtain ⟨⟨a1, a2, a3, a4, a5⟩, ⟨b1, b2⟩, -, -, hL, -, -, -⟩ := h'
  have b1' : gN_size σ = nI s := b1
  have g1 : ∀ (a : Nat → Option (Int32 × RS)), (if (1550 : Int32) < 0 ∨ 1552 ≤ (1550 : Int32).toNatClampNeg then none else a (1550 : Int32).toNatClampNeg) = a 1550 := fun a => zq_zp_guard (x := (1550 : Int32)) (n := 1550) (N := 1552) rfl (by omega) (by omega) a
  rcases zq_zp_bL a2 b1 b2 hL hl hc (show v < 16 by omega) with ⟨k, h1, h2, h3⟩ | ⟨h2, h3⟩
  · left
    refine ⟨k, h1, h2, h3, ?_, ?_⟩
    · unfold f_Lb_numberOf; rw [h2, Option.bind_some, if_neg (zq_zp_nm1 (by omega))]
    · unfold f_Mo_made; rw [h3, Option.bind_some, if_neg (zq_zp_n0 (by omega))]
  · right
    refine ⟨h2, h3, ?_, ?_⟩
    · intro hs
      unfold f_Mo_made; rw [h3, Option.bind_some, if_pos (by decide)]
      have := g1 (fun q => if gM_row ρ q = 60 then ((f_Mo_fail ρ 4).bind fun v10 => some (v10.1, v10.2)) else (if (1550 : Int32) < 0 ∨ 1552 ≤ (1550 : Int32).toNatClampNeg then none else f_Mo_made_L49 100 ρ (nI l) (nI c) (nI v) (gM_row ρ (1550 : Int32).toNatClampNeg) 0))
      refine this.trans ?_
      rw [b2, hs]; exact if_pos rfl
    · intro hs
      refine ⟨?_, ?_, zq_zp_RelL h hs hl hc hv⟩
      · unfold f_Lb_numberOf
        have e60 : ¬ ((60 : Int32) ≤ nI s) := by
          have e : (60 : Int32) = nI 60 := rfl
          rw [e, zq_zp_le (by omega) (by omega)]; omega
        rw [h2, Option.bind_some, if_pos rfl, b1', if_neg e60, zq_zp_ix (by omega) (by omega), zq_zp_cl s (by omega)]
        show some (nI s, (q_size (q_packed σ.1 (upd (p_packed σ.1) s (zq_chI (gN_packed σ l) c (nI v)))) (p_size σ.1 + 1), σ.2)) = _
        rw [b1, zq_zp_s1]; rfl
      · unfold f_Mo_made; rw [h3, Option.bind_some, if_pos (by decide)]
        have := g1 (fun q => if gM_row ρ q = 60 then ((f_Mo_fail ρ 4).bind fun v10 => some (v10.1, v10.2)) else (if (1550 : Int32) < 0 ∨ 1552 ≤ (1550 : Int32).toNatClampNeg then none else f_Mo_made_L49 100 ρ (nI l) (nI c) (nI v) (gM_row ρ (1550 : Int32).toNatClampNeg) 0))
        refine this.trans ?_
        have e60 : ¬ (nI s = (60 : Int32)) := by
          have e : (60 : Int32) = nI 60 := rfl
          rw [e, zq_zp_eq (by omega) (by omega)]; omega
        rw [b2, if_neg e60]
        refine (g1 (fun q => f_Mo_made_L49 100 ρ (nI l) (nI c) (nI v) (gM_row ρ q) 0)).trans ?_
        rw [b2]
        exact zq_zp_made49 hs hL b2 hl hc (nI v)
theorem zq_zp_gF {n N : Nat} (h : n < N) (hN : N < 2147483648) : (nI n < 0 ∨ N ≤ n) = False := by
  apply eq_false
  rintro (h1 | h1)
  · exact zq_zp_n0 (by omega) h1
  · omega
theorem zq_zp_g49 : ((1549 : Int32) < 0 ∨ 1552 ≤ 1549) = False := zq_zp_gF (n := 1549) (by omega) (by omega)
theorem zq_zp_g50 : ((1550 : Int32) < 0 ∨ 1552 ≤ 1550) = False := zq_zp_gF (n := 1550) (by omega) (by omega)
theorem zq_zp_g51 : ((1551 : Int32) < 0 ∨ 1552 ≤ 1551) = False := zq_zp_gF (n := 1551) (by omega) (by omega)
theorem zq_zp_c49 : (1549 : Int32).toNatClampNeg = 1549 := zq_zp_cl 1549 (by omega)
theorem zq_zp_c50 : (1550 : Int32).toNatClampNeg = 1550 := zq_zp_cl 1550 (by omega)
theorem zq_zp_c51 : (1551 : Int32).toNatClampNeg = 1551 := zq_zp_cl 1551 (by omega)
theorem zq_zp_ixo (o f : Nat) : 17 * nI o + nI f = nI (17 * o + f) := by rw [← zq_zp_add, ← zq_zp_mul]; rfl
theorem zq_zp_ix0 (o : Nat) : 17 * nI o + 0 = nI (17 * o) := zq_zp_ixo o 0
theorem zq_zp_ix1 (o : Nat) : 17 * nI o + 1 = nI (17 * o + 1) := zq_zp_ixo o 1
theorem zq_zp_ix2 (o : Nat) : 17 * nI o + 2 = nI (17 * o + 2) := zq_zp_ixo o 2
theorem zq_zp_ix3 (o : Nat) : 17 * nI o + 3 = nI (17 * o + 3) := zq_zp_ixo o 3
theorem zq_zp_ix4 (o : Nat) : 17 * nI o + 4 = nI (17 * o + 4) := zq_zp_ixo o 4
theorem zq_zp_ix5 (o : Nat) : 17 * nI o + 5 = nI (17 * o + 5) := zq_zp_ixo o 5
theorem zq_zp_ix6 (o : Nat) : 17 * nI o + 6 = nI (17 * o + 6) := zq_zp_ixo o 6
theorem zq_zp_ix7 (o : Nat) : 17 * nI o + 7 = nI (17 * o + 7) := zq_zp_ixo o 7
theorem zq_zp_ix8 (o : Nat) : 17 * nI o + 8 = nI (17 * o + 8) := zq_zp_ixo o 8
theorem zq_gt_label (σ : KS) {o : Nat} (ho : o ≤ 60) : f_Tg_labelOf σ (nI o) = some (gN_label σ o) := zq_zp_guard (N := 61) rfl (by omega) (by omega) (fun k => some (gN_label σ k))
theorem zq_gt_clear (σ : KS) {o : Nat} (ho : o ≤ 60) : f_Tg_clearanceOf σ (nI o) = some (gN_clearance σ o) := zq_zp_guard (N := 61) rfl (by omega) (by omega) (fun k => some (gN_clearance σ k))
theorem zq_gt_quota (σ : KS) {o : Nat} (ho : o ≤ 60) : f_Tg_quotaOf σ (nI o) = some (gN_quota σ o) := zq_zp_guard (N := 61) rfl (by omega) (by omega) (fun k => some (gN_quota σ k))
theorem zq_gt_depth (σ : KS) {o : Nat} (ho : o ≤ 60) : f_Tg_depthOf σ (nI o) = some (gN_depth σ o) := zq_zp_guard (N := 61) rfl (by omega) (by omega) (fun k => some (gN_depth σ k))
theorem zq_gt_count (σ : KS) {o : Nat} (ho : o ≤ 60) : f_Tg_cellCountOf σ (nI o) = some (gN_cellCount σ o) := zq_zp_guard (N := 61) rfl (by omega) (by omega) (fun k => some (gN_cellCount σ k))
theorem zq_gt_guard (σ : KS) {o : Nat} (ho : o ≤ 60) : f_Tg_guardOf σ (nI o) = some (gN_guard σ o) := zq_zp_guard (N := 61) rfl (by omega) (by omega) (fun k => some (gN_guard σ k))
theorem zq_gt_entry (σ : KS) {o : Nat} (ho : o ≤ 60) : f_Tg_entryOf σ (nI o) = some (gN_entry σ o) := zq_zp_guard (N := 61) rfl (by omega) (by omega) (fun k => some (gN_entry σ k))
theorem zq_gt_kindOf (σ : KS) {o : Nat} (ho : o ≤ 60) : f_Tg_kindOf σ (nI o) = some (gN_kind σ o) := zq_zp_guard (N := 61) rfl (by omega) (by omega) (fun k => some (gN_kind σ k))
theorem zq_gt_place (σ : KS) {o : Nat} (ho : o ≤ 60) : f_Tg_placeOf σ (nI o) = some (gN_place σ o) := zq_zp_guard (N := 61) rfl (by omega) (by omega) (fun k => some (gN_place σ k))
theorem zq_gt_kind (σ : KS) {o : Nat} (ho : o ≤ 60) (k : Int32) : f_Tg_isOfKind σ (nI o) k = if gN_kind σ o = k then some 1 else some 0 := zq_zp_guard (N := 61) rfl (by omega) (by omega) (fun j => if gN_kind σ j = k then some 1 else some 0)
theorem zq_gt_isIn (σ : KS) {o : Nat} (ho : o ≤ 60) (d : Int32) : f_Tg_isIn σ (nI o) d = if gN_there σ o = 0 then some 0 else if gN_place σ o = d then some 1 else some 0 := by
  unfold f_Tg_isIn
  simp only [zq_zp_gF (show o < 61 by omega) (by omega), if_false, zq_zp_cl o (by omega)]
theorem zq_Rel.b {s m g : Nat} {σ : SS} {row : Nat → Int32} (h : zq_Rel s m g σ row) : 2 ≤ s ∧ s ≤ 60 ∧ 2 ≤ m ∧ m ≤ 60 ∧ g ≤ 8 := h.1
theorem zq_Rel.sz {s m g : Nat} {σ : KS} {row : Nat → Int32} (h : zq_Rel s m g σ.1 row) : gN_size σ = nI s := h.2.1.1
theorem zq_Rel.szM {s m g : Nat} {σ : SS} {row : Nat → Int32} (h : zq_Rel s m g σ row) : row 1550 = nI s := h.2.1.2
theorem zq_Rel.md {s m g : Nat} {σ : KS} {row : Nat → Int32} (h : zq_Rel s m g σ.1 row) : gN_made σ = nI m := h.2.2.1.1
theorem zq_Rel.mdM {s m g : Nat} {σ : SS} {row : Nat → Int32} (h : zq_Rel s m g σ row) : row 1549 = nI m := h.2.2.1.2
theorem zq_Rel.ct {s m g : Nat} {σ : KS} {row : Nat → Int32} (h : zq_Rel s m g σ.1 row) : gN_categories σ = nI g := h.2.2.2.1.1
theorem zq_Rel.ctM {s m g : Nat} {σ : SS} {row : Nat → Int32} (h : zq_Rel s m g σ row) : row 1551 = nI g := h.2.2.2.1.2
theorem zq_Rel.lb {s m g : Nat} {σ : KS} {row : Nat → Int32} (h : zq_Rel s m g σ.1 row) : zq_RLb s (gN_packed σ) row := h.2.2.2.2.1
theorem zq_Rel.ob {s m g : Nat} {σ : SS} {row : Nat → Int32} (h : zq_Rel s m g σ row) {o : Nat} (h1 : 1 ≤ o) (h2 : o ≤ m) : zq_ROb s σ row o := h.2.2.2.2.2.1 o h1 h2
theorem zq_Rel.nb {s m g : Nat} {σ : SS} {row : Nat → Int32} (h : zq_Rel s m g σ row) {o : Nat} (h1 : m < o) (h2 : o ≤ 60) : zq_RNb σ o := h.2.2.2.2.2.2.1 o (Or.inr h1) h2
theorem zq_Rel.us {s m g : Nat} {σ : SS} {row : Nat → Int32} (h : zq_Rel s m g σ row) {u : Nat} (h1 : u < 4) : zq_RUs σ row u := h.2.2.2.2.2.2.2 u h1
theorem zq_Rel.th {s m g : Nat} {σ : KS} {row : Nat → Int32} (h : zq_Rel s m g σ.1 row) {o : Nat} (h1 : 1 ≤ o) (h2 : o ≤ m) : gN_there σ o = row (17 * o) ∧ (row (17 * o) = 0 ∨ row (17 * o) = 1) := (h.ob h1 h2).1
theorem zq_Rel.kd {s m g : Nat} {σ : KS} {row : Nat → Int32} (h : zq_Rel s m g σ.1 row) {o : Nat} (h1 : 1 ≤ o) (h2 : o ≤ m) : gN_kind σ o = row (17 * o + 1) := (h.ob h1 h2).2.1.1
theorem zq_Rel.la {s m g : Nat} {σ : KS} {row : Nat → Int32} (h : zq_Rel s m g σ.1 row) {o : Nat} (h1 : 1 ≤ o) (h2 : o ≤ m) : ∃ l, l < s ∧ gN_label σ o = nI l ∧ row (17 * o + 2) = nI l := by
  obtain ⟨e, l, h3, h4⟩ := (h.ob h1 h2).2.2.1
  exact ⟨l, h3, e.trans h4, h4⟩
theorem zq_Rel.qu {s m g : Nat} {σ : KS} {row : Nat → Int32} (h : zq_Rel s m g σ.1 row) {o : Nat} (h1 : 1 ≤ o) (h2 : o ≤ m) : gN_quota σ o = row (17 * o + 3) := (h.ob h1 h2).2.2.2.1
theorem zq_Rel.pl {s m g : Nat} {σ : KS} {row : Nat → Int32} (h : zq_Rel s m g σ.1 row) {o : Nat} (h1 : 1 ≤ o) (h2 : o ≤ m) : gN_place σ o = row (17 * o + 4) := (h.ob h1 h2).2.2.2.2.1.1
theorem zq_Rel.cl {s m g : Nat} {σ : KS} {row : Nat → Int32} (h : zq_Rel s m g σ.1 row) {o : Nat} (h1 : 1 ≤ o) (h2 : o ≤ m) (hk : row (17 * o + 1) = 2 ∨ row (17 * o + 1) = 3) : ∃ l, l < s ∧ gN_clearance σ o = nI l ∧ row (17 * o + 6) = nI l := by
  rcases (h.ob h1 h2).2.2.2.2.2.1 with ⟨h3, -⟩ | ⟨-, h4, l, h5, h6⟩
  · exfalso
    rcases hk with hk | hk <;> rw [hk] at h3 <;> revert h3 <;> decide
  · exact ⟨l, h5, h4.trans h6, h6⟩
theorem zq_Rel.ga {s m g : Nat} {σ : KS} {row : Nat → Int32} (h : zq_Rel s m g σ.1 row) {o : Nat} (h1 : 1 ≤ o) (h2 : o ≤ m) (hk : row (17 * o + 1) = 2) : (∃ l, l < s ∧ gN_guard σ o = nI l ∧ row (17 * o + 5) = nI l) ∧ gN_entry σ o = row (17 * o + 7) := by
  obtain ⟨h3, ⟨l, h4, h5⟩, h6⟩ := (h.ob h1 h2).2.2.2.2.2.2.1 hk
  exact ⟨⟨l, h4, h3.trans h5, h5⟩, h6⟩
theorem zq_Rel.cc {s m g : Nat} {σ : KS} {row : Nat → Int32} (h : zq_Rel s m g σ.1 row) {o : Nat} (h1 : 1 ≤ o) (h2 : o ≤ m) : gN_cellCount σ o = row (17 * o + 8) := (h.ob h1 h2).2.2.2.2.2.2.2.1
theorem zq_Rel.ce {s m g : Nat} {σ : KS} {row : Nat → Int32} (h : zq_Rel s m g σ.1 row) {o : Nat} (h1 : 1 ≤ o) (h2 : o ≤ m) {i : Nat} (hi : i < 8) : gN_cells σ (8 * o + i) = row (17 * o + 9 + i) := (h.ob h1 h2).2.2.2.2.2.2.2.2 i hi
theorem zq_zp_there {s m g : Nat} {σ : KS} {ρ : RS} (h : zq_Rel s m g σ.1 (gM_row ρ)) (x : Int32) :
    (∃ o, 1 ≤ o ∧ o ≤ m ∧ x = nI o ∧ gN_there σ o = 1 ∧ gM_row ρ (17 * o) = 1 ∧ f_Tg_isThere σ x = some 1 ∧ f_Mo_there ρ x = some 1) ∨ (f_Tg_isThere σ x = some 0 ∧ f_Mo_there ρ x = some 0) := by
  obtain ⟨a1, a2, a3, a4, a5⟩ := h.b
  have em : f_Mo_there ρ x = (f_Mo_within x 1 (nI m)).bind fun v1 => if v1 = 0 then (some 0) else ((f_Mo_at ρ x 0).bind fun v3 => if v3 = 1 then (some 1) else (some 0)) := by
    unfold f_Mo_there
    simp only [zq_zp_g49, if_false, zq_zp_c49, h.mdM]
  by_cases hx : x < 1
  · right
    refine ⟨by unfold f_Tg_isThere; rw [if_pos hx], ?_⟩
    rw [em]; unfold f_Mo_within; rw [if_pos hx]; rfl
  · have h0 : nI 1 ≤ x := by rw [zq_zp_nlt] at hx; exact hx
    by_cases hx2 : x ≤ nI 60
    · obtain ⟨o, h1, h2, rfl⟩ := zq_zp_rng (by omega) h0 hx2 (by omega)
      have h60 : ¬ ((60 : Int32) < nI o) := by
        have e : (60 : Int32) = nI 60 := rfl
        rw [e, zq_zp_lt (by omega) (by omega)]; omega
      have ec : f_Tg_isThere σ (nI o) = if gN_there σ o = 0 then some 0 else some 1 := by
        unfold f_Tg_isThere
        simp only [if_neg hx, if_neg h60, zq_zp_gF (show o < 61 by omega) (by omega), if_false, zq_zp_cl o (by omega)]
      by_cases hm : o ≤ m
      · obtain ⟨t1, t2⟩ := h.th h1 hm
        have em2 : f_Mo_there ρ (nI o) = if gM_row ρ (17 * o) = 1 then some 1 else some 0 := by
          rw [em]; unfold f_Mo_within
          rw [if_neg hx, if_neg (by rw [zq_zp_lt (by omega) (by omega)]; omega), Option.bind_some, if_neg (by decide), zq_zp_at0 ρ o h2, Option.bind_some]
        rcases t2 with t2 | t2
        · right
          rw [ec, em2, t1, t2]; exact ⟨rfl, rfl⟩
        · left
          refine ⟨o, h1, hm, rfl, t1.trans t2, t2, ?_, ?_⟩
          · rw [ec, t1, t2]; rfl
          · rw [em2, t2]; rfl
      · right
        have t1 : gN_there σ o = 0 := (h.nb (o := o) (by omega) h2).1
        refine ⟨by rw [ec, t1]; rfl, ?_⟩
        rw [em]; unfold f_Mo_within
        rw [if_neg hx, if_pos (by rw [zq_zp_lt (by omega) (by omega)]; omega)]; rfl
    · right
      have h60 : (60 : Int32) < x := by rw [zq_zp_nle] at hx2; exact hx2
      refine ⟨by unfold f_Tg_isThere; rw [if_neg hx, if_pos h60], ?_⟩
      rw [em]; unfold f_Mo_within
      have hmx : nI m < x := by
        have : nI m ≤ nI 60 := by rw [zq_zp_le (by omega) (by omega)]; omega
        exact Int32.lt_of_le_of_lt this h60
      rw [if_neg hx, if_pos hmx]; rfl
theorem zq_zp_nar1 : vp_nar .boolean 1 = 1 := by decide
theorem zq_zp_nar0 : vp_nar .boolean 0 = 0 := by decide
theorem zq_zp_sees {s m g : Nat} {σ : KS} {ρ : RS} (h : zq_Rel s m g σ.1 (gM_row ρ)) {t o : Nat} (t1 : 1 ≤ t) (t2 : t ≤ m) (o1 : 1 ≤ o) (o2 : o ≤ m) : zq_Both (f_Ke_maySee σ (nI t) (nI o)) (f_Mo_sees ρ (nI t) (nI o)) := by
  obtain ⟨a1, a2, a3, a4, a5⟩ := h.b
  obtain ⟨l, l1, l2, l3⟩ := h.la t1 t2
  obtain ⟨k, k1, k2, k3⟩ := h.la o1 o2
  unfold f_Ke_maySee f_Mo_sees
  rw [zq_gt_label σ (show t ≤ 60 by omega), zq_gt_label σ (show o ≤ 60 by omega), zq_zp_at2 ρ t (by omega), zq_zp_at2 ρ o (by omega), l2, l3, k2, k3]
  simp only [Option.bind_some]
  rcases zq_zp_bH a2 h.lb k1 l1 (show ¬ (1 : Int32) = 0 by decide) with ⟨e1, e2⟩ | ⟨e1, e2⟩
  · left; rw [e1, e2]; simp only [Option.bind_some, zq_zp_nar1, if_true, and_self]
  · right; rw [e1, e2]; simp only [Option.bind_some, zq_zp_nar0, if_true, and_self]
theorem zq_zp_changes {s m g : Nat} {σ : KS} {ρ : RS} (h : zq_Rel s m g σ.1 (gM_row ρ)) {t o : Nat} (t1 : 1 ≤ t) (t2 : t ≤ m) (o1 : 1 ≤ o) (o2 : o ≤ m) : zq_Both (f_Ke_mayChange σ (nI t) (nI o)) (f_Mo_changes ρ (nI t) (nI o)) := by
  obtain ⟨a1, a2, a3, a4, a5⟩ := h.b
  obtain ⟨l, l1, l2, l3⟩ := h.la t1 t2
  obtain ⟨k, k1, k2, k3⟩ := h.la o1 o2
  unfold f_Ke_mayChange f_Mo_changes
  rcases zq_zp_sees h t1 t2 o1 o2 with ⟨e1, e2⟩ | ⟨e1, e2⟩
  · rw [e1, e2, zq_gt_label σ (show t ≤ 60 by omega), zq_gt_label σ (show o ≤ 60 by omega), zq_zp_at2 ρ t (by omega), zq_zp_at2 ρ o (by omega), l2, l3, k2, k3]
    simp only [Option.bind_some, show ¬ (1 : Int32) = 0 by decide, if_false]
    rcases zq_zp_bU a2 h.lb l1 k1 with ⟨f1, f2⟩ | ⟨f1, f2⟩
    · left; rw [f1, f2]; exact ⟨rfl, rfl⟩
    · right; rw [f1, f2]; exact ⟨rfl, rfl⟩
  · right; rw [e1, e2]; exact ⟨rfl, rfl⟩
