theorem zq_zp_10 : ((1 : Int32) = 0) = False := by decide
theorem zq_zp_thereO {s m g : Nat} {σ : KS} {ρ : RS} (h : zq_Rel s m g σ.1 (gM_row ρ)) {o : Nat} (o1 : 1 ≤ o) (o2 : o ≤ m) :
    (gN_there σ o = 1 ∧ gM_row ρ (17 * o) = 1 ∧ f_Mo_there ρ (nI o) = some 1) ∨ (gN_there σ o = 0 ∧ gM_row ρ (17 * o) = 0 ∧ f_Mo_there ρ (nI o) = some 0) := by
  obtain ⟨a1, a2, a3, a4, a5⟩ := h.b
  obtain ⟨t1, t2⟩ := h.th o1 o2
  rcases zq_zp_there h (nI o) with ⟨o', p1, p2, p3, p4, p5, p6, p7⟩ | ⟨p1, p2⟩
  · rw [zq_zp_eq (by omega) (by omega)] at p3
    subst p3
    exact Or.inl ⟨p4, p5, p7⟩
  · rcases t2 with t2 | t2
    · exact Or.inr ⟨t1.trans t2, t2, p2⟩
    · exfalso
      have hx : ¬ nI o < 1 := by
        have e : (1 : Int32) = nI 1 := rfl
        rw [e, zq_zp_lt (by omega) (by omega)]; omega
      have h60 : ¬ ((60 : Int32) < nI o) := by
        have e : (60 : Int32) = nI 60 := rfl
        rw [e, zq_zp_lt (by omega) (by omega)]; omega
      unfold f_Tg_isThere at p1
      simp only [if_neg hx, if_neg h60, zq_zp_cl o (show o < 2147483648 by omega), zq_zp_gF (show o < 61 by omega) (by omega), if_false, t1, t2] at p1
      revert p1; decide
theorem zq_zp_use {s m g : Nat} {σ : KS} {ρ : RS} (h : zq_Rel s m g σ.1 (gM_row ρ)) {d : Nat} (d1 : 1 ≤ d) (d2 : d ≤ m) : ∃ r, f_Tg_useOf σ (nI d) = some r ∧ f_Mo_use ρ (nI d) = some r := by
  obtain ⟨a1, a2, a3, a4, a5⟩ := h.b
  have key : ∀ e, e ≤ m → ∀ n acc, ∃ r, f_Tg_quotasIn_L4 σ (n + e + 1) (nI d) acc (nI (m + 1 - e)) = some r ∧ f_Mo_use_L35 ρ (n + e + 1) (nI d) (1 + acc) (nI (m + 1 - e)) = some (1 + r) := by
    intro e
    induction e with
    | zero =>
      intro _ n acc
      refine ⟨acc, ?_, ?_⟩
      · rw [f_Tg_quotasIn_L4, h.md, if_pos]
        rw [zq_zp_lt (by omega) (by omega)]; omega
      · rw [f_Mo_use_L35]; simp only [zq_zp_c49, zq_zp_g49, if_false, h.mdM]
        rw [if_pos]
        rw [zq_zp_lt (by omega) (by omega)]; omega
    | succ e ih =>
      intro he n acc
      have e1 : m + 1 - (e + 1) = m - e := by omega
      have e2 : n + (e + 1) + 1 = (n + e + 1) + 1 := by omega
      have e3 : m - e + 1 = m + 1 - e := by omega
      have hlt : ¬ (nI m < nI (m - e)) := by rw [zq_zp_lt (by omega) (by omega)]; omega
      rw [e1, e2, f_Tg_quotasIn_L4, f_Mo_use_L35]
      simp only [h.md, if_neg hlt, zq_zp_c49, zq_zp_g49, if_false, h.mdM]
      simp only [zq_gt_isIn σ (show m - e ≤ 60 by omega), zq_zp_s1, e3]
      rcases zq_zp_thereO h (show 1 ≤ m - e by omega) (show m - e ≤ m by omega) with ⟨t1, t2, t3⟩ | ⟨t1, t2, t3⟩
      · by_cases hp : gM_row ρ (17 * (m - e) + 4) = nI d
        · simp only [t1, t3, zq_zp_10, if_false, Option.bind_some, zq_zp_at4 ρ (m - e) (show m - e ≤ 60 by omega), zq_zp_at3 ρ (m - e) (show m - e ≤ 60 by omega), h.pl (show 1 ≤ m - e by omega) (show m - e ≤ m by omega), hp, if_true, zq_zp_cl (m - e) (show m - e < 2147483648 by omega), zq_zp_gF (show m - e < 61 by omega) (show 61 < 2147483648 by omega), h.qu (show 1 ≤ m - e by omega) (show m - e ≤ m by omega), Int32.add_assoc]
          exact ih (by omega) n _
        · simp only [t1, t3, zq_zp_10, if_false, Option.bind_some, zq_zp_at4 ρ (m - e) (show m - e ≤ 60 by omega), h.pl (show 1 ≤ m - e by omega) (show m - e ≤ m by omega), hp, if_true]
          exact ih (by omega) n acc
      · simp only [t1, t3, if_true, Option.bind_some]
        exact ih (by omega) n acc
  unfold f_Tg_useOf f_Mo_use
  simp only [zq_zp_cl d (show d < 2147483648 by omega), zq_zp_gF (show d < 61 by omega) (by omega), if_false, zq_zp_at1 ρ d (by omega), zq_zp_at8 ρ d (by omega), Option.bind_some, h.kd d1 d2, h.cc d1 d2]
  by_cases k0 : gM_row ρ (17 * d + 1) = 0
  · have k1 : ¬ gM_row ρ (17 * d + 1) = 1 := by rw [k0]; decide
    simp only [if_pos k0, if_neg k1]
    obtain ⟨r, r1, r2⟩ := key m (by omega) (99 - m) 0
    have e1 : m + 1 - m = 1 := by omega
    have e2 : 99 - m + m + 1 = 100 := by omega
    rw [e1, e2] at r1 r2
    refine ⟨1 + r, ?_, r2⟩
    unfold f_Tg_quotasIn
    have r1' : f_Tg_quotasIn_L4 σ 100 (nI d) 0 1 = some r := r1
    rw [r1', Option.bind_some]
  · by_cases k1 : gM_row ρ (17 * d + 1) = 1
    · simp only [if_neg k0, if_pos k1]; exact ⟨_, rfl, rfl⟩
    · simp only [if_neg k0, if_neg k1]; exact ⟨_, rfl, rfl⟩
theorem zq_zp_deep {s m g : Nat} {σ : KS} {ρ : RS} (h : zq_Rel s m g σ.1 (gM_row ρ)) {d : Nat} (d1 : 1 ≤ d) (d2 : d ≤ m) : f_Mo_deep ρ (nI d) = some (gN_depth σ d) := by
  obtain ⟨a1, a2, a3, a4, a5⟩ := h.b
  have key : ∀ k, ∀ j, j ≤ k → 1 ≤ j → j ≤ m → ∀ n acc, f_Mo_deep_L4 ρ (n + k + 1) (nI d) acc (nI j) = some (acc + gN_depth σ j) := by
    intro k
    induction k with
    | zero => intro j h1 h2; omega
    | succ k ih =>
      intro j h1 h2 h3 n acc
      have e2 : n + (k + 1) + 1 = (n + k + 1) + 1 := by omega
      rw [e2, f_Mo_deep_L4]
      have e1 : (1 : Int32) = nI 1 := rfl
      obtain ⟨p1, p2⟩ := (h.ob h2 h3).2.2.2.2.1
      rcases p2 with ⟨q1, q2, q3⟩ | ⟨i, q1, q2, q3, q4⟩
      · have q3' : gN_depth σ j = 0 := q3
        rw [if_pos (by rw [e1, zq_zp_le (by omega) (by omega)]; omega), q3', Int32.add_zero]
      · have q4' : gN_depth σ j = gN_depth σ i + 1 := q4
        rw [if_neg (by rw [e1, zq_zp_le (by omega) (by omega)]; omega), zq_zp_at4 ρ j (by omega), Option.bind_some, q3, ih i (by omega) q1 (by omega) n (acc + 1), q4', Int32.add_assoc, Int32.add_comm 1]
  have := key d d (by omega) d1 d2 (99 - d) 0
  have e2 : 99 - d + d + 1 = 100 := by omega
  rw [e2, Int32.zero_add] at this
  exact this
theorem zq_zp_objects {s m g : Nat} {σ : KS} {ρ : RS} (h : zq_Rel s m g σ.1 (gM_row ρ)) : ∃ r, f_Tg_howMany σ = some r ∧ f_Mo_objects ρ = some r := by
  obtain ⟨a1, a2, a3, a4, a5⟩ := h.b
  have key : ∀ e, e ≤ m → ∀ n acc, ∃ r, f_Tg_howMany_L4 σ (n + e + 1) acc (nI (m + 1 - e)) = some r ∧ f_Mo_objects_L4 ρ (n + e + 1) acc (nI (m + 1 - e)) = some r := by
    intro e
    induction e with
    | zero =>
      intro _ n acc
      refine ⟨acc, ?_, ?_⟩
      · rw [f_Tg_howMany_L4, h.md, if_pos]
        rw [zq_zp_lt (by omega) (by omega)]; omega
      · rw [f_Mo_objects_L4]; simp only [zq_zp_c49, zq_zp_g49, if_false, h.mdM]
        rw [if_pos]
        rw [zq_zp_lt (by omega) (by omega)]; omega
    | succ e ih =>
      intro he n acc
      have e1 : m + 1 - (e + 1) = m - e := by omega
      have e2 : n + (e + 1) + 1 = (n + e + 1) + 1 := by omega
      have e3 : m - e + 1 = m + 1 - e := by omega
      have hlt : ¬ (nI m < nI (m - e)) := by rw [zq_zp_lt (by omega) (by omega)]; omega
      rw [e1, e2, f_Tg_howMany_L4, f_Mo_objects_L4]
      simp only [h.md, if_neg hlt, zq_zp_c49, zq_zp_g49, if_false, h.mdM, zq_zp_cl (m - e) (show m - e < 2147483648 by omega), zq_zp_gF (show m - e < 61 by omega) (by omega), zq_zp_at0 ρ (m - e) (show m - e ≤ 60 by omega), Option.bind_some, zq_zp_s1, e3]
      rcases zq_zp_thereO h (show 1 ≤ m - e by omega) (show m - e ≤ m by omega) with ⟨t1, t2, t3⟩ | ⟨t1, t2, t3⟩
      · rw [t1, t2, if_neg (by decide)]
        exact ih (by omega) n _
      · rw [t1, t2, if_pos rfl, Int32.add_zero]
        exact ih (by omega) n acc
  obtain ⟨r, r1, r2⟩ := key m (by omega) (99 - m) 0
  have e1 : m + 1 - m = 1 := by omega
  have e2 : 99 - m + m + 1 = 100 := by omega
  rw [e1, e2] at r1 r2
  exact ⟨r, r1, r2⟩
theorem zq_zp_nth {s m g : Nat} {σ : KS} {ρ : RS} (h : zq_Rel s m g σ.1 (gM_row ρ)) {d : Nat} (d1 : 1 ≤ d) (d2 : d ≤ m) (k : Int32) :
    (∃ o, 1 ≤ o ∧ o ≤ m ∧ f_Tg_nthIn σ (nI d) k = some (nI o) ∧ f_Mo_in_L39 100 ρ (nI d) k 0 1 = some (nI o, ρ)) ∨ (f_Tg_nthIn σ (nI d) k = some 0 ∧ f_Mo_in_L39 100 ρ (nI d) k 0 1 = some (0, sM_code ρ 2)) := by
  obtain ⟨a1, a2, a3, a4, a5⟩ := h.b
  have key : ∀ e, e ≤ m → ∀ n acc, (∃ o, 1 ≤ o ∧ o ≤ m ∧ f_Tg_nthIn_L5 σ (n + e + 1) (nI d) k acc (nI (m + 1 - e)) = some (nI o) ∧ f_Mo_in_L39 (n + e + 1) ρ (nI d) k acc (nI (m + 1 - e)) = some (nI o, ρ)) ∨ (f_Tg_nthIn_L5 σ (n + e + 1) (nI d) k acc (nI (m + 1 - e)) = some 0 ∧ f_Mo_in_L39 (n + e + 1) ρ (nI d) k acc (nI (m + 1 - e)) = some (0, sM_code ρ 2)) := by
    intro e
    induction e with
    | zero =>
      intro _ n acc
      right
      refine ⟨?_, ?_⟩
      · rw [f_Tg_nthIn_L5, h.md, if_pos]
        rw [zq_zp_lt (by omega) (by omega)]; omega
      · rw [f_Mo_in_L39]; simp only [zq_zp_c49, zq_zp_g49, if_false, h.mdM]
        rw [if_pos]
        · rfl
        · rw [zq_zp_lt (by omega) (by omega)]; omega
    | succ e ih =>
      intro he n acc
      have e1 : m + 1 - (e + 1) = m - e := by omega
      have e2 : n + (e + 1) + 1 = (n + e + 1) + 1 := by omega
      have e3 : m - e + 1 = m + 1 - e := by omega
      have hlt : ¬ (nI m < nI (m - e)) := by rw [zq_zp_lt (by omega) (by omega)]; omega
      rw [e1, e2, f_Tg_nthIn_L5, f_Mo_in_L39]
      simp only [h.md, if_neg hlt, zq_zp_c49, zq_zp_g49, if_false, h.mdM]
      simp only [zq_gt_isIn σ (show m - e ≤ 60 by omega), zq_zp_s1, e3]
      rcases zq_zp_thereO h (show 1 ≤ m - e by omega) (show m - e ≤ m by omega) with ⟨t1, t2, t3⟩ | ⟨t1, t2, t3⟩
      · by_cases hp : gM_row ρ (17 * (m - e) + 4) = nI d
        · simp only [t1, t3, zq_zp_10, if_false, Option.bind_some, zq_zp_at4 ρ (m - e) (show m - e ≤ 60 by omega), h.pl (show 1 ≤ m - e by omega) (show m - e ≤ m by omega), hp, if_true]
          by_cases hk : acc = k
          · left; simp only [hk, if_true]; exact ⟨m - e, by omega, by omega, rfl, rfl⟩
          · simp only [hk, if_false]
            exact ih (by omega) n _
        · simp only [t1, t3, zq_zp_10, if_false, Option.bind_some, zq_zp_at4 ρ (m - e) (show m - e ≤ 60 by omega), h.pl (show 1 ≤ m - e by omega) (show m - e ≤ m by omega), hp, if_true]
          exact ih (by omega) n acc
      · simp only [t1, t3, if_true, Option.bind_some]
        exact ih (by omega) n acc
  have := key m (by omega) (99 - m) 0
  have e1 : m + 1 - m = 1 := by omega
  have e2 : 99 - m + m + 1 = 100 := by omega
  rw [e1, e2] at this
  exact this
def zq_SEq (σ σ' : SS) : Prop := p_size σ' = p_size σ ∧ p_made σ' = p_made σ ∧ p_categories σ' = p_categories σ ∧ p_packed σ' = p_packed σ ∧ zq_UEq σ σ'
theorem zq_Rel_upd {s m g o : Nat} {σ σ' : SS} {row row' : Nat → Int32} (h : zq_Rel s m g σ row) (o1 : 1 ≤ o) (o2 : o ≤ m) (hS : zq_SEq σ σ') (hT : ∀ o', o' ≠ o → o' ≤ 60 → zq_TEq σ σ' o')
    (hr : ∀ j, (j < 17 * o ∨ 17 * o + 17 ≤ j) → row' j = row j) (hO : zq_ROb s σ' row' o) : zq_Rel s m g σ' row' := by
  obtain ⟨⟨a1, a2, a3, a4, a5⟩, ⟨b1, b2⟩, ⟨c1, c2⟩, ⟨d1, d2⟩, hL, hO', hN, hU⟩ := h
  obtain ⟨s1, s2, s3, s4, s5⟩ := hS
  refine ⟨⟨a1, a2, a3, a4, a5⟩, ⟨s1.trans b1, ?_⟩, ⟨s2.trans c1, ?_⟩, ⟨s3.trans d1, ?_⟩, ?_, ?_, ?_, ?_⟩
  · rw [hr _ (by omega)]; exact b2
  · rw [hr _ (by omega)]; exact c2
  · rw [hr _ (by omega)]; exact d2
  · rw [s4]; exact zq_RLb_of (fun j h1 h2 => hr j (by omega)) hL
  · intro o' h1 h2
    by_cases e : o' = o
    · rw [e]; exact hO
    · exact zq_ROb_of (Nat.le_refl s) (fun j hj => hr _ (by omega)) (hT o' e (by omega)) (hO' o' h1 h2)
  · intro o' h1 h2
    obtain ⟨t1, -, -, -, -, -, -, -, -, t10, t11⟩ := hT o' (by omega) h2
    obtain ⟨n1, n2, n3⟩ := hN o' h1 h2
    exact ⟨t1.trans n1, t10.trans n2, fun i hi => (t11 i hi).trans (n3 i hi)⟩
  · intro u hu
    exact zq_RUs_of (fun j hj => hr _ (by omega)) s5 (hU u hu)
theorem zq_zp_urow {row : Nat → Int32} {o k : Nat} {x : Int32} (hk : k < 17) : ∀ j, (j < 17 * o ∨ 17 * o + 17 ≤ j) → upd row (17 * o + k) x j = row j := fun j hj => zq_upd_ne (by omega)
theorem zq_Rel_there {s m g o : Nat} {σ : SS} {row : Nat → Int32} (h : zq_Rel s m g σ row) (o1 : 1 ≤ o) (o2 : o ≤ m) : zq_Rel s m g (q_there σ (upd (p_there σ) o 0)) (upd row (17 * o) 0) := by
  refine zq_Rel_upd h o1 o2 ⟨rfl, rfl, rfl, rfl, rfl, rfl, rfl, rfl, rfl, rfl, rfl⟩ (fun o' e _ => ⟨zq_upd_ne e, rfl, rfl, rfl, rfl, fun _ _ => rfl, rfl, rfl, rfl, rfl, fun _ _ => rfl⟩) (zq_zp_urow (k := 0) (by omega)) ?_
  obtain ⟨⟨a1, a2⟩, b, c, d, e, f, g', i, k⟩ := h.ob o1 o2
  refine ⟨⟨?_, Or.inl zq_upd_eq⟩, ?_⟩
  · rw [zq_upd_eq]; exact zq_upd_eq
  · simp only [zq_upd_ne (show 17 * o + 1 ≠ 17 * o by omega), zq_upd_ne (show 17 * o + 2 ≠ 17 * o by omega), zq_upd_ne (show 17 * o + 3 ≠ 17 * o by omega), zq_upd_ne (show 17 * o + 4 ≠ 17 * o by omega), zq_upd_ne (show 17 * o + 5 ≠ 17 * o by omega), zq_upd_ne (show 17 * o + 6 ≠ 17 * o by omega), zq_upd_ne (show 17 * o + 7 ≠ 17 * o by omega), zq_upd_ne (show 17 * o + 8 ≠ 17 * o by omega)]
    refine ⟨b, c, d, e, f, g', i, fun j hj => ?_⟩
    rw [zq_upd_ne (by omega)]; exact k j hj
theorem zq_Rel_label {s m g o l : Nat} {σ : SS} {row : Nat → Int32} (h : zq_Rel s m g σ row) (o1 : 1 ≤ o) (o2 : o ≤ m) (hl : l < s) : zq_Rel s m g (q_label σ (upd (p_label σ) o (nI l))) (upd row (17 * o + 2) (nI l)) := by
  refine zq_Rel_upd h o1 o2 ⟨rfl, rfl, rfl, rfl, rfl, rfl, rfl, rfl, rfl, rfl, rfl⟩ (fun o' e _ => ⟨rfl, rfl, zq_upd_ne e, rfl, rfl, fun _ _ => rfl, rfl, rfl, rfl, rfl, fun _ _ => rfl⟩) (zq_zp_urow (by omega)) ?_
  obtain ⟨a, b, c, d, e, f, g', i, k⟩ := h.ob o1 o2
  unfold zq_ROb
  simp only [zq_upd_ne (show 17 * o ≠ 17 * o + 2 by omega), zq_upd_ne (show 17 * o + 1 ≠ 17 * o + 2 by omega), zq_upd_ne (show 17 * o + 3 ≠ 17 * o + 2 by omega), zq_upd_ne (show 17 * o + 4 ≠ 17 * o + 2 by omega), zq_upd_ne (show 17 * o + 5 ≠ 17 * o + 2 by omega), zq_upd_ne (show 17 * o + 6 ≠ 17 * o + 2 by omega), zq_upd_ne (show 17 * o + 7 ≠ 17 * o + 2 by omega), zq_upd_ne (show 17 * o + 8 ≠ 17 * o + 2 by omega)]
  refine ⟨a, b, ⟨?_, l, hl, zq_upd_eq⟩, d, e, f, g', i, fun j hj => ?_⟩
  · rw [zq_upd_eq]; exact zq_upd_eq
  · rw [zq_upd_ne (by omega)]; exact k j hj
theorem zq_Rel_clear {s m g o l : Nat} {σ : SS} {row : Nat → Int32} (h : zq_Rel s m g σ row) (o1 : 1 ≤ o) (o2 : o ≤ m) (hl : l < s) (hk : row (17 * o + 1) = 2 ∨ row (17 * o + 1) = 3) : zq_Rel s m g (q_clearance σ (upd (p_clearance σ) o (nI l))) (upd row (17 * o + 6) (nI l)) := by
  refine zq_Rel_upd h o1 o2 ⟨rfl, rfl, rfl, rfl, rfl, rfl, rfl, rfl, rfl, rfl, rfl⟩ (fun o' e _ => ⟨rfl, rfl, rfl, rfl, rfl, fun _ _ => rfl, zq_upd_ne e, rfl, rfl, rfl, fun _ _ => rfl⟩) (zq_zp_urow (by omega)) ?_
  obtain ⟨a, b, c, d, e, f, g', i, k⟩ := h.ob o1 o2
  unfold zq_ROb
  simp only [zq_upd_ne (show 17 * o ≠ 17 * o + 6 by omega), zq_upd_ne (show 17 * o + 1 ≠ 17 * o + 6 by omega), zq_upd_ne (show 17 * o + 2 ≠ 17 * o + 6 by omega), zq_upd_ne (show 17 * o + 3 ≠ 17 * o + 6 by omega), zq_upd_ne (show 17 * o + 4 ≠ 17 * o + 6 by omega), zq_upd_ne (show 17 * o + 5 ≠ 17 * o + 6 by omega), zq_upd_ne (show 17 * o + 7 ≠ 17 * o + 6 by omega), zq_upd_ne (show 17 * o + 8 ≠ 17 * o + 6 by omega)]
  refine ⟨a, b, c, d, e, Or.inr ⟨hk, ?_, l, hl, zq_upd_eq⟩, g', i, fun j hj => ?_⟩
  · rw [zq_upd_eq]; exact zq_upd_eq
  · rw [zq_upd_ne (by omega)]; exact k j hj
theorem zq_Rel_quota {s m g o : Nat} {σ : SS} {row : Nat → Int32} (h : zq_Rel s m g σ row) (o1 : 1 ≤ o) (o2 : o ≤ m) (x : Int32) : zq_Rel s m g (q_quota σ (upd (p_quota σ) o x)) (upd row (17 * o + 3) x) := by
  refine zq_Rel_upd h o1 o2 ⟨rfl, rfl, rfl, rfl, rfl, rfl, rfl, rfl, rfl, rfl, rfl⟩ (fun o' e _ => ⟨rfl, rfl, rfl, zq_upd_ne e, rfl, fun _ _ => rfl, rfl, rfl, rfl, rfl, fun _ _ => rfl⟩) (zq_zp_urow (by omega)) ?_
  obtain ⟨a, b, c, d, e, f, g', i, k⟩ := h.ob o1 o2
  unfold zq_ROb
  simp only [zq_upd_ne (show 17 * o ≠ 17 * o + 3 by omega), zq_upd_ne (show 17 * o + 1 ≠ 17 * o + 3 by omega), zq_upd_ne (show 17 * o + 2 ≠ 17 * o + 3 by omega), zq_upd_ne (show 17 * o + 6 ≠ 17 * o + 3 by omega), zq_upd_ne (show 17 * o + 4 ≠ 17 * o + 3 by omega), zq_upd_ne (show 17 * o + 5 ≠ 17 * o + 3 by omega), zq_upd_ne (show 17 * o + 7 ≠ 17 * o + 3 by omega), zq_upd_ne (show 17 * o + 8 ≠ 17 * o + 3 by omega)]
  refine ⟨a, b, c, ?_, e, f, g', i, fun j hj => ?_⟩
  · rw [zq_upd_eq]; exact zq_upd_eq
  · rw [zq_upd_ne (by omega)]; exact k j hj
theorem zq_Rel_cell {s m g o i : Nat} {σ : SS} {row : Nat → Int32} (h : zq_Rel s m g σ row) (o1 : 1 ≤ o) (o2 : o ≤ m) (hi : i < 8) (x : Int32) : zq_Rel s m g (q_cells σ (upd (p_cells σ) (8 * o + i) x)) (upd row (17 * o + 9 + i) x) := by
  refine zq_Rel_upd h o1 o2 ⟨rfl, rfl, rfl, rfl, rfl, rfl, rfl, rfl, rfl, rfl, rfl⟩ (fun o' e _ => ⟨rfl, rfl, rfl, rfl, rfl, fun _ _ => rfl, rfl, rfl, rfl, rfl, fun j hj => zq_upd_ne (by omega)⟩) (fun j hj => zq_upd_ne (by omega)) ?_
  obtain ⟨a, b, c, d, e, f, g', k, r⟩ := h.ob o1 o2
  unfold zq_ROb
  simp only [zq_upd_ne (show 17 * o ≠ 17 * o + 9 + i by omega), zq_upd_ne (show 17 * o + 1 ≠ 17 * o + 9 + i by omega), zq_upd_ne (show 17 * o + 2 ≠ 17 * o + 9 + i by omega), zq_upd_ne (show 17 * o + 3 ≠ 17 * o + 9 + i by omega), zq_upd_ne (show 17 * o + 6 ≠ 17 * o + 9 + i by omega), zq_upd_ne (show 17 * o + 4 ≠ 17 * o + 9 + i by omega), zq_upd_ne (show 17 * o + 5 ≠ 17 * o + 9 + i by omega), zq_upd_ne (show 17 * o + 7 ≠ 17 * o + 9 + i by omega), zq_upd_ne (show 17 * o + 8 ≠ 17 * o + 9 + i by omega)]
  refine ⟨a, b, c, d, e, f, g', k, fun j hj => ?_⟩
  by_cases e : j = i
  · subst e; rw [zq_upd_eq]; exact zq_upd_eq
  · rw [zq_upd_ne (by omega)]
    have e2 : p_cells (q_cells σ (upd (p_cells σ) (8 * o + i) x)) (8 * o + j) = p_cells σ (8 * o + j) := zq_upd_ne (by omega)
    rw [e2]; exact r j hj
theorem zq_Rel_cat {s m g : Nat} {σ : SS} {row : Nat → Int32} (h : zq_Rel s m g σ row) (hg : g < 8) : zq_Rel s m (g + 1) (q_categories σ (nI (g + 1))) (upd row 1551 (nI (g + 1))) := by
  obtain ⟨⟨a1, a2, a3, a4, a5⟩, ⟨b1, b2⟩, ⟨c1, c2⟩, ⟨d1, d2⟩, hL, hO, hN, hU⟩ := h
  refine ⟨⟨a1, a2, a3, a4, by omega⟩, ⟨b1, ?_⟩, ⟨c1, ?_⟩, ⟨rfl, zq_upd_eq⟩, ?_, ?_, hN, ?_⟩
  · rw [zq_upd_ne (by omega)]; exact b2
  · rw [zq_upd_ne (by omega)]; exact c2
  · exact zq_RLb_of (fun j h1 h2 => zq_upd_ne (by omega)) hL
  · intro o h1 h2
    exact zq_ROb_of (Nat.le_refl s) (fun j hj => zq_upd_ne (by omega)) ⟨rfl, rfl, rfl, rfl, rfl, fun _ _ => rfl, rfl, rfl, rfl, rfl, fun _ _ => rfl⟩ (hO o h1 h2)
  · intro u hu
    exact zq_RUs_of (fun j hj => zq_upd_ne (by omega)) ⟨rfl, rfl, rfl, rfl, rfl, rfl, rfl⟩ (hU u hu)
theorem zq_zp_remove {s m g : Nat} {σ : KS} {ρ : RS} (h : zq_Rel s m g σ.1 (gM_row ρ)) {o : Nat} (o1 : 1 ≤ o) (o2 : o ≤ m) (y1 y2 y3 : Int32) :
    ∃ v f row', f_Tg_removeTree σ (nI o) = some (v, (q_there σ.1 f, σ.2)) ∧ f_Mo_remove_L48 100 (sM_row ρ (upd (gM_row ρ) (17 * o) 0)) y1 y2 y3 1 (nI (o + 1)) = some (v, sM_row ρ row') ∧ zq_Rel s m g (q_there σ.1 f) row' := by
  obtain ⟨a1, a2, a3, a4, a5⟩ := h.b
  have key : ∀ e, e ≤ m - 1 → ∀ n acc f row', zq_Rel s m g (q_there σ.1 f) row' → ∃ v f' row'', f_Tg_removeTree_L13 (n + e + 1) (q_there σ.1 f, σ.2) (nI o) acc (nI (m + 1 - e)) = some (v, (q_there σ.1 f', σ.2)) ∧ f_Mo_remove_L48 (n + e + 1) (sM_row ρ row') y1 y2 y3 acc (nI (m + 1 - e)) = some (v, sM_row ρ row'') ∧ zq_Rel s m g (q_there σ.1 f') row'' := by
    intro e
    induction e with
    | zero =>
      intro _ n acc f row' hR
      have hR' : zq_Rel s m g (q_there σ.1 f, σ.2).1 (gM_row (sM_row ρ row')) := hR
      refine ⟨acc, f, row', ?_, ?_, hR⟩
      · rw [f_Tg_removeTree_L13, hR'.md, if_pos]
        rw [zq_zp_lt (by omega) (by omega)]; omega
      · rw [f_Mo_remove_L48]; simp only [zq_zp_c49, zq_zp_g49, if_false, hR'.mdM]
        rw [if_pos]
        rw [zq_zp_lt (by omega) (by omega)]; omega
    | succ e ih =>
      intro he n acc f row' hR
      have hR' : zq_Rel s m g (q_there σ.1 f, σ.2).1 (gM_row (sM_row ρ row')) := hR
      have e1 : m + 1 - (e + 1) = m - e := by omega
      have e2 : n + (e + 1) + 1 = (n + e + 1) + 1 := by omega
      have e3 : m - e + 1 = m + 1 - e := by omega
      have hlt : ¬ (nI m < nI (m - e)) := by rw [zq_zp_lt (by omega) (by omega)]; omega
      rw [e1, e2, f_Tg_removeTree_L13, f_Mo_remove_L48]
      simp only [hR'.md, if_neg hlt, zq_zp_c49, zq_zp_g49, if_false, hR'.mdM, zq_zp_s1, e3, zq_zp_cl (m - e) (show m - e < 2147483648 by omega), zq_zp_gF (show m - e < 61 by omega) (show 61 < 2147483648 by omega)]
      rcases zq_zp_thereO hR' (show 1 ≤ m - e by omega) (show m - e ≤ m by omega) with ⟨t1, t2, t3⟩ | ⟨t1, t2, t3⟩
      · obtain ⟨p1, p2⟩ := (hR'.ob (show 1 ≤ m - e by omega) (show m - e ≤ m by omega)).2.2.2.2.1
        rcases p2 with ⟨q1, -, -⟩ | ⟨i, q1, q2, q3, -⟩
        · omega
        · have p1' : gN_place (q_there σ.1 f, σ.2) (m - e) = nI i := p1.trans q3
          simp only [t1, t3, zq_zp_10, if_false, Option.bind_some, zq_zp_at4 _ (m - e) (show m - e ≤ 60 by omega), q3, zq_zp_at0 _ i (show i ≤ 60 by omega), p1', zq_zp_cl i (show i < 2147483648 by omega), zq_zp_gF (show i < 61 by omega) (show 61 < 2147483648 by omega)]
          rcases zq_zp_thereO hR' q1 (show i ≤ m by omega) with ⟨w1, w2, w3⟩ | ⟨w1, w2, w3⟩
          · simp only [w1, w2, zq_zp_10, if_false, if_true]
            exact ih (by omega) n acc f row' hR
          · simp only [w1, w2, if_true, show ((0 : Int32) = 1) = False by decide, if_false, zl, zq_zp_ix0, zq_zp_cl (17 * (m - e)) (show 17 * (m - e) < 2147483648 by omega), zq_zp_gF (show 17 * (m - e) < 1552 by omega) (show 1552 < 2147483648 by omega), zq_zp_nar0]
            exact ih (by omega) n (acc + 1) (upd f (m - e) 0) (upd row' (17 * (m - e)) 0) (zq_Rel_there hR (by omega) (by omega))
      · simp only [t1, t3, if_true, Option.bind_some]
        exact ih (by omega) n acc f row' hR
  have hR0 := zq_Rel_there h o1 o2
  unfold f_Tg_removeTree
  simp only [zq_zp_cl o (show o < 2147483648 by omega), zq_zp_gF (show o < 61 by omega) (show 61 < 2147483648 by omega), if_false, zl, zq_zp_nar0, zq_zp_s1]
  have := key (m - o) (by omega) (99 - (m - o)) 1 _ _ hR0
  have e1 : m + 1 - (m - o) = o + 1 := by omega
  have e2 : 99 - (m - o) + (m - o) + 1 = 100 := by omega
  rw [e1, e2] at this
  exact this
def zq_PJ (pk : Nat → Int32) (l a b c : Nat) : Prop := if zq_lvI (pk l) c = 4 then (zq_lvI (pk a) c = 4 ∨ zq_lvI (pk b) c = 4) else (¬ zq_lvI (pk l) c < zq_lo (zq_lvI (pk a) c) ∧ ¬ zq_lvI (pk l) c < zq_lo (zq_lvI (pk b) c))
def zq_PN (pk : Nat → Int32) (l a b c : Nat) : Prop := zq_lvI (pk l) c ≤ zq_lvI (pk a) c ∨ zq_lvI (pk l) c ≤ zq_lvI (pk b) c
theorem zq_zp_join (σ : KS) {l a b : Nat} (hl : l < 60) (ha : a < 60) (hb : b < 60) :
    (f_Lb_isJoinOf σ (nI l) (nI a) (nI b) = some 1 ∧ ∀ c, c < 8 → zq_PJ (gN_packed σ) l a b c) ∨ (f_Lb_isJoinOf σ (nI l) (nI a) (nI b) = some 0 ∧ ¬ ∀ c, c < 8 → zq_PJ (gN_packed σ) l a b c) := by
  refine zq_zp_all8 (F := fun n y => f_Lb_isJoinOf_L3 σ n (nI l) (nI a) (nI b) y) (fun n => ?_) (fun n c hc => ?_)
  · simp [f_Lb_isJoinOf_L3]
  · rw [f_Lb_isJoinOf_L3]
    unfold zq_PJ f_Lb_isJoinAt
    simp only [if_neg (zq_zp_8le hc), zq_zp_levelAt σ l c hl hc, zq_zp_levelAt σ a c ha hc, zq_zp_levelAt σ b c hb hc, Option.bind_some, zq_zp_low, zq_zp_s1]
    by_cases h4 : zq_lvI (gN_packed σ l) c = 4
    · simp only [h4, if_true]
      by_cases h5 : zq_lvI (gN_packed σ a) c = 4
      · left; simp only [h5, if_true, true_or, Option.bind_some, zq_zp_10, if_false, and_self]
      · by_cases h6 : zq_lvI (gN_packed σ b) c = 4
        · left; simp only [h5, h6, if_true, or_true, Option.bind_some, zq_zp_10, if_false, and_self]
        · right; simp only [h5, h6, if_true, or_self, Option.bind_some, if_false, not_false_eq_true, and_self]
    · simp only [h4, if_false]
      by_cases h5 : zq_lvI (gN_packed σ l) c < zq_lo (zq_lvI (gN_packed σ a) c)
      · right; simp only [h5, if_true, not_true_eq_false, false_and, Option.bind_some, not_false_eq_true, and_self]
      · by_cases h6 : zq_lvI (gN_packed σ l) c < zq_lo (zq_lvI (gN_packed σ b) c)
        · right; simp only [h5, h6, if_true, if_false, not_true_eq_false, and_false, Option.bind_some, not_false_eq_true, and_self]
        · left; simp only [h5, h6, if_false, Option.bind_some, zq_zp_10, not_false_eq_true, and_self]
theorem zq_zp_nowhere (σ : KS) {l a b : Nat} (hl : l < 60) (ha : a < 60) (hb : b < 60) :
    (f_Lb_isNowhereAboveBoth σ (nI l) (nI a) (nI b) = some 1 ∧ ∀ c, c < 8 → zq_PN (gN_packed σ) l a b c) ∨ (f_Lb_isNowhereAboveBoth σ (nI l) (nI a) (nI b) = some 0 ∧ ¬ ∀ c, c < 8 → zq_PN (gN_packed σ) l a b c) := by
  refine zq_zp_all8 (F := fun n y => f_Lb_isNowhereAboveBoth_L3 σ n (nI l) (nI a) (nI b) y) (fun n => ?_) (fun n c hc => ?_)
  · simp [f_Lb_isNowhereAboveBoth_L3]
  · rw [f_Lb_isNowhereAboveBoth_L3]
    unfold zq_PN
    simp only [if_neg (zq_zp_8le hc), zq_zp_levelAt σ l c hl hc, zq_zp_levelAt σ a c ha hc, zq_zp_levelAt σ b c hb hc, Option.bind_some, zq_zp_s1]
    by_cases h5 : zq_lvI (gN_packed σ l) c ≤ zq_lvI (gN_packed σ a) c
    · left; simp only [h5, if_true, true_or, and_self]
    · by_cases h6 : zq_lvI (gN_packed σ l) c ≤ zq_lvI (gN_packed σ b) c
      · left; simp only [h5, h6, if_true, if_false, or_true, and_self]
      · right; simp only [h5, h6, if_false, or_self, not_false_eq_true, and_self]
theorem zq_zp_pass36 {s : Nat} {pk : Nat → Int32} {ρ : RS} (hs : s ≤ 60) (hL : zq_RLb s pk (gM_row ρ)) {t q l k tl tc ql qc : Nat} (hl : l < s) (hk : k < s) (ht : t ≤ 60) (hq : q ≤ 60)
    (h1 : gM_row ρ (17 * t + 2) = nI tl) (h2 : gM_row ρ (17 * t + 6) = nI tc) (h3 : gM_row ρ (17 * q + 2) = nI ql) (h4 : gM_row ρ (17 * q + 6) = nI qc) (g1 : tl < s) (g2 : tc < s) (g3 : ql < s) (g4 : qc < s) :
    (f_Mo_passes_L36 ρ 100 (nI t) (nI q) (nI l) (nI k) 0 = some 1 ∧ ∀ c, c < 8 → zq_PJ pk l tl ql c ∧ zq_PN pk k tc qc c) ∨ (f_Mo_passes_L36 ρ 100 (nI t) (nI q) (nI l) (nI k) 0 = some 0 ∧ ¬ ∀ c, c < 8 → zq_PJ pk l tl ql c ∧ zq_PN pk k tc qc c) := by
  refine zq_zp_all8 (F := fun n y => f_Mo_passes_L36 ρ n (nI t) (nI q) (nI l) (nI k) y) (fun n => ?_) (fun n c hc => ?_)
  · simp [f_Mo_passes_L36]
  · rw [f_Mo_passes_L36]
    unfold zq_PJ zq_PN
    simp only [if_neg (zq_zp_8le hc), zq_zp_levM hs hL hl hc, zq_zp_levM hs hL hk hc, zq_zp_at2 ρ t ht, zq_zp_at6 ρ t ht, zq_zp_at2 ρ q hq, zq_zp_at6 ρ q hq, h1, h2, h3, h4, zq_zp_levM hs hL g1 hc, zq_zp_levM hs hL g2 hc, zq_zp_levM hs hL g3 hc, zq_zp_levM hs hL g4 hc, Option.bind_some, zq_zp_lowM, zq_zp_s1]
    have hn : ∀ (a b : Int32), (a ≤ b) = ¬ (b < a) := fun a b => zq_zp_nlt.symm
    simp only [hn]
    by_cases c1 : zq_lvI (pk l) c = 4
    · by_cases c2 : zq_lvI (pk tl) c = 4 <;> by_cases c3 : zq_lvI (pk ql) c = 4 <;> by_cases c6 : zq_lvI (pk tc) c < zq_lvI (pk k) c <;> by_cases c7 : zq_lvI (pk qc) c < zq_lvI (pk k) c <;>
        simp only [c1, c2, c3, c6, c7, if_true, if_false, true_or, or_true, or_false, false_or, or_self, true_and, and_true, false_and, and_false, and_self, not_true_eq_false, not_false_eq_true]
    · by_cases c4 : zq_lvI (pk l) c < zq_lo (zq_lvI (pk tl) c) <;> by_cases c5 : zq_lvI (pk l) c < zq_lo (zq_lvI (pk ql) c) <;> by_cases c6 : zq_lvI (pk tc) c < zq_lvI (pk k) c <;> by_cases c7 : zq_lvI (pk qc) c < zq_lvI (pk k) c <;>
        simp only [c1, c4, c5, c6, c7, if_true, if_false, true_or, or_true, or_false, false_or, or_self, true_and, and_true, false_and, and_false, and_self, not_true_eq_false, not_false_eq_true]
def zq_KK (k : Nat) : Prop := k = 1 ∨ k = 2 ∨ k = 3 ∨ k = 4
def zq_RR (τ : SS) (r : Nat → Int32) : Prop := ∃ s m g, zq_Rel s m g τ r
def zq_Step (σ : KS) (ρ : RS) (x : Option (Except Nat Int32 × KS)) (y : Option (Int32 × RS)) (Q : Int32 → SS → (Nat → Int32) → Prop) : Prop :=
  (∃ v τ r, x = some (.ok v, (τ, σ.2)) ∧ y = some (v, sM_row ρ r) ∧ Q v τ r) ∨ (∃ k w, zq_KK k ∧ x = some (.error k, σ) ∧ y = some (w, sM_code ρ (nI k)))
theorem zq_Step.err {σ : KS} {ρ : RS} {x : Option (Except Nat Int32 × KS)} {y : Option (Int32 × RS)} {Q : Int32 → SS → (Nat → Int32) → Prop} (k : Nat) (hk : zq_KK k) (w : Int32) (hx : x = some (.error k, σ)) (hy : y = some (w, sM_code ρ (nI k))) : zq_Step σ ρ x y Q := Or.inr ⟨k, w, hk, hx, hy⟩
theorem zq_Step.good {σ : KS} {ρ : RS} {x : Option (Except Nat Int32 × KS)} {y : Option (Int32 × RS)} {Q : Int32 → SS → (Nat → Int32) → Prop} (v : Int32) (τ : SS) (r : Nat → Int32) (hx : x = some (.ok v, (τ, σ.2))) (hy : y = some (v, sM_row ρ r)) (hq : Q v τ r) : zq_Step σ ρ x y Q := Or.inl ⟨v, τ, r, hx, hy, hq⟩
theorem zq_Step.imp {σ : KS} {ρ : RS} {x : Option (Except Nat Int32 × KS)} {y : Option (Int32 × RS)} {Q Q' : Int32 → SS → (Nat → Int32) → Prop} (h : zq_Step σ ρ x y Q) (hq : ∀ v τ r, Q v τ r → Q' v τ r) : zq_Step σ ρ x y Q' := by
  rcases h with ⟨v, τ, r, h1, h2, h3⟩ | h
  · exact Or.inl ⟨v, τ, r, h1, h2, hq v τ r h3⟩
  · exact Or.inr h
theorem zq_k_1 : zq_KK 1 := Or.inl rfl
theorem zq_k_2 : zq_KK 2 := Or.inr (Or.inl rfl)
theorem zq_k_3 : zq_KK 3 := Or.inr (Or.inr (Or.inl rfl))
theorem zq_k_4 : zq_KK 4 := Or.inr (Or.inr (Or.inr rfl))
theorem zq_zp_fail (ρ : RS) (k : Int32) : ((f_Mo_fail ρ k).bind fun v => some (v.1, v.2)) = some (0, sM_code ρ k) := rfl
theorem zq_zp_btw (x : Int32) {A B : Int32} {a b : Nat} (hA : A = nI a) (hB : B = nI b) (ha : a < 2147483648) (hb : b < 2147483648) :
    (∃ n, a ≤ n ∧ n ≤ b ∧ x = nI n ∧ f_Ke_isBetween x A B = some 1 ∧ f_Mo_within x A B = some 1) ∨ (f_Ke_isBetween x A B = some 0 ∧ f_Mo_within x A B = some 0) := by
  unfold f_Ke_isBetween f_Mo_within
  by_cases h1 : x < A
  · right; rw [if_pos h1]; exact ⟨rfl, rfl⟩
  · by_cases h2 : B < x
    · right; rw [if_neg h1, if_pos h2]; exact ⟨rfl, rfl⟩
    · left
      have h3 : A ≤ x := by rw [zq_zp_nlt] at h1; exact h1
      have h4 : x ≤ B := by rw [zq_zp_nlt] at h2; exact h2
      rw [hA] at h3; rw [hB] at h4
      obtain ⟨n, n1, n2, n3⟩ := zq_zp_rng hb h3 h4 ha
      refine ⟨n, n1, n2, n3, ?_, ?_⟩ <;> rw [if_neg h1, if_neg h2]
theorem zq_zp_btw' (x A B : Int32) : zq_Both (f_Ke_isBetween x A B) (f_Mo_within x A B) := by
  unfold f_Ke_isBetween f_Mo_within
  by_cases h1 : x < A
  · right; rw [if_pos h1]; exact ⟨rfl, rfl⟩
  · by_cases h2 : B < x
    · right; rw [if_neg h1, if_pos h2]; exact ⟨rfl, rfl⟩
    · left; rw [if_neg h1, if_neg h2]; exact ⟨rfl, rfl⟩
def zq_LEq (σ τ : SS) : Prop := ∃ p z, τ = q_size (q_packed σ p) z
theorem zq_LEq.refl (σ : SS) : zq_LEq σ σ := ⟨p_packed σ, p_size σ, rfl⟩
theorem zq_LEq.trans {a b c : SS} (h1 : zq_LEq a b) (h2 : zq_LEq b c) : zq_LEq a c := by
  obtain ⟨p, z, rfl⟩ := h1; obtain ⟨p', z', rfl⟩ := h2
  exact ⟨p', z', rfl⟩
theorem zq_zp_free {s : Nat} (hs : s ≤ 60) : (60 : Int32) - nI s = nI (60 - s) := by
  have e : (60 : Int32) = nI (60 - s) + nI s := by
    rw [zq_zp_add]
    have : 60 - s + s = 60 := by omega
    rw [this]; rfl
  rw [e]; exact Int32.add_sub_cancel _ _
theorem zq_zp_opMade {s m g : Nat} {σ : KS} {ρ : RS} (h : zq_Rel s m g σ.1 (gM_row ρ)) {l c v : Nat} (hl : l < s) (hc : c < 8) (hv : v ≤ 4) :
    zq_Step σ ρ (f_Ke_label σ (nI l) (nI c) (nI v)) (f_Mo_made ρ (nI l) (nI c) (nI v)) (fun x τ r => ∃ s' n, x = nI n ∧ n < s' ∧ s ≤ s' ∧ zq_Rel s' m g τ r ∧ zq_LEq σ.1 τ) := by
  obtain ⟨a1, a2, a3, a4, a5⟩ := h.b
  have e1 : f_Lb_has σ (nI l) = some 1 := by
    unfold f_Lb_has
    rw [if_neg (zq_zp_n0 (by omega)), h.sz, if_neg (by rw [zq_zp_le (by omega) (by omega)]; omega)]
  have e2 : f_Ke_isBetween (nI c) 0 7 = some 1 := by
    unfold f_Ke_isBetween
    have e : (7 : Int32) = nI 7 := rfl
    rw [if_neg (zq_zp_n0 (by omega)), e, if_neg (by rw [zq_zp_lt (by omega) (by omega)]; omega)]
  have e3 : f_Ke_isBetween (nI v) 0 4 = some 1 := by
    unfold f_Ke_isBetween
    have e : (4 : Int32) = nI 4 := rfl
    rw [if_neg (zq_zp_n0 (by omega)), e, if_neg (by rw [zq_zp_lt (by omega) (by omega)]; omega)]
  unfold f_Ke_label f_Lb_missing f_Lb_free
  simp only [e1, e2, e3, Option.bind_some, zq_zp_10, if_false, zq_zp_changed σ l c (nI v) (show l < 60 by omega), h.sz, zq_zp_free a2]
  rcases zq_zp_mk h hl hc hv with ⟨k, k1, k2, k3, k4, k5⟩ | ⟨k2, k3, k4, k5⟩
  · have n0 : ¬ (nI (60 - s) < 0) := zq_zp_n0 (by omega)
    simp only [k2, k4, k5, Option.bind_some, if_neg (zq_zp_nm1 (show k < 2147483648 by omega)), if_neg n0]
    exact zq_Step.good (nI k) σ.1 (gM_row ρ) rfl rfl ⟨s, k, rfl, k1, Nat.le_refl s, h, zq_LEq.refl _⟩
  · by_cases hs : s = 60
    · have n1 : nI (60 - s) < 1 := by
        have e : (1 : Int32) = nI 1 := rfl
        rw [e, zq_zp_lt (by omega) (by omega)]; omega
      simp only [k2, k4 hs, Option.bind_some, if_true, if_pos n1]
      exact zq_Step.err 4 zq_k_4 0 rfl rfl
    · have n1 : ¬ (nI (60 - s) < 1) := by
        have e : (1 : Int32) = nI 1 := rfl
        rw [e, zq_zp_lt (by omega) (by omega)]; omega
      obtain ⟨q1, q2, q3⟩ := k5 (by omega)
      simp only [k2, q1, q2, Option.bind_some, if_true, if_neg n1]
      exact zq_Step.good (nI s) _ _ rfl rfl ⟨s + 1, s, rfl, by omega, by omega, q3, ⟨_, _, rfl⟩⟩
theorem zq_zp_thread {s m g : Nat} {σ : KS} {ρ : RS} (h : zq_Rel s m g σ.1 (gM_row ρ)) (hc : gM_code ρ = 0) (x : Int32) :
    (∃ t, 1 ≤ t ∧ t ≤ m ∧ x = nI t ∧ gM_row ρ (17 * t + 1) = 3 ∧ f_Ke_needThread σ x = some (.ok (), σ) ∧ f_Mo_threadOnly ρ x = some (1, ρ)) ∨ (∃ k, zq_KK k ∧ f_Ke_needThread σ x = some (.error k, σ) ∧ f_Mo_threadOnly ρ x = some (0, sM_code ρ (nI k))) := by
  obtain ⟨a1, a2, a3, a4, a5⟩ := h.b
  unfold f_Ke_needThread f_Mo_threadOnly
  rcases zq_zp_there h x with ⟨t, t1, t2, rfl, t3, t4, t5, t6⟩ | ⟨t5, t6⟩
  · simp only [t5, t6, Option.bind_some, zq_zp_10, if_false, zq_gt_kind σ (show t ≤ 60 by omega), zq_zp_at1 ρ t (show t ≤ 60 by omega), h.kd t1 t2]
    by_cases hk : gM_row ρ (17 * t + 1) = 3
    · left; refine ⟨t, t1, t2, rfl, hk, ?_, ?_⟩
      · simp only [hk, if_true, Option.bind_some, zq_zp_10, if_false]
      · simp only [hk, if_true, hc]
    · right; refine ⟨1, zq_k_1, ?_, ?_⟩
      · simp only [hk, if_false, Option.bind_some, if_true]
      · simp only [hk, if_false, zl]; rfl
  · right; refine ⟨2, zq_k_2, ?_, ?_⟩
    · simp only [t5, Option.bind_some, if_true]
    · simp only [t6, Option.bind_some, if_true, zl]; rfl
theorem zq_zp_named {s m g : Nat} {σ : KS} {ρ : RS} (h : zq_Rel s m g σ.1 (gM_row ρ)) (hc : gM_code ρ = 0) (x1 x2 x3 K : Int32) :
    (∃ t d o, (1 ≤ t ∧ t ≤ m ∧ x1 = nI t) ∧ (1 ≤ d ∧ d ≤ m ∧ x2 = nI d) ∧ (1 ≤ o ∧ o ≤ m ∧ x3 = nI o) ∧ gM_row ρ (17 * t + 1) = 3 ∧ gM_row ρ (17 * d + 1) = 0 ∧ (K < 0 ∨ gM_row ρ (17 * o + 1) = K) ∧ gM_row ρ (17 * o + 4) = nI d ∧
      f_Ke_needThere σ x1 x2 x3 = some (.ok (), σ) ∧ f_Tg_isOfKind σ x1 3 = some 1 ∧ f_Tg_isOfKind σ x2 0 = some 1 ∧ (K < 0 ∨ f_Tg_isOfKind σ x3 K = some 1) ∧ f_Tg_isIn σ x3 x2 = some 1 ∧ f_Mo_named ρ x1 x2 x3 K = some (1, ρ)) ∨
    (f_Ke_needThere σ x1 x2 x3 = some (.error 2, σ) ∧ f_Mo_named ρ x1 x2 x3 K = some (0, sM_code ρ 2)) ∨
    (f_Ke_needThere σ x1 x2 x3 = some (.ok (), σ) ∧ (f_Tg_isOfKind σ x1 3 = some 0 ∨ (f_Tg_isOfKind σ x1 3 = some 1 ∧ (f_Tg_isOfKind σ x2 0 = some 0 ∨ (f_Tg_isOfKind σ x2 0 = some 1 ∧ ¬ K < 0 ∧ f_Tg_isOfKind σ x3 K = some 0)))) ∧ f_Mo_named ρ x1 x2 x3 K = some (0, sM_code ρ 1)) ∨
    (f_Ke_needThere σ x1 x2 x3 = some (.ok (), σ) ∧ f_Tg_isOfKind σ x1 3 = some 1 ∧ f_Tg_isOfKind σ x2 0 = some 1 ∧ (K < 0 ∨ f_Tg_isOfKind σ x3 K = some 1) ∧ f_Tg_isIn σ x3 x2 = some 0 ∧ f_Mo_named ρ x1 x2 x3 K = some (0, sM_code ρ 2)) := by
  obtain ⟨a1, a2, a3, a4, a5⟩ := h.b
  have c1 : (gM_code (sM_code ρ 1) = 0) = False := by apply eq_false; show ¬ (1 : Int32) = 0; decide
  have c2 : (gM_code (sM_code ρ 2) = 0) = False := by apply eq_false; show ¬ (2 : Int32) = 0; decide
  unfold f_Ke_needThere f_Mo_named
  rcases zq_zp_there h x1 with ⟨t, t1, t2, rfl, t3, t4, t5, t6⟩ | ⟨t5, t6⟩
  · rcases zq_zp_there h x2 with ⟨d, d1, d2, rfl, d3, d4, d5, d6⟩ | ⟨d5, d6⟩
    · rcases zq_zp_there h x3 with ⟨o, o1, o2, rfl, o3, o4, o5, o6⟩ | ⟨o5, o6⟩
      · simp only [t5, t6, d5, d6, o5, o6, Option.bind_some, zq_zp_10, if_false, zq_gt_kind σ (show t ≤ 60 by omega), zq_gt_kind σ (show d ≤ 60 by omega), zq_gt_kind σ (show o ≤ 60 by omega), zq_gt_isIn σ (show o ≤ 60 by omega), zq_zp_at1 ρ t (show t ≤ 60 by omega), zq_zp_at1 ρ d (show d ≤ 60 by omega), zq_zp_at1 ρ o (show o ≤ 60 by omega), zq_zp_at4 ρ o (show o ≤ 60 by omega), h.kd t1 t2, h.kd d1 d2, h.kd o1 o2, h.pl o1 o2, o3, zl, c1, c2, hc, if_true]
        by_cases k1 : gM_row ρ (17 * t + 1) = 3
        · simp only [k1, if_true]
          by_cases k2 : gM_row ρ (17 * d + 1) = 0
          · simp only [k2, if_true]
            by_cases k3 : K < 0
            · simp only [k3, if_true, true_or]
              by_cases k4 : gM_row ρ (17 * o + 4) = nI d
              · left; refine ⟨t, d, o, ⟨t1, t2, rfl⟩, ⟨d1, d2, rfl⟩, ⟨o1, o2, rfl⟩, k1, k2, trivial, k4, ?_, ?_, ?_, ?_, ?_, ?_⟩ <;> first | rfl | trivial | simp only [k4, if_true]
              · right; right; right
                simp only [k4, if_false]; refine ⟨?_, ?_, ?_, ?_, ?_, ?_⟩ <;> first | rfl | trivial
            · by_cases k5 : gM_row ρ (17 * o + 1) = K
              · simp only [k3, if_false, k5, if_true, or_true]
                by_cases k4 : gM_row ρ (17 * o + 4) = nI d
                · left; refine ⟨t, d, o, ⟨t1, t2, rfl⟩, ⟨d1, d2, rfl⟩, ⟨o1, o2, rfl⟩, k1, k2, Or.inr k5, k4, ?_, ?_, ?_, ?_, ?_, ?_⟩ <;> first | rfl | trivial | simp only [k4, if_true]
                · right; right; right
                  simp only [k4, if_false]; refine ⟨?_, ?_, ?_, ?_, ?_, ?_⟩ <;> first | rfl | trivial
              · right; right; left
                simp only [k3, if_false, k5]
                refine ⟨?_, Or.inr ⟨?_, Or.inr ⟨?_, fun h => h, ?_⟩⟩, ?_⟩ <;> first | rfl | trivial
          · right; right; left
            simp only [k2, if_false]; refine ⟨?_, Or.inr ⟨?_, Or.inl ?_⟩, ?_⟩ <;> first | rfl | trivial
        · right; right; left
          simp only [k1, if_false]; refine ⟨?_, Or.inl ?_, ?_⟩ <;> first | rfl | trivial
      · right; left
        simp only [t5, t6, d5, d6, o5, o6, Option.bind_some, zq_zp_10, if_false, if_true, zl, c2]; refine ⟨?_, ?_⟩ <;> first | rfl | trivial
    · right; left
      simp only [t5, t6, d5, d6, Option.bind_some, zq_zp_10, if_false, if_true, zl, c2]; refine ⟨?_, ?_⟩ <;> first | rfl | trivial
  · right; left
    simp only [t5, t6, Option.bind_some, if_true, zl, c2]; refine ⟨?_, ?_⟩ <;> first | rfl | trivial
