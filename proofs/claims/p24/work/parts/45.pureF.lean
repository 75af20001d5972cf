theorem zq_zp_opLabel {s m g : Nat} {σ : KS} {ρ : RS} (h : zq_Rel s m g σ.1 (gM_row ρ)) (hc : gM_code ρ = 0) (x1 x2 x3 : Int32) :
    zq_Step σ ρ (f_Ke_label σ x1 x2 x3) (f_Mo_label ρ x1 x2 x3) (fun _ τ r => zq_RR τ r) := by
  obtain ⟨a1, a2, a3, a4, a5⟩ := h.b
  have e0 : sM_code ρ 0 = ρ := by rw [← hc]; rfl
  rcases zq_zp_has a2 h.sz h.szM (show 1 ≤ s by omega) x1 with ⟨l, l1, rfl, l2, l3⟩ | ⟨l2, l3⟩
  · rcases zq_zp_btw x2 (A := 0) (B := 7) (a := 0) (b := 7) rfl rfl (by omega) (by omega) with ⟨c, -, c2, rfl, c3, c4⟩ | ⟨c3, c4⟩
    · rcases zq_zp_btw x3 (A := 0) (B := 4) (a := 0) (b := 4) rfl rfl (by omega) (by omega) with ⟨v, -, v2, rfl, v3, v4⟩ | ⟨v3, v4⟩
      · have e : f_Mo_label ρ (nI l) (nI c) (nI v) = f_Mo_made ρ (nI l) (nI c) (nI v) := by
          unfold f_Mo_label
          simp only [zl, e0, l3, c4, v4, Option.bind_some, zq_zp_10, if_false, zq_bd_id]
        rw [e]
        exact (zq_zp_opMade h l1 (show c < 8 by omega) (show v ≤ 4 by omega)).imp (fun _ τ r ⟨s', n, q1, q2, q3, q4, q5⟩ => ⟨s', m, g, q4⟩)
      · unfold f_Ke_label f_Mo_label
        simp only [zl, e0, l2, l3, c3, c4, v3, v4, Option.bind_some, zq_zp_10, if_false, if_true]
        exact zq_Step.err 1 zq_k_1 0 rfl rfl
    · unfold f_Ke_label f_Mo_label
      simp only [zl, e0, l2, l3, c3, c4, Option.bind_some, zq_zp_10, if_false, if_true]
      exact zq_Step.err 1 zq_k_1 0 rfl rfl
  · unfold f_Ke_label f_Mo_label
    simp only [zl, e0, l2, l3, Option.bind_some, if_true]
    exact zq_Step.err 1 zq_k_1 0 rfl rfl
theorem zq_zp_opLevel {s m g : Nat} {σ : KS} {ρ : RS} (h : zq_Rel s m g σ.1 (gM_row ρ)) (hc : gM_code ρ = 0) (x1 x2 : Int32) :
    zq_Step σ ρ (f_Ke_level σ x1 x2) (f_Mo_level ρ x1 x2) (fun _ τ r => zq_RR τ r) := by
  obtain ⟨a1, a2, a3, a4, a5⟩ := h.b
  have e0 : sM_code ρ 0 = ρ := by rw [← hc]; rfl
  unfold f_Ke_level f_Mo_level
  simp only [zl, e0]
  rcases zq_zp_has a2 h.sz h.szM (show 1 ≤ s by omega) x1 with ⟨l, l1, rfl, l2, l3⟩ | ⟨l2, l3⟩
  · rcases zq_zp_btw x2 (A := 0) (B := 7) (a := 0) (b := 7) rfl rfl (by omega) (by omega) with ⟨c, -, c2, rfl, c3, c4⟩ | ⟨c3, c4⟩
    · simp only [l2, l3, c3, c4, Option.bind_some, zq_zp_10, if_false, zq_zp_levelAt σ l c (show l < 60 by omega) (show c < 8 by omega), zq_zp_levM a2 h.lb l1 (show c < 8 by omega)]
      exact zq_Step.good _ σ.1 (gM_row ρ) rfl rfl ⟨_, _, _, h⟩
    · simp only [l2, l3, c3, c4, Option.bind_some, zq_zp_10, if_false, if_true]
      exact zq_Step.err 1 zq_k_1 0 rfl rfl
  · simp only [l2, l3, Option.bind_some, if_true]
    exact zq_Step.err 1 zq_k_1 0 rfl rfl
theorem zq_zp_opFits {s m g : Nat} {σ : KS} {ρ : RS} (h : zq_Rel s m g σ.1 (gM_row ρ)) (hc : gM_code ρ = 0) (x1 x2 x3 : Int32) :
    zq_Step σ ρ (f_Ke_fits σ x1 x2 x3) (f_Mo_fits ρ x1 x2 x3) (fun _ τ r => zq_RR τ r) := by
  obtain ⟨a1, a2, a3, a4, a5⟩ := h.b
  have e0 : sM_code ρ 0 = ρ := by rw [← hc]; rfl
  unfold f_Ke_fits f_Mo_fits
  simp only [zl, e0]
  rcases zq_zp_has a2 h.sz h.szM (show 1 ≤ s by omega) x1 with ⟨l, l1, rfl, l2, l3⟩ | ⟨l2, l3⟩
  · rcases zq_zp_has a2 h.sz h.szM (show 1 ≤ s by omega) x2 with ⟨k, k1, rfl, k2, k3⟩ | ⟨k2, k3⟩
    · by_cases h3 : x3 = 0
      · subst h3
        rcases zq_zp_bU a2 h.lb l1 k1 with ⟨e1, e2⟩ | ⟨e1, e2⟩
        · simp only [l2, l3, k2, k3, e1, e2, Option.bind_some, zq_zp_10, if_false, if_true, zq_zp_nar1]
          exact zq_Step.good _ σ.1 (gM_row ρ) rfl rfl ⟨_, _, _, h⟩
        · simp only [l2, l3, k2, k3, e1, e2, Option.bind_some, zq_zp_10, if_false, if_true, zq_zp_nar0]
          exact zq_Step.good _ σ.1 (gM_row ρ) rfl rfl ⟨_, _, _, h⟩
      · rcases zq_zp_bH a2 h.lb l1 k1 h3 with ⟨e1, e2⟩ | ⟨e1, e2⟩
        · simp only [l2, l3, k2, k3, e1, e2, h3, Option.bind_some, zq_zp_10, if_false, if_true, zq_zp_nar1]
          exact zq_Step.good _ σ.1 (gM_row ρ) rfl rfl ⟨_, _, _, h⟩
        · simp only [l2, l3, k2, k3, e1, e2, h3, Option.bind_some, zq_zp_10, if_false, if_true, zq_zp_nar0]
          exact zq_Step.good _ σ.1 (gM_row ρ) rfl rfl ⟨_, _, _, h⟩
    · simp only [l2, l3, k2, k3, Option.bind_some, zq_zp_10, if_false, if_true]
      exact zq_Step.err 1 zq_k_1 0 rfl rfl
  · simp only [l2, l3, Option.bind_some, if_true]
    exact zq_Step.err 1 zq_k_1 0 rfl rfl
theorem zq_zp_opIn {s m g : Nat} {σ : KS} {ρ : RS} (h : zq_Rel s m g σ.1 (gM_row ρ)) (hc : gM_code ρ = 0) (x1 x2 : Int32) :
    zq_Step σ ρ (f_Ke_in σ x1 x2) (f_Mo_in ρ x1 x2) (fun _ τ r => zq_RR τ r) := by
  obtain ⟨a1, a2, a3, a4, a5⟩ := h.b
  have e0 : sM_code ρ 0 = ρ := by rw [← hc]; rfl
  unfold f_Ke_in f_Mo_in
  simp only [zl, e0]
  rcases zq_zp_there h x1 with ⟨d, d1, d2, rfl, d3, d4, d5, d6⟩ | ⟨d5, d6⟩
  · simp only [d5, d6, Option.bind_some, zq_zp_10, if_false, zq_gt_kind σ (show d ≤ 60 by omega), zq_zp_at1 ρ d (show d ≤ 60 by omega), h.kd d1 d2]
    by_cases hk : gM_row ρ (17 * d + 1) = 0
    · simp only [hk, if_true, Option.bind_some, zq_zp_10, if_false]
      rcases zq_zp_nth h d1 d2 x2 with ⟨o, o1, o2, o3, o4⟩ | ⟨o3, o4⟩
      · simp only [o3, o4, Option.bind_some, if_neg (zq_zp_ne0 (show o < 2147483648 by omega) o1)]
        exact zq_Step.good _ σ.1 (gM_row ρ) rfl rfl ⟨_, _, _, h⟩
      · simp only [o3, o4, Option.bind_some, if_true]
        exact zq_Step.err 2 zq_k_2 0 rfl rfl
    · simp only [hk, if_false, Option.bind_some, if_true]
      exact zq_Step.err 1 zq_k_1 0 rfl rfl
  · simp only [d5, d6, Option.bind_some, if_true]
    exact zq_Step.err 2 zq_k_2 0 rfl rfl
theorem zq_zp_opObject {s m g : Nat} {σ : KS} {ρ : RS} (h : zq_Rel s m g σ.1 (gM_row ρ)) (hc : gM_code ρ = 0) (x1 x2 : Int32) :
    zq_Step σ ρ (f_Ke_object σ x1 x2) (f_Mo_object ρ x1 x2) (fun _ τ r => zq_RR τ r) := by
  obtain ⟨a1, a2, a3, a4, a5⟩ := h.b
  have e0 : sM_code ρ 0 = ρ := by rw [← hc]; rfl
  unfold f_Ke_object f_Mo_object
  simp only [zl, e0]
  rcases zq_zp_btw' x2 0 6 with ⟨i1, i2⟩ | ⟨i1, i2⟩
  · rcases zq_zp_there h x1 with ⟨d, d1, d2, rfl, d3, d4, d5, d6⟩ | ⟨d5, d6⟩
    · obtain ⟨r, r1, r2⟩ := zq_zp_use h d1 d2
      obtain ⟨l, l1, l2, l3⟩ := h.la d1 d2
      have K := (h.ob d1 d2).2.2.2.2.2.1
      simp only [i1, i2, d5, d6, r1, r2, Option.bind_some, zq_zp_10, if_false, zq_gt_kindOf σ (show d ≤ 60 by omega), zq_gt_label σ (show d ≤ 60 by omega), zq_gt_quota σ (show d ≤ 60 by omega), zq_gt_place σ (show d ≤ 60 by omega), zq_gt_clear σ (show d ≤ 60 by omega), zq_gt_count σ (show d ≤ 60 by omega), zq_zp_at1 ρ d (show d ≤ 60 by omega), zq_zp_at2 ρ d (show d ≤ 60 by omega), zq_zp_at3 ρ d (show d ≤ 60 by omega), zq_zp_at4 ρ d (show d ≤ 60 by omega), zq_zp_at6 ρ d (show d ≤ 60 by omega), zq_zp_at8 ρ d (show d ≤ 60 by omega), h.kd d1 d2, l2, l3, h.qu d1 d2, h.pl d1 d2, h.cc d1 d2]
      by_cases q0 : x2 = 0
      · simp only [q0, if_true]; exact zq_Step.good _ σ.1 (gM_row ρ) rfl rfl ⟨_, _, _, h⟩
      · by_cases q1 : x2 = 1
        · simp only [q0, q1, if_true, if_false, zq_zp_10]; exact zq_Step.good _ σ.1 (gM_row ρ) rfl rfl ⟨_, _, _, h⟩
        · by_cases q2 : x2 = 2
          · simp only [q0, q1, if_neg q0, if_neg q1, if_pos q2, if_true, if_false]; exact zq_Step.good _ σ.1 (gM_row ρ) rfl rfl ⟨_, _, _, h⟩
          · by_cases q3 : x2 = 3
            · simp only [if_neg q0, if_neg q1, if_neg q2, if_pos q3]; exact zq_Step.good _ σ.1 (gM_row ρ) rfl rfl ⟨_, _, _, h⟩
            · by_cases q4 : x2 = 4
              · simp only [if_neg q0, if_neg q1, if_neg q2, if_neg q3, if_pos q4]; exact zq_Step.good _ σ.1 (gM_row ρ) rfl rfl ⟨_, _, _, h⟩
              · by_cases q5 : x2 = 5
                · simp only [if_neg q0, if_neg q1, if_neg q2, if_neg q3, if_neg q4, if_pos q5]
                  rcases K with ⟨K1, K2⟩ | ⟨K1, K2, -⟩
                  · have K2' : gN_clearance σ d = -1 := K2
                    have lt2 : gM_row ρ (17 * d + 1) < 2 := by rcases K1 with K1 | K1 <;> rw [K1] <;> decide
                    simp only [K2', if_pos lt2]; exact zq_Step.good _ σ.1 (gM_row ρ) rfl rfl ⟨_, _, _, h⟩
                  · have K2' : gN_clearance σ d = gM_row ρ (17 * d + 6) := K2
                    have lt2 : ¬ gM_row ρ (17 * d + 1) < 2 := by rcases K1 with K1 | K1 <;> rw [K1] <;> decide
                    simp only [K2', if_neg lt2]; exact zq_Step.good _ σ.1 (gM_row ρ) rfl rfl ⟨_, _, _, h⟩
                · simp only [if_neg q0, if_neg q1, if_neg q2, if_neg q3, if_neg q4, if_neg q5]; exact zq_Step.good _ σ.1 (gM_row ρ) rfl rfl ⟨_, _, _, h⟩
    · simp only [i1, i2, d5, d6, Option.bind_some, zq_zp_10, if_false, if_true]
      exact zq_Step.err 2 zq_k_2 0 rfl rfl
  · simp only [i1, i2, Option.bind_some, if_true]
    exact zq_Step.err 1 zq_k_1 0 rfl rfl
theorem zq_zp_users {s m g : Nat} {σ : KS} {ρ : RS} (h : zq_Rel s m g σ.1 (gM_row ρ)) (x : Int32) : ∃ v n, f_Us_howMany σ = some v ∧ f_Mo_count_L9 100 ρ x 0 0 = f_Mo_count_L9 (n + 1) ρ x v 4 := by
  have key : ∀ e, e ≤ 4 → ∀ n k acc, k = n + e → ∃ v, f_Us_howMany_L4 σ (n + e + 1) acc (nI (4 - e)) = some v ∧ f_Mo_count_L9 (k + 1) ρ x acc (nI (4 - e)) = f_Mo_count_L9 (n + 1) ρ x v 4 := by
    intro e
    induction e with
    | zero =>
      intro _ n k acc hk
      subst hk
      refine ⟨acc, ?_, rfl⟩
      rw [f_Us_howMany_L4]
      have : (4 : Int32) ≤ nI (4 - 0) := Int32.le_refl _
      rw [if_pos this]
    | succ e ih =>
      intro he n k acc hk
      have e1 : 4 - (e + 1) + 1 = 4 - e := by omega
      have e2 : n + (e + 1) + 1 = (n + e + 1) + 1 := by omega
      have e3 : k + 1 = (n + e + 1) + 1 := by omega
      have hlt : ¬ ((4 : Int32) ≤ nI (4 - (e + 1))) := by
        have e4 : (4 : Int32) = nI 4 := rfl
        rw [e4, zq_zp_le (by omega) (by omega)]; omega
      have hu : 4 - (e + 1) < 4 := by omega
      obtain ⟨⟨t1, t2⟩, -⟩ := h.us hu
      have t1' : gN_uthere σ (4 - (e + 1)) = gM_row ρ (1517 + 8 * (4 - (e + 1))) := t1
      have e5 : f_Mo_of ρ (nI (4 - (e + 1))) 0 = some (gM_row ρ (1517 + 8 * (4 - (e + 1)))) := zq_zp_of ρ _ 0 hu (by omega)
      rw [e2, e3, f_Us_howMany_L4, f_Mo_count_L9, if_neg hlt, if_neg hlt, e5, Option.bind_some]
      simp only [zq_zp_cl (4 - (e + 1)) (show 4 - (e + 1) < 2147483648 by omega), zq_zp_gF (show 4 - (e + 1) < 4 by omega) (show 4 < 2147483648 by omega), if_false, t1', zq_zp_s1, e1]
      rcases t2 with t2 | t2
      · rw [t2, if_pos rfl, Int32.add_zero]
        exact ih (by omega) n (n + e) acc rfl
      · rw [t2, if_neg (by decide)]
        exact ih (by omega) n (n + e) (acc + 1) rfl
  obtain ⟨v, v1, v2⟩ := key 4 (by omega) 95 99 0 rfl
  exact ⟨v, 95, v1, v2⟩
theorem zq_zl_to {α β : Type} {x y : α} {f : α → β} {r : β} (h : x = y) (h2 : f y = r) : zl x f = r := by subst h; exact h2
theorem zq_zp_count9 (ρ : RS) (x v : Int32) (n : Nat) : f_Mo_count_L9 (n + 1) ρ x v 4 = if x = 0 then (f_Mo_objects ρ).bind (fun v7 => some (v7, ρ)) else if x = 1 then some (gM_row ρ 1550, ρ) else if x = 2 then some (gM_row ρ 1551, ρ) else if x = 3 then some (v, ρ) else some (-1, ρ) := by
  have e4 : (4 : Int32) ≤ 4 := Int32.le_refl _
  rw [f_Mo_count_L9, if_pos e4]
  simp only [zq_zp_g50, zq_zp_c50, zq_zp_g51, zq_zp_c51, if_false]
theorem zq_zp_opCount {s m g : Nat} {σ : KS} {ρ : RS} (h : zq_Rel s m g σ.1 (gM_row ρ)) (hc : gM_code ρ = 0) (x : Int32) : ∃ v, f_Ke_count σ x = some v ∧ f_Mo_count ρ x = some (v, ρ) := by
  have e0 : sM_code ρ 0 = ρ := by rw [← hc]; rfl
  obtain ⟨r, r1, r2⟩ := zq_zp_objects h
  obtain ⟨v, n, v1, v2⟩ := zq_zp_users h x
  have e9 : f_Mo_count ρ x = f_Mo_count_L9 (n + 1) ρ x v 4 := by
    unfold f_Mo_count
    exact zq_zl_to e0 v2
  rw [e9, zq_zp_count9, r2, h.szM, h.ctM]
  unfold f_Ke_count
  rw [r1, v1, h.ct]
  unfold f_Lb_howMany
  rw [h.sz]
  simp only [Option.bind_some]
  by_cases q0 : x = 0
  · rw [if_pos q0, if_pos q0]; exact ⟨_, rfl, rfl⟩
  · by_cases q1 : x = 1
    · rw [if_neg q0, if_neg q0, if_pos q1, if_pos q1]; exact ⟨_, rfl, rfl⟩
    · by_cases q2 : x = 2
      · rw [if_neg q0, if_neg q0, if_neg q1, if_neg q1, if_pos q2, if_pos q2]; exact ⟨_, rfl, rfl⟩
      · by_cases q3 : x = 3
        · rw [if_neg q0, if_neg q0, if_neg q1, if_neg q1, if_neg q2, if_neg q2, if_pos q3, if_pos q3]; exact ⟨_, rfl, rfl⟩
        · rw [if_neg q0, if_neg q0, if_neg q1, if_neg q1, if_neg q2, if_neg q2, if_neg q3, if_neg q3]; exact ⟨_, rfl, rfl⟩
theorem zq_pe_packed (σ : SS) (x : Nat → Int32) : p_packed (q_packed σ x) = x := rfl
theorem zq_pq_size_packed (σ : SS) (x : Nat → Int32) : p_size (q_packed σ x) = p_size σ := rfl
theorem zq_pq_there_packed (σ : SS) (x : Nat → Int32) : p_there (q_packed σ x) = p_there σ := rfl
theorem zq_pq_kind_packed (σ : SS) (x : Nat → Int32) : p_kind (q_packed σ x) = p_kind σ := rfl
theorem zq_pq_label_packed (σ : SS) (x : Nat → Int32) : p_label (q_packed σ x) = p_label σ := rfl
theorem zq_pq_quota_packed (σ : SS) (x : Nat → Int32) : p_quota (q_packed σ x) = p_quota σ := rfl
theorem zq_pq_place_packed (σ : SS) (x : Nat → Int32) : p_place (q_packed σ x) = p_place σ := rfl
theorem zq_pq_depth_packed (σ : SS) (x : Nat → Int32) : p_depth (q_packed σ x) = p_depth σ := rfl
theorem zq_pq_clearance_packed (σ : SS) (x : Nat → Int32) : p_clearance (q_packed σ x) = p_clearance σ := rfl
theorem zq_pq_guard_packed (σ : SS) (x : Nat → Int32) : p_guard (q_packed σ x) = p_guard σ := rfl
theorem zq_pq_entry_packed (σ : SS) (x : Nat → Int32) : p_entry (q_packed σ x) = p_entry σ := rfl
theorem zq_pq_cellCount_packed (σ : SS) (x : Nat → Int32) : p_cellCount (q_packed σ x) = p_cellCount σ := rfl
theorem zq_pq_cells_packed (σ : SS) (x : Nat → Int32) : p_cells (q_packed σ x) = p_cells σ := rfl
theorem zq_pq_made_packed (σ : SS) (x : Nat → Int32) : p_made (q_packed σ x) = p_made σ := rfl
theorem zq_pq_uthere_packed (σ : SS) (x : Nat → Int32) : p_uthere (q_packed σ x) = p_uthere σ := rfl
theorem zq_pq_password_packed (σ : SS) (x : Nat → Int32) : p_password (q_packed σ x) = p_password σ := rfl
theorem zq_pq_firstCategory_packed (σ : SS) (x : Nat → Int32) : p_firstCategory (q_packed σ x) = p_firstCategory σ := rfl
theorem zq_pq_secondCategory_packed (σ : SS) (x : Nat → Int32) : p_secondCategory (q_packed σ x) = p_secondCategory σ := rfl
theorem zq_pq_home_packed (σ : SS) (x : Nat → Int32) : p_home (q_packed σ x) = p_home σ := rfl
theorem zq_pq_directory_packed (σ : SS) (x : Nat → Int32) : p_directory (q_packed σ x) = p_directory σ := rfl
theorem zq_pq_gate_packed (σ : SS) (x : Nat → Int32) : p_gate (q_packed σ x) = p_gate σ := rfl
theorem zq_pq_categories_packed (σ : SS) (x : Nat → Int32) : p_categories (q_packed σ x) = p_categories σ := rfl
theorem zq_pq_packed_size (σ : SS) (x : Int32) : p_packed (q_size σ x) = p_packed σ := rfl
theorem zq_pe_size (σ : SS) (x : Int32) : p_size (q_size σ x) = x := rfl
theorem zq_pq_there_size (σ : SS) (x : Int32) : p_there (q_size σ x) = p_there σ := rfl
theorem zq_pq_kind_size (σ : SS) (x : Int32) : p_kind (q_size σ x) = p_kind σ := rfl
theorem zq_pq_label_size (σ : SS) (x : Int32) : p_label (q_size σ x) = p_label σ := rfl
theorem zq_pq_quota_size (σ : SS) (x : Int32) : p_quota (q_size σ x) = p_quota σ := rfl
theorem zq_pq_place_size (σ : SS) (x : Int32) : p_place (q_size σ x) = p_place σ := rfl
theorem zq_pq_depth_size (σ : SS) (x : Int32) : p_depth (q_size σ x) = p_depth σ := rfl
theorem zq_pq_clearance_size (σ : SS) (x : Int32) : p_clearance (q_size σ x) = p_clearance σ := rfl
theorem zq_pq_guard_size (σ : SS) (x : Int32) : p_guard (q_size σ x) = p_guard σ := rfl
theorem zq_pq_entry_size (σ : SS) (x : Int32) : p_entry (q_size σ x) = p_entry σ := rfl
theorem zq_pq_cellCount_size (σ : SS) (x : Int32) : p_cellCount (q_size σ x) = p_cellCount σ := rfl
theorem zq_pq_cells_size (σ : SS) (x : Int32) : p_cells (q_size σ x) = p_cells σ := rfl
theorem zq_pq_made_size (σ : SS) (x : Int32) : p_made (q_size σ x) = p_made σ := rfl
theorem zq_pq_uthere_size (σ : SS) (x : Int32) : p_uthere (q_size σ x) = p_uthere σ := rfl
theorem zq_pq_password_size (σ : SS) (x : Int32) : p_password (q_size σ x) = p_password σ := rfl
theorem zq_pq_firstCategory_size (σ : SS) (x : Int32) : p_firstCategory (q_size σ x) = p_firstCategory σ := rfl
theorem zq_pq_secondCategory_size (σ : SS) (x : Int32) : p_secondCategory (q_size σ x) = p_secondCategory σ := rfl
theorem zq_pq_home_size (σ : SS) (x : Int32) : p_home (q_size σ x) = p_home σ := rfl
theorem zq_pq_directory_size (σ : SS) (x : Int32) : p_directory (q_size σ x) = p_directory σ := rfl
theorem zq_pq_gate_size (σ : SS) (x : Int32) : p_gate (q_size σ x) = p_gate σ := rfl
theorem zq_pq_categories_size (σ : SS) (x : Int32) : p_categories (q_size σ x) = p_categories σ := rfl
theorem zq_pq_packed_cells (σ : SS) (x : Nat → Int32) : p_packed (q_cells σ x) = p_packed σ := rfl
theorem zq_pq_size_cells (σ : SS) (x : Nat → Int32) : p_size (q_cells σ x) = p_size σ := rfl
theorem zq_pq_there_cells (σ : SS) (x : Nat → Int32) : p_there (q_cells σ x) = p_there σ := rfl
theorem zq_pq_kind_cells (σ : SS) (x : Nat → Int32) : p_kind (q_cells σ x) = p_kind σ := rfl
theorem zq_pq_label_cells (σ : SS) (x : Nat → Int32) : p_label (q_cells σ x) = p_label σ := rfl
theorem zq_pq_quota_cells (σ : SS) (x : Nat → Int32) : p_quota (q_cells σ x) = p_quota σ := rfl
theorem zq_pq_place_cells (σ : SS) (x : Nat → Int32) : p_place (q_cells σ x) = p_place σ := rfl
theorem zq_pq_depth_cells (σ : SS) (x : Nat → Int32) : p_depth (q_cells σ x) = p_depth σ := rfl
theorem zq_pq_clearance_cells (σ : SS) (x : Nat → Int32) : p_clearance (q_cells σ x) = p_clearance σ := rfl
theorem zq_pq_guard_cells (σ : SS) (x : Nat → Int32) : p_guard (q_cells σ x) = p_guard σ := rfl
theorem zq_pq_entry_cells (σ : SS) (x : Nat → Int32) : p_entry (q_cells σ x) = p_entry σ := rfl
theorem zq_pq_cellCount_cells (σ : SS) (x : Nat → Int32) : p_cellCount (q_cells σ x) = p_cellCount σ := rfl
theorem zq_pe_cells (σ : SS) (x : Nat → Int32) : p_cells (q_cells σ x) = x := rfl
theorem zq_pq_made_cells (σ : SS) (x : Nat → Int32) : p_made (q_cells σ x) = p_made σ := rfl
theorem zq_pq_uthere_cells (σ : SS) (x : Nat → Int32) : p_uthere (q_cells σ x) = p_uthere σ := rfl
theorem zq_pq_password_cells (σ : SS) (x : Nat → Int32) : p_password (q_cells σ x) = p_password σ := rfl
theorem zq_pq_firstCategory_cells (σ : SS) (x : Nat → Int32) : p_firstCategory (q_cells σ x) = p_firstCategory σ := rfl
theorem zq_pq_secondCategory_cells (σ : SS) (x : Nat → Int32) : p_secondCategory (q_cells σ x) = p_secondCategory σ := rfl
theorem zq_pq_home_cells (σ : SS) (x : Nat → Int32) : p_home (q_cells σ x) = p_home σ := rfl
theorem zq_pq_directory_cells (σ : SS) (x : Nat → Int32) : p_directory (q_cells σ x) = p_directory σ := rfl
theorem zq_pq_gate_cells (σ : SS) (x : Nat → Int32) : p_gate (q_cells σ x) = p_gate σ := rfl
theorem zq_pq_categories_cells (σ : SS) (x : Nat → Int32) : p_categories (q_cells σ x) = p_categories σ := rfl
theorem zq_pq_packed_categories (σ : SS) (x : Int32) : p_packed (q_categories σ x) = p_packed σ := rfl
theorem zq_pq_size_categories (σ : SS) (x : Int32) : p_size (q_categories σ x) = p_size σ := rfl
theorem zq_pq_there_categories (σ : SS) (x : Int32) : p_there (q_categories σ x) = p_there σ := rfl
theorem zq_pq_kind_categories (σ : SS) (x : Int32) : p_kind (q_categories σ x) = p_kind σ := rfl
theorem zq_pq_label_categories (σ : SS) (x : Int32) : p_label (q_categories σ x) = p_label σ := rfl
theorem zq_pq_quota_categories (σ : SS) (x : Int32) : p_quota (q_categories σ x) = p_quota σ := rfl
theorem zq_pq_place_categories (σ : SS) (x : Int32) : p_place (q_categories σ x) = p_place σ := rfl
theorem zq_pq_depth_categories (σ : SS) (x : Int32) : p_depth (q_categories σ x) = p_depth σ := rfl
theorem zq_pq_clearance_categories (σ : SS) (x : Int32) : p_clearance (q_categories σ x) = p_clearance σ := rfl
theorem zq_pq_guard_categories (σ : SS) (x : Int32) : p_guard (q_categories σ x) = p_guard σ := rfl
theorem zq_pq_entry_categories (σ : SS) (x : Int32) : p_entry (q_categories σ x) = p_entry σ := rfl
theorem zq_pq_cellCount_categories (σ : SS) (x : Int32) : p_cellCount (q_categories σ x) = p_cellCount σ := rfl
theorem zq_pq_cells_categories (σ : SS) (x : Int32) : p_cells (q_categories σ x) = p_cells σ := rfl
theorem zq_pq_made_categories (σ : SS) (x : Int32) : p_made (q_categories σ x) = p_made σ := rfl
theorem zq_pq_uthere_categories (σ : SS) (x : Int32) : p_uthere (q_categories σ x) = p_uthere σ := rfl
theorem zq_pq_password_categories (σ : SS) (x : Int32) : p_password (q_categories σ x) = p_password σ := rfl
theorem zq_pq_firstCategory_categories (σ : SS) (x : Int32) : p_firstCategory (q_categories σ x) = p_firstCategory σ := rfl
theorem zq_pq_secondCategory_categories (σ : SS) (x : Int32) : p_secondCategory (q_categories σ x) = p_secondCategory σ := rfl
theorem zq_pq_home_categories (σ : SS) (x : Int32) : p_home (q_categories σ x) = p_home σ := rfl
theorem zq_pq_directory_categories (σ : SS) (x : Int32) : p_directory (q_categories σ x) = p_directory σ := rfl
theorem zq_pq_gate_categories (σ : SS) (x : Int32) : p_gate (q_categories σ x) = p_gate σ := rfl
theorem zq_pe_categories (σ : SS) (x : Int32) : p_categories (q_categories σ x) = x := rfl
def zq_cpy (f g : Nat → Int32) (n : Nat) : Nat → Int32 := va_cpy f g (0 : Int32).toNatClampNeg (0 : Int32).toNatClampNeg n
theorem zq_cpy_lt {f g : Nat → Int32} {n k : Nat} (h : k < n) : zq_cpy f g n k = f k := by
  have e : (0 : Int32).toNatClampNeg = 0 := zq_zp_cl 0 (by omega)
  unfold zq_cpy va_cpy
  rw [e, if_pos (by omega)]
  congr 1; omega
def zq_cpL (src dst : SS) : SS := q_size (q_packed dst (zq_cpy (p_packed src) (p_packed dst) (60 : Int32).toNatClampNeg)) (p_size src)
theorem zq_cpL_packed (src dst : SS) : p_packed (zq_cpL src dst) = zq_cpy (p_packed src) (p_packed dst) (60 : Int32).toNatClampNeg := by
  unfold zq_cpL; rw [zq_pq_packed_size, zq_pe_packed]
theorem zq_cpL_size (src dst : SS) : p_size (zq_cpL src dst) = p_size src := by
  unfold zq_cpL; rw [zq_pe_size]
theorem zq_cpL_there (src dst : SS) : p_there (zq_cpL src dst) = p_there dst := by
  unfold zq_cpL; rw [zq_pq_there_size, zq_pq_there_packed]
theorem zq_cpL_kind (src dst : SS) : p_kind (zq_cpL src dst) = p_kind dst := by
  unfold zq_cpL; rw [zq_pq_kind_size, zq_pq_kind_packed]
theorem zq_cpL_label (src dst : SS) : p_label (zq_cpL src dst) = p_label dst := by
  unfold zq_cpL; rw [zq_pq_label_size, zq_pq_label_packed]
theorem zq_cpL_quota (src dst : SS) : p_quota (zq_cpL src dst) = p_quota dst := by
  unfold zq_cpL; rw [zq_pq_quota_size, zq_pq_quota_packed]
theorem zq_cpL_place (src dst : SS) : p_place (zq_cpL src dst) = p_place dst := by
  unfold zq_cpL; rw [zq_pq_place_size, zq_pq_place_packed]
theorem zq_cpL_depth (src dst : SS) : p_depth (zq_cpL src dst) = p_depth dst := by
  unfold zq_cpL; rw [zq_pq_depth_size, zq_pq_depth_packed]
theorem zq_cpL_clearance (src dst : SS) : p_clearance (zq_cpL src dst) = p_clearance dst := by
  unfold zq_cpL; rw [zq_pq_clearance_size, zq_pq_clearance_packed]
theorem zq_cpL_guard (src dst : SS) : p_guard (zq_cpL src dst) = p_guard dst := by
  unfold zq_cpL; rw [zq_pq_guard_size, zq_pq_guard_packed]
theorem zq_cpL_entry (src dst : SS) : p_entry (zq_cpL src dst) = p_entry dst := by
  unfold zq_cpL; rw [zq_pq_entry_size, zq_pq_entry_packed]
theorem zq_cpL_cellCount (src dst : SS) : p_cellCount (zq_cpL src dst) = p_cellCount dst := by
  unfold zq_cpL; rw [zq_pq_cellCount_size, zq_pq_cellCount_packed]
theorem zq_cpL_cells (src dst : SS) : p_cells (zq_cpL src dst) = p_cells dst := by
  unfold zq_cpL; rw [zq_pq_cells_size, zq_pq_cells_packed]
theorem zq_cpL_made (src dst : SS) : p_made (zq_cpL src dst) = p_made dst := by
  unfold zq_cpL; rw [zq_pq_made_size, zq_pq_made_packed]
theorem zq_cpL_uthere (src dst : SS) : p_uthere (zq_cpL src dst) = p_uthere dst := by
  unfold zq_cpL; rw [zq_pq_uthere_size, zq_pq_uthere_packed]
theorem zq_cpL_password (src dst : SS) : p_password (zq_cpL src dst) = p_password dst := by
  unfold zq_cpL; rw [zq_pq_password_size, zq_pq_password_packed]
theorem zq_cpL_firstCategory (src dst : SS) : p_firstCategory (zq_cpL src dst) = p_firstCategory dst := by
  unfold zq_cpL; rw [zq_pq_firstCategory_size, zq_pq_firstCategory_packed]
theorem zq_cpL_secondCategory (src dst : SS) : p_secondCategory (zq_cpL src dst) = p_secondCategory dst := by
  unfold zq_cpL; rw [zq_pq_secondCategory_size, zq_pq_secondCategory_packed]
theorem zq_cpL_home (src dst : SS) : p_home (zq_cpL src dst) = p_home dst := by
  unfold zq_cpL; rw [zq_pq_home_size, zq_pq_home_packed]
theorem zq_cpL_directory (src dst : SS) : p_directory (zq_cpL src dst) = p_directory dst := by
  unfold zq_cpL; rw [zq_pq_directory_size, zq_pq_directory_packed]
theorem zq_cpL_gate (src dst : SS) : p_gate (zq_cpL src dst) = p_gate dst := by
  unfold zq_cpL; rw [zq_pq_gate_size, zq_pq_gate_packed]
theorem zq_cpL_categories (src dst : SS) : p_categories (zq_cpL src dst) = p_categories dst := by
  unfold zq_cpL; rw [zq_pq_categories_size, zq_pq_categories_packed]
def zq_cpT (src dst : SS) : SS := q_made (q_cells (q_cellCount (q_entry (q_guard (q_clearance (q_depth (q_place (q_quota (q_label (q_kind (q_there dst (zq_cpy (p_there src) (p_there dst) (61 : Int32).toNatClampNeg)) (zq_cpy (p_kind src) (p_kind dst) (61 : Int32).toNatClampNeg)) (zq_cpy (p_label src) (p_label dst) (61 : Int32).toNatClampNeg)) (zq_cpy (p_quota src) (p_quota dst) (61 : Int32).toNatClampNeg)) (zq_cpy (p_place src) (p_place dst) (61 : Int32).toNatClampNeg)) (zq_cpy (p_depth src) (p_depth dst) (61 : Int32).toNatClampNeg)) (zq_cpy (p_clearance src) (p_clearance dst) (61 : Int32).toNatClampNeg)) (zq_cpy (p_guard src) (p_guard dst) (61 : Int32).toNatClampNeg)) (zq_cpy (p_entry src) (p_entry dst) (61 : Int32).toNatClampNeg)) (zq_cpy (p_cellCount src) (p_cellCount dst) (61 : Int32).toNatClampNeg)) (zq_cpy (p_cells src) (p_cells dst) (488 : Int32).toNatClampNeg)) (p_made src)
theorem zq_cpT_packed (src dst : SS) : p_packed (zq_cpT src dst) = p_packed dst := by
  unfold zq_cpT; rw [zq_pq_packed_made, zq_pq_packed_cells, zq_pq_packed_cellCount, zq_pq_packed_entry, zq_pq_packed_guard, zq_pq_packed_clearance, zq_pq_packed_depth, zq_pq_packed_place, zq_pq_packed_quota, zq_pq_packed_label, zq_pq_packed_kind, zq_pq_packed_there]
theorem zq_cpT_size (src dst : SS) : p_size (zq_cpT src dst) = p_size dst := by
  unfold zq_cpT; rw [zq_pq_size_made, zq_pq_size_cells, zq_pq_size_cellCount, zq_pq_size_entry, zq_pq_size_guard, zq_pq_size_clearance, zq_pq_size_depth, zq_pq_size_place, zq_pq_size_quota, zq_pq_size_label, zq_pq_size_kind, zq_pq_size_there]
theorem zq_cpT_there (src dst : SS) : p_there (zq_cpT src dst) = zq_cpy (p_there src) (p_there dst) (61 : Int32).toNatClampNeg := by
  unfold zq_cpT; rw [zq_pq_there_made, zq_pq_there_cells, zq_pq_there_cellCount, zq_pq_there_entry, zq_pq_there_guard, zq_pq_there_clearance, zq_pq_there_depth, zq_pq_there_place, zq_pq_there_quota, zq_pq_there_label, zq_pq_there_kind, zq_pe_there]
theorem zq_cpT_kind (src dst : SS) : p_kind (zq_cpT src dst) = zq_cpy (p_kind src) (p_kind dst) (61 : Int32).toNatClampNeg := by
  unfold zq_cpT; rw [zq_pq_kind_made, zq_pq_kind_cells, zq_pq_kind_cellCount, zq_pq_kind_entry, zq_pq_kind_guard, zq_pq_kind_clearance, zq_pq_kind_depth, zq_pq_kind_place, zq_pq_kind_quota, zq_pq_kind_label, zq_pe_kind]
theorem zq_cpT_label (src dst : SS) : p_label (zq_cpT src dst) = zq_cpy (p_label src) (p_label dst) (61 : Int32).toNatClampNeg := by
  unfold zq_cpT; rw [zq_pq_label_made, zq_pq_label_cells, zq_pq_label_cellCount, zq_pq_label_entry, zq_pq_label_guard, zq_pq_label_clearance, zq_pq_label_depth, zq_pq_label_place, zq_pq_label_quota, zq_pe_label]
theorem zq_cpT_quota (src dst : SS) : p_quota (zq_cpT src dst) = zq_cpy (p_quota src) (p_quota dst) (61 : Int32).toNatClampNeg := by
  unfold zq_cpT; rw [zq_pq_quota_made, zq_pq_quota_cells, zq_pq_quota_cellCount, zq_pq_quota_entry, zq_pq_quota_guard, zq_pq_quota_clearance, zq_pq_quota_depth, zq_pq_quota_place, zq_pe_quota]
theorem zq_cpT_place (src dst : SS) : p_place (zq_cpT src dst) = zq_cpy (p_place src) (p_place dst) (61 : Int32).toNatClampNeg := by
  unfold zq_cpT; rw [zq_pq_place_made, zq_pq_place_cells, zq_pq_place_cellCount, zq_pq_place_entry, zq_pq_place_guard, zq_pq_place_clearance, zq_pq_place_depth, zq_pe_place]
theorem zq_cpT_depth (src dst : SS) : p_depth (zq_cpT src dst) = zq_cpy (p_depth src) (p_depth dst) (61 : Int32).toNatClampNeg := by
  unfold zq_cpT; rw [zq_pq_depth_made, zq_pq_depth_cells, zq_pq_depth_cellCount, zq_pq_depth_entry, zq_pq_depth_guard, zq_pq_depth_clearance, zq_pe_depth]
theorem zq_cpT_clearance (src dst : SS) : p_clearance (zq_cpT src dst) = zq_cpy (p_clearance src) (p_clearance dst) (61 : Int32).toNatClampNeg := by
  unfold zq_cpT; rw [zq_pq_clearance_made, zq_pq_clearance_cells, zq_pq_clearance_cellCount, zq_pq_clearance_entry, zq_pq_clearance_guard, zq_pe_clearance]
theorem zq_cpT_guard (src dst : SS) : p_guard (zq_cpT src dst) = zq_cpy (p_guard src) (p_guard dst) (61 : Int32).toNatClampNeg := by
  unfold zq_cpT; rw [zq_pq_guard_made, zq_pq_guard_cells, zq_pq_guard_cellCount, zq_pq_guard_entry, zq_pe_guard]
theorem zq_cpT_entry (src dst : SS) : p_entry (zq_cpT src dst) = zq_cpy (p_entry src) (p_entry dst) (61 : Int32).toNatClampNeg := by
  unfold zq_cpT; rw [zq_pq_entry_made, zq_pq_entry_cells, zq_pq_entry_cellCount, zq_pe_entry]
theorem zq_cpT_cellCount (src dst : SS) : p_cellCount (zq_cpT src dst) = zq_cpy (p_cellCount src) (p_cellCount dst) (61 : Int32).toNatClampNeg := by
  unfold zq_cpT; rw [zq_pq_cellCount_made, zq_pq_cellCount_cells, zq_pe_cellCount]
theorem zq_cpT_cells (src dst : SS) : p_cells (zq_cpT src dst) = zq_cpy (p_cells src) (p_cells dst) (488 : Int32).toNatClampNeg := by
  unfold zq_cpT; rw [zq_pq_cells_made, zq_pe_cells]
theorem zq_cpT_made (src dst : SS) : p_made (zq_cpT src dst) = p_made src := by
  unfold zq_cpT; rw [zq_pe_made]
theorem zq_cpT_uthere (src dst : SS) : p_uthere (zq_cpT src dst) = p_uthere dst := by
  unfold zq_cpT; rw [zq_pq_uthere_made, zq_pq_uthere_cells, zq_pq_uthere_cellCount, zq_pq_uthere_entry, zq_pq_uthere_guard, zq_pq_uthere_clearance, zq_pq_uthere_depth, zq_pq_uthere_place, zq_pq_uthere_quota, zq_pq_uthere_label, zq_pq_uthere_kind, zq_pq_uthere_there]
theorem zq_cpT_password (src dst : SS) : p_password (zq_cpT src dst) = p_password dst := by
  unfold zq_cpT; rw [zq_pq_password_made, zq_pq_password_cells, zq_pq_password_cellCount, zq_pq_password_entry, zq_pq_password_guard, zq_pq_password_clearance, zq_pq_password_depth, zq_pq_password_place, zq_pq_password_quota, zq_pq_password_label, zq_pq_password_kind, zq_pq_password_there]
theorem zq_cpT_firstCategory (src dst : SS) : p_firstCategory (zq_cpT src dst) = p_firstCategory dst := by
  unfold zq_cpT; rw [zq_pq_firstCategory_made, zq_pq_firstCategory_cells, zq_pq_firstCategory_cellCount, zq_pq_firstCategory_entry, zq_pq_firstCategory_guard, zq_pq_firstCategory_clearance, zq_pq_firstCategory_depth, zq_pq_firstCategory_place, zq_pq_firstCategory_quota, zq_pq_firstCategory_label, zq_pq_firstCategory_kind, zq_pq_firstCategory_there]
theorem zq_cpT_secondCategory (src dst : SS) : p_secondCategory (zq_cpT src dst) = p_secondCategory dst := by
  unfold zq_cpT; rw [zq_pq_secondCategory_made, zq_pq_secondCategory_cells, zq_pq_secondCategory_cellCount, zq_pq_secondCategory_entry, zq_pq_secondCategory_guard, zq_pq_secondCategory_clearance, zq_pq_secondCategory_depth, zq_pq_secondCategory_place, zq_pq_secondCategory_quota, zq_pq_secondCategory_label, zq_pq_secondCategory_kind, zq_pq_secondCategory_there]
theorem zq_cpT_home (src dst : SS) : p_home (zq_cpT src dst) = p_home dst := by
  unfold zq_cpT; rw [zq_pq_home_made, zq_pq_home_cells, zq_pq_home_cellCount, zq_pq_home_entry, zq_pq_home_guard, zq_pq_home_clearance, zq_pq_home_depth, zq_pq_home_place, zq_pq_home_quota, zq_pq_home_label, zq_pq_home_kind, zq_pq_home_there]
theorem zq_cpT_directory (src dst : SS) : p_directory (zq_cpT src dst) = p_directory dst := by
  unfold zq_cpT; rw [zq_pq_directory_made, zq_pq_directory_cells, zq_pq_directory_cellCount, zq_pq_directory_entry, zq_pq_directory_guard, zq_pq_directory_clearance, zq_pq_directory_depth, zq_pq_directory_place, zq_pq_directory_quota, zq_pq_directory_label, zq_pq_directory_kind, zq_pq_directory_there]
theorem zq_cpT_gate (src dst : SS) : p_gate (zq_cpT src dst) = p_gate dst := by
  unfold zq_cpT; rw [zq_pq_gate_made, zq_pq_gate_cells, zq_pq_gate_cellCount, zq_pq_gate_entry, zq_pq_gate_guard, zq_pq_gate_clearance, zq_pq_gate_depth, zq_pq_gate_place, zq_pq_gate_quota, zq_pq_gate_label, zq_pq_gate_kind, zq_pq_gate_there]
theorem zq_cpT_categories (src dst : SS) : p_categories (zq_cpT src dst) = p_categories dst := by
  unfold zq_cpT; rw [zq_pq_categories_made, zq_pq_categories_cells, zq_pq_categories_cellCount, zq_pq_categories_entry, zq_pq_categories_guard, zq_pq_categories_clearance, zq_pq_categories_depth, zq_pq_categories_place, zq_pq_categories_quota, zq_pq_categories_label, zq_pq_categories_kind, zq_pq_categories_there]
def zq_cpU (src dst : SS) : SS := q_gate (q_directory (q_home (q_secondCategory (q_firstCategory (q_password (q_uthere dst (zq_cpy (p_uthere src) (p_uthere dst) (4 : Int32).toNatClampNeg)) (zq_cpy (p_password src) (p_password dst) (4 : Int32).toNatClampNeg)) (zq_cpy (p_firstCategory src) (p_firstCategory dst) (4 : Int32).toNatClampNeg)) (zq_cpy (p_secondCategory src) (p_secondCategory dst) (4 : Int32).toNatClampNeg)) (zq_cpy (p_home src) (p_home dst) (4 : Int32).toNatClampNeg)) (zq_cpy (p_directory src) (p_directory dst) (4 : Int32).toNatClampNeg)) (zq_cpy (p_gate src) (p_gate dst) (4 : Int32).toNatClampNeg)
theorem zq_cpU_packed (src dst : SS) : p_packed (zq_cpU src dst) = p_packed dst := by
  unfold zq_cpU; rw [zq_pq_packed_gate, zq_pq_packed_directory, zq_pq_packed_home, zq_pq_packed_secondCategory, zq_pq_packed_firstCategory, zq_pq_packed_password, zq_pq_packed_uthere]
theorem zq_cpU_size (src dst : SS) : p_size (zq_cpU src dst) = p_size dst := by
  unfold zq_cpU; rw [zq_pq_size_gate, zq_pq_size_directory, zq_pq_size_home, zq_pq_size_secondCategory, zq_pq_size_firstCategory, zq_pq_size_password, zq_pq_size_uthere]
theorem zq_cpU_there (src dst : SS) : p_there (zq_cpU src dst) = p_there dst := by
  unfold zq_cpU; rw [zq_pq_there_gate, zq_pq_there_directory, zq_pq_there_home, zq_pq_there_secondCategory, zq_pq_there_firstCategory, zq_pq_there_password, zq_pq_there_uthere]
theorem zq_cpU_kind (src dst : SS) : p_kind (zq_cpU src dst) = p_kind dst := by
  unfold zq_cpU; rw [zq_pq_kind_gate, zq_pq_kind_directory, zq_pq_kind_home, zq_pq_kind_secondCategory, zq_pq_kind_firstCategory, zq_pq_kind_password, zq_pq_kind_uthere]
theorem zq_cpU_label (src dst : SS) : p_label (zq_cpU src dst) = p_label dst := by
  unfold zq_cpU; rw [zq_pq_label_gate, zq_pq_label_directory, zq_pq_label_home, zq_pq_label_secondCategory, zq_pq_label_firstCategory, zq_pq_label_password, zq_pq_label_uthere]
theorem zq_cpU_quota (src dst : SS) : p_quota (zq_cpU src dst) = p_quota dst := by
  unfold zq_cpU; rw [zq_pq_quota_gate, zq_pq_quota_directory, zq_pq_quota_home, zq_pq_quota_secondCategory, zq_pq_quota_firstCategory, zq_pq_quota_password, zq_pq_quota_uthere]
theorem zq_cpU_place (src dst : SS) : p_place (zq_cpU src dst) = p_place dst := by
  unfold zq_cpU; rw [zq_pq_place_gate, zq_pq_place_directory, zq_pq_place_home, zq_pq_place_secondCategory, zq_pq_place_firstCategory, zq_pq_place_password, zq_pq_place_uthere]
theorem zq_cpU_depth (src dst : SS) : p_depth (zq_cpU src dst) = p_depth dst := by
  unfold zq_cpU; rw [zq_pq_depth_gate, zq_pq_depth_directory, zq_pq_depth_home, zq_pq_depth_secondCategory, zq_pq_depth_firstCategory, zq_pq_depth_password, zq_pq_depth_uthere]
theorem zq_cpU_clearance (src dst : SS) : p_clearance (zq_cpU src dst) = p_clearance dst := by
  unfold zq_cpU; rw [zq_pq_clearance_gate, zq_pq_clearance_directory, zq_pq_clearance_home, zq_pq_clearance_secondCategory, zq_pq_clearance_firstCategory, zq_pq_clearance_password, zq_pq_clearance_uthere]
theorem zq_cpU_guard (src dst : SS) : p_guard (zq_cpU src dst) = p_guard dst := by
  unfold zq_cpU; rw [zq_pq_guard_gate, zq_pq_guard_directory, zq_pq_guard_home, zq_pq_guard_secondCategory, zq_pq_guard_firstCategory, zq_pq_guard_password, zq_pq_guard_uthere]
theorem zq_cpU_entry (src dst : SS) : p_entry (zq_cpU src dst) = p_entry dst := by
  unfold zq_cpU; rw [zq_pq_entry_gate, zq_pq_entry_directory, zq_pq_entry_home, zq_pq_entry_secondCategory, zq_pq_entry_firstCategory, zq_pq_entry_password, zq_pq_entry_uthere]
theorem zq_cpU_cellCount (src dst : SS) : p_cellCount (zq_cpU src dst) = p_cellCount dst := by
  unfold zq_cpU; rw [zq_pq_cellCount_gate, zq_pq_cellCount_directory, zq_pq_cellCount_home, zq_pq_cellCount_secondCategory, zq_pq_cellCount_firstCategory, zq_pq_cellCount_password, zq_pq_cellCount_uthere]
theorem zq_cpU_cells (src dst : SS) : p_cells (zq_cpU src dst) = p_cells dst := by
  unfold zq_cpU; rw [zq_pq_cells_gate, zq_pq_cells_directory, zq_pq_cells_home, zq_pq_cells_secondCategory, zq_pq_cells_firstCategory, zq_pq_cells_password, zq_pq_cells_uthere]
theorem zq_cpU_made (src dst : SS) : p_made (zq_cpU src dst) = p_made dst := by
  unfold zq_cpU; rw [zq_pq_made_gate, zq_pq_made_directory, zq_pq_made_home, zq_pq_made_secondCategory, zq_pq_made_firstCategory, zq_pq_made_password, zq_pq_made_uthere]
theorem zq_cpU_uthere (src dst : SS) : p_uthere (zq_cpU src dst) = zq_cpy (p_uthere src) (p_uthere dst) (4 : Int32).toNatClampNeg := by
  unfold zq_cpU; rw [zq_pq_uthere_gate, zq_pq_uthere_directory, zq_pq_uthere_home, zq_pq_uthere_secondCategory, zq_pq_uthere_firstCategory, zq_pq_uthere_password, zq_pe_uthere]
theorem zq_cpU_password (src dst : SS) : p_password (zq_cpU src dst) = zq_cpy (p_password src) (p_password dst) (4 : Int32).toNatClampNeg := by
  unfold zq_cpU; rw [zq_pq_password_gate, zq_pq_password_directory, zq_pq_password_home, zq_pq_password_secondCategory, zq_pq_password_firstCategory, zq_pe_password]
theorem zq_cpU_firstCategory (src dst : SS) : p_firstCategory (zq_cpU src dst) = zq_cpy (p_firstCategory src) (p_firstCategory dst) (4 : Int32).toNatClampNeg := by
  unfold zq_cpU; rw [zq_pq_firstCategory_gate, zq_pq_firstCategory_directory, zq_pq_firstCategory_home, zq_pq_firstCategory_secondCategory, zq_pe_firstCategory]
theorem zq_cpU_secondCategory (src dst : SS) : p_secondCategory (zq_cpU src dst) = zq_cpy (p_secondCategory src) (p_secondCategory dst) (4 : Int32).toNatClampNeg := by
  unfold zq_cpU; rw [zq_pq_secondCategory_gate, zq_pq_secondCategory_directory, zq_pq_secondCategory_home, zq_pe_secondCategory]
theorem zq_cpU_home (src dst : SS) : p_home (zq_cpU src dst) = zq_cpy (p_home src) (p_home dst) (4 : Int32).toNatClampNeg := by
  unfold zq_cpU; rw [zq_pq_home_gate, zq_pq_home_directory, zq_pe_home]
theorem zq_cpU_directory (src dst : SS) : p_directory (zq_cpU src dst) = zq_cpy (p_directory src) (p_directory dst) (4 : Int32).toNatClampNeg := by
  unfold zq_cpU; rw [zq_pq_directory_gate, zq_pe_directory]
theorem zq_cpU_gate (src dst : SS) : p_gate (zq_cpU src dst) = zq_cpy (p_gate src) (p_gate dst) (4 : Int32).toNatClampNeg := by
  unfold zq_cpU; rw [zq_pe_gate]
theorem zq_cpU_categories (src dst : SS) : p_categories (zq_cpU src dst) = p_categories dst := by
  unfold zq_cpU; rw [zq_pq_categories_gate, zq_pq_categories_directory, zq_pq_categories_home, zq_pq_categories_secondCategory, zq_pq_categories_firstCategory, zq_pq_categories_password, zq_pq_categories_uthere]
theorem zq_tk_Lb_0 (σ : KS) : f_Lb_takeFrom_25_2 σ = some (σ.1, zq_cpL σ.1 σ.2) := by
  unfold f_Lb_takeFrom_25_2
  simp only [zl, sK_packed, sK_size, gN_packed, gK_packed, gN_size, gK_size, zq_cpL, zq_cpy, zq_pq_size_packed, Option.some.injEq]
theorem zq_tk_Lb_1 (σ : KS) : f_Lb_takeFrom_2_25 σ = some (zq_cpL σ.2 σ.1, σ.2) := by
  unfold f_Lb_takeFrom_2_25
  simp only [zl, sN_packed, sN_size, gN_packed, gK_packed, gN_size, gK_size, zq_cpL, zq_cpy, zq_pq_size_packed, Option.some.injEq]
theorem zq_tk_Tg_0 (σ : KS) (hb : ∀ i, i < (61 : Int32).toNatClampNeg → fits .boolean (.int (gN_there σ ((0 : Int32).toNatClampNeg + i))) = true) : f_Tg_takeFrom_27_4 σ = some (σ.1, zq_cpT σ.1 σ.2) := by
  unfold f_Tg_takeFrom_27_4
  rw [if_pos hb]
  simp only [zl, sK_there, sK_kind, sK_label, sK_quota, sK_place, sK_depth, sK_clearance, sK_guard, sK_entry, sK_cellCount, sK_cells, sK_made, gN_there, gK_there, gN_kind, gK_kind, gN_label, gK_label, gN_quota, gK_quota, gN_place, gK_place, gN_depth, gK_depth, gN_clearance, gK_clearance, gN_guard, gK_guard, gN_entry, gK_entry, gN_cellCount, gK_cellCount, gN_cells, gK_cells, gN_made, gK_made, zq_cpT, zq_cpy, zq_pq_kind_there, zq_pq_label_there, zq_pq_label_kind, zq_pq_quota_there, zq_pq_quota_kind, zq_pq_quota_label, zq_pq_place_there, zq_pq_place_kind, zq_pq_place_label, zq_pq_place_quota, zq_pq_depth_there, zq_pq_depth_kind, zq_pq_depth_label, zq_pq_depth_quota, zq_pq_depth_place, zq_pq_clearance_there, zq_pq_clearance_kind, zq_pq_clearance_label, zq_pq_clearance_quota, zq_pq_clearance_place, zq_pq_clearance_depth, zq_pq_guard_there, zq_pq_guard_kind, zq_pq_guard_label, zq_pq_guard_quota, zq_pq_guard_place, zq_pq_guard_depth, zq_pq_guard_clearance, zq_pq_entry_there, zq_pq_entry_kind, zq_pq_entry_label, zq_pq_entry_quota, zq_pq_entry_place, zq_pq_entry_depth, zq_pq_entry_clearance, zq_pq_entry_guard, zq_pq_cellCount_there, zq_pq_cellCount_kind, zq_pq_cellCount_label, zq_pq_cellCount_quota, zq_pq_cellCount_place, zq_pq_cellCount_depth, zq_pq_cellCount_clearance, zq_pq_cellCount_guard, zq_pq_cellCount_entry, zq_pq_cells_there, zq_pq_cells_kind, zq_pq_cells_label, zq_pq_cells_quota, zq_pq_cells_place, zq_pq_cells_depth, zq_pq_cells_clearance, zq_pq_cells_guard, zq_pq_cells_entry, zq_pq_cells_cellCount, zq_pq_made_there, zq_pq_made_kind, zq_pq_made_label, zq_pq_made_quota, zq_pq_made_place, zq_pq_made_depth, zq_pq_made_clearance, zq_pq_made_guard, zq_pq_made_entry, zq_pq_made_cellCount, zq_pq_made_cells, Option.some.injEq]
theorem zq_tk_Tg_1 (σ : KS) (hb : ∀ i, i < (61 : Int32).toNatClampNeg → fits .boolean (.int (gK_there σ ((0 : Int32).toNatClampNeg + i))) = true) : f_Tg_takeFrom_4_27 σ = some (zq_cpT σ.2 σ.1, σ.2) := by
  unfold f_Tg_takeFrom_4_27
  rw [if_pos hb]
  simp only [zl, sN_there, sN_kind, sN_label, sN_quota, sN_place, sN_depth, sN_clearance, sN_guard, sN_entry, sN_cellCount, sN_cells, sN_made, gN_there, gK_there, gN_kind, gK_kind, gN_label, gK_label, gN_quota, gK_quota, gN_place, gK_place, gN_depth, gK_depth, gN_clearance, gK_clearance, gN_guard, gK_guard, gN_entry, gK_entry, gN_cellCount, gK_cellCount, gN_cells, gK_cells, gN_made, gK_made, zq_cpT, zq_cpy, zq_pq_kind_there, zq_pq_label_there, zq_pq_label_kind, zq_pq_quota_there, zq_pq_quota_kind, zq_pq_quota_label, zq_pq_place_there, zq_pq_place_kind, zq_pq_place_label, zq_pq_place_quota, zq_pq_depth_there, zq_pq_depth_kind, zq_pq_depth_label, zq_pq_depth_quota, zq_pq_depth_place, zq_pq_clearance_there, zq_pq_clearance_kind, zq_pq_clearance_label, zq_pq_clearance_quota, zq_pq_clearance_place, zq_pq_clearance_depth, zq_pq_guard_there, zq_pq_guard_kind, zq_pq_guard_label, zq_pq_guard_quota, zq_pq_guard_place, zq_pq_guard_depth, zq_pq_guard_clearance, zq_pq_entry_there, zq_pq_entry_kind, zq_pq_entry_label, zq_pq_entry_quota, zq_pq_entry_place, zq_pq_entry_depth, zq_pq_entry_clearance, zq_pq_entry_guard, zq_pq_cellCount_there, zq_pq_cellCount_kind, zq_pq_cellCount_label, zq_pq_cellCount_quota, zq_pq_cellCount_place, zq_pq_cellCount_depth, zq_pq_cellCount_clearance, zq_pq_cellCount_guard, zq_pq_cellCount_entry, zq_pq_cells_there, zq_pq_cells_kind, zq_pq_cells_label, zq_pq_cells_quota, zq_pq_cells_place, zq_pq_cells_depth, zq_pq_cells_clearance, zq_pq_cells_guard, zq_pq_cells_entry, zq_pq_cells_cellCount, zq_pq_made_there, zq_pq_made_kind, zq_pq_made_label, zq_pq_made_quota, zq_pq_made_place, zq_pq_made_depth, zq_pq_made_clearance, zq_pq_made_guard, zq_pq_made_entry, zq_pq_made_cellCount, zq_pq_made_cells, Option.some.injEq]
theorem zq_tk_Us_0 (σ : KS) (hb : ∀ i, i < (4 : Int32).toNatClampNeg → fits .boolean (.int (gN_uthere σ ((0 : Int32).toNatClampNeg + i))) = true) : f_Us_takeFrom_39_16 σ = some (σ.1, zq_cpU σ.1 σ.2) := by
  unfold f_Us_takeFrom_39_16
  rw [if_pos hb]
  simp only [zl, sK_uthere, sK_password, sK_firstCategory, sK_secondCategory, sK_home, sK_directory, sK_gate, gN_uthere, gK_uthere, gN_password, gK_password, gN_firstCategory, gK_firstCategory, gN_secondCategory, gK_secondCategory, gN_home, gK_home, gN_directory, gK_directory, gN_gate, gK_gate, zq_cpU, zq_cpy, zq_pq_password_uthere, zq_pq_firstCategory_uthere, zq_pq_firstCategory_password, zq_pq_secondCategory_uthere, zq_pq_secondCategory_password, zq_pq_secondCategory_firstCategory, zq_pq_home_uthere, zq_pq_home_password, zq_pq_home_firstCategory, zq_pq_home_secondCategory, zq_pq_directory_uthere, zq_pq_directory_password, zq_pq_directory_firstCategory, zq_pq_directory_secondCategory, zq_pq_directory_home, zq_pq_gate_uthere, zq_pq_gate_password, zq_pq_gate_firstCategory, zq_pq_gate_secondCategory, zq_pq_gate_home, zq_pq_gate_directory, Option.some.injEq]
theorem zq_tk_Us_1 (σ : KS) (hb : ∀ i, i < (4 : Int32).toNatClampNeg → fits .boolean (.int (gK_uthere σ ((0 : Int32).toNatClampNeg + i))) = true) : f_Us_takeFrom_16_39 σ = some (zq_cpU σ.2 σ.1, σ.2) := by
  unfold f_Us_takeFrom_16_39
  rw [if_pos hb]
  simp only [zl, sN_uthere, sN_password, sN_firstCategory, sN_secondCategory, sN_home, sN_directory, sN_gate, gN_uthere, gK_uthere, gN_password, gK_password, gN_firstCategory, gK_firstCategory, gN_secondCategory, gK_secondCategory, gN_home, gK_home, gN_directory, gK_directory, gN_gate, gK_gate, zq_cpU, zq_cpy, zq_pq_password_uthere, zq_pq_firstCategory_uthere, zq_pq_firstCategory_password, zq_pq_secondCategory_uthere, zq_pq_secondCategory_password, zq_pq_secondCategory_firstCategory, zq_pq_home_uthere, zq_pq_home_password, zq_pq_home_firstCategory, zq_pq_home_secondCategory, zq_pq_directory_uthere, zq_pq_directory_password, zq_pq_directory_firstCategory, zq_pq_directory_secondCategory, zq_pq_directory_home, zq_pq_gate_uthere, zq_pq_gate_password, zq_pq_gate_firstCategory, zq_pq_gate_secondCategory, zq_pq_gate_home, zq_pq_gate_directory, Option.some.injEq]
theorem zq_Rel_ext {s m g : Nat} {σ τ : SS} {row row' : Nat → Int32} (h : zq_Rel s m g σ row) (hr : ∀ j, j < 1552 → row' j = row j) (e1 : p_size τ = p_size σ) (e2 : p_made τ = p_made σ) (e3 : p_categories τ = p_categories σ)
    (e4 : ∀ k, k < 60 → p_packed τ k = p_packed σ k) (eT : ∀ o, o ≤ 60 → zq_TEq σ τ o) (eU : ∀ u, u < 4 → p_uthere τ u = p_uthere σ u ∧ p_password τ u = p_password σ u ∧ p_firstCategory τ u = p_firstCategory σ u ∧ p_secondCategory τ u = p_secondCategory σ u ∧ p_home τ u = p_home σ u ∧ p_directory τ u = p_directory σ u ∧ p_gate τ u = p_gate σ u) : zq_Rel s m g τ row' := by
  obtain ⟨⟨a1, a2, a3, a4, a5⟩, ⟨b1, b2⟩, ⟨c1, c2⟩, ⟨d1, d2⟩, hL, hO, hN, hU⟩ := h
  refine ⟨⟨a1, a2, a3, a4, a5⟩, ⟨e1.trans b1, ?_⟩, ⟨e2.trans c1, ?_⟩, ⟨e3.trans d1, ?_⟩, ?_, ?_, ?_, ?_⟩
  · rw [hr _ (by omega)]; exact b2
  · rw [hr _ (by omega)]; exact c2
  · rw [hr _ (by omega)]; exact d2
  · intro l hl c hc
    rw [hr _ (by omega), e4 l (by omega)]; exact hL l hl c hc
  · intro o h1 h2
    exact zq_ROb_of (Nat.le_refl s) (fun j hj => hr _ (by omega)) (eT o (by omega)) (hO o h1 h2)
  · intro o h1 h2
    obtain ⟨t1, -, -, -, -, -, -, -, -, t10, t11⟩ := eT o h2
    obtain ⟨n1, n2, n3⟩ := hN o h1 h2
    exact ⟨t1.trans n1, t10.trans n2, fun i hi => (t11 i hi).trans (n3 i hi)⟩
  · intro u hu
    obtain ⟨u1, u2, u3, u4, u5, u6, u7⟩ := eU u hu
    unfold zq_RUs
    rw [u1, u2, u3, u4, u5, u6, u7, hr (1517 + 8 * u) (by omega), hr (1517 + 8 * u + 1) (by omega), hr (1517 + 8 * u + 2) (by omega), hr (1517 + 8 * u + 3) (by omega), hr (1517 + 8 * u + 4) (by omega), hr (1517 + 8 * u + 5) (by omega), hr (1517 + 8 * u + 6) (by omega)]
    exact hU u hu
def zq_cpA (src dst : SS) : SS := q_categories (zq_cpU src (zq_cpT src (zq_cpL src dst))) (p_categories src)
theorem zq_cpA_packed (src dst : SS) {k : Nat} (h : k < 60) : p_packed (zq_cpA src dst) k = p_packed src k := by
  unfold zq_cpA; rw [zq_pq_packed_categories, zq_cpU_packed, zq_cpT_packed, zq_cpL_packed]; exact zq_cpy_lt (by rw [show (60 : Int32).toNatClampNeg = 60 from zq_zp_cl 60 (by omega)]; exact h)
theorem zq_cpA_size (src dst : SS) : p_size (zq_cpA src dst) = p_size src := by
  unfold zq_cpA; rw [zq_pq_size_categories, zq_cpU_size, zq_cpT_size, zq_cpL_size]
theorem zq_cpA_there (src dst : SS) {k : Nat} (h : k < 61) : p_there (zq_cpA src dst) k = p_there src k := by
  unfold zq_cpA; rw [zq_pq_there_categories, zq_cpU_there, zq_cpT_there]; exact zq_cpy_lt (by rw [show (61 : Int32).toNatClampNeg = 61 from zq_zp_cl 61 (by omega)]; exact h)
theorem zq_cpA_kind (src dst : SS) {k : Nat} (h : k < 61) : p_kind (zq_cpA src dst) k = p_kind src k := by
  unfold zq_cpA; rw [zq_pq_kind_categories, zq_cpU_kind, zq_cpT_kind]; exact zq_cpy_lt (by rw [show (61 : Int32).toNatClampNeg = 61 from zq_zp_cl 61 (by omega)]; exact h)
theorem zq_cpA_label (src dst : SS) {k : Nat} (h : k < 61) : p_label (zq_cpA src dst) k = p_label src k := by
  unfold zq_cpA; rw [zq_pq_label_categories, zq_cpU_label, zq_cpT_label]; exact zq_cpy_lt (by rw [show (61 : Int32).toNatClampNeg = 61 from zq_zp_cl 61 (by omega)]; exact h)
theorem zq_cpA_quota (src dst : SS) {k : Nat} (h : k < 61) : p_quota (zq_cpA src dst) k = p_quota src k := by
  unfold zq_cpA; rw [zq_pq_quota_categories, zq_cpU_quota, zq_cpT_quota]; exact zq_cpy_lt (by rw [show (61 : Int32).toNatClampNeg = 61 from zq_zp_cl 61 (by omega)]; exact h)
theorem zq_cpA_place (src dst : SS) {k : Nat} (h : k < 61) : p_place (zq_cpA src dst) k = p_place src k := by
  unfold zq_cpA; rw [zq_pq_place_categories, zq_cpU_place, zq_cpT_place]; exact zq_cpy_lt (by rw [show (61 : Int32).toNatClampNeg = 61 from zq_zp_cl 61 (by omega)]; exact h)
theorem zq_cpA_depth (src dst : SS) {k : Nat} (h : k < 61) : p_depth (zq_cpA src dst) k = p_depth src k := by
  unfold zq_cpA; rw [zq_pq_depth_categories, zq_cpU_depth, zq_cpT_depth]; exact zq_cpy_lt (by rw [show (61 : Int32).toNatClampNeg = 61 from zq_zp_cl 61 (by omega)]; exact h)
theorem zq_cpA_clearance (src dst : SS) {k : Nat} (h : k < 61) : p_clearance (zq_cpA src dst) k = p_clearance src k := by
  unfold zq_cpA; rw [zq_pq_clearance_categories, zq_cpU_clearance, zq_cpT_clearance]; exact zq_cpy_lt (by rw [show (61 : Int32).toNatClampNeg = 61 from zq_zp_cl 61 (by omega)]; exact h)
theorem zq_cpA_guard (src dst : SS) {k : Nat} (h : k < 61) : p_guard (zq_cpA src dst) k = p_guard src k := by
  unfold zq_cpA; rw [zq_pq_guard_categories, zq_cpU_guard, zq_cpT_guard]; exact zq_cpy_lt (by rw [show (61 : Int32).toNatClampNeg = 61 from zq_zp_cl 61 (by omega)]; exact h)
theorem zq_cpA_entry (src dst : SS) {k : Nat} (h : k < 61) : p_entry (zq_cpA src dst) k = p_entry src k := by
  unfold zq_cpA; rw [zq_pq_entry_categories, zq_cpU_entry, zq_cpT_entry]; exact zq_cpy_lt (by rw [show (61 : Int32).toNatClampNeg = 61 from zq_zp_cl 61 (by omega)]; exact h)
theorem zq_cpA_cellCount (src dst : SS) {k : Nat} (h : k < 61) : p_cellCount (zq_cpA src dst) k = p_cellCount src k := by
  unfold zq_cpA; rw [zq_pq_cellCount_categories, zq_cpU_cellCount, zq_cpT_cellCount]; exact zq_cpy_lt (by rw [show (61 : Int32).toNatClampNeg = 61 from zq_zp_cl 61 (by omega)]; exact h)
theorem zq_cpA_cells (src dst : SS) {k : Nat} (h : k < 488) : p_cells (zq_cpA src dst) k = p_cells src k := by
  unfold zq_cpA; rw [zq_pq_cells_categories, zq_cpU_cells, zq_cpT_cells]; exact zq_cpy_lt (by rw [show (488 : Int32).toNatClampNeg = 488 from zq_zp_cl 488 (by omega)]; exact h)
theorem zq_cpA_made (src dst : SS) : p_made (zq_cpA src dst) = p_made src := by
  unfold zq_cpA; rw [zq_pq_made_categories, zq_cpU_made, zq_cpT_made]
theorem zq_cpA_uthere (src dst : SS) {k : Nat} (h : k < 4) : p_uthere (zq_cpA src dst) k = p_uthere src k := by
  unfold zq_cpA; rw [zq_pq_uthere_categories, zq_cpU_uthere]; exact zq_cpy_lt (by rw [show (4 : Int32).toNatClampNeg = 4 from zq_zp_cl 4 (by omega)]; exact h)
theorem zq_cpA_password (src dst : SS) {k : Nat} (h : k < 4) : p_password (zq_cpA src dst) k = p_password src k := by
  unfold zq_cpA; rw [zq_pq_password_categories, zq_cpU_password]; exact zq_cpy_lt (by rw [show (4 : Int32).toNatClampNeg = 4 from zq_zp_cl 4 (by omega)]; exact h)
theorem zq_cpA_firstCategory (src dst : SS) {k : Nat} (h : k < 4) : p_firstCategory (zq_cpA src dst) k = p_firstCategory src k := by
  unfold zq_cpA; rw [zq_pq_firstCategory_categories, zq_cpU_firstCategory]; exact zq_cpy_lt (by rw [show (4 : Int32).toNatClampNeg = 4 from zq_zp_cl 4 (by omega)]; exact h)
theorem zq_cpA_secondCategory (src dst : SS) {k : Nat} (h : k < 4) : p_secondCategory (zq_cpA src dst) k = p_secondCategory src k := by
  unfold zq_cpA; rw [zq_pq_secondCategory_categories, zq_cpU_secondCategory]; exact zq_cpy_lt (by rw [show (4 : Int32).toNatClampNeg = 4 from zq_zp_cl 4 (by omega)]; exact h)
theorem zq_cpA_home (src dst : SS) {k : Nat} (h : k < 4) : p_home (zq_cpA src dst) k = p_home src k := by
  unfold zq_cpA; rw [zq_pq_home_categories, zq_cpU_home]; exact zq_cpy_lt (by rw [show (4 : Int32).toNatClampNeg = 4 from zq_zp_cl 4 (by omega)]; exact h)
theorem zq_cpA_directory (src dst : SS) {k : Nat} (h : k < 4) : p_directory (zq_cpA src dst) k = p_directory src k := by
  unfold zq_cpA; rw [zq_pq_directory_categories, zq_cpU_directory]; exact zq_cpy_lt (by rw [show (4 : Int32).toNatClampNeg = 4 from zq_zp_cl 4 (by omega)]; exact h)
theorem zq_cpA_gate (src dst : SS) {k : Nat} (h : k < 4) : p_gate (zq_cpA src dst) k = p_gate src k := by
  unfold zq_cpA; rw [zq_pq_gate_categories, zq_cpU_gate]; exact zq_cpy_lt (by rw [show (4 : Int32).toNatClampNeg = 4 from zq_zp_cl 4 (by omega)]; exact h)
theorem zq_cpA_categories (src dst : SS) : p_categories (zq_cpA src dst) = p_categories src := by
  unfold zq_cpA; rw [zq_pe_categories]
theorem zq_Rel_cpA {s m g : Nat} {src dst : SS} {row row' : Nat → Int32} (h : zq_Rel s m g src row) (hr : ∀ j, j < 1552 → row' j = row j) : zq_Rel s m g (zq_cpA src dst) row' := by
  refine zq_Rel_ext h hr (zq_cpA_size _ _) (zq_cpA_made _ _) (zq_cpA_categories _ _) (fun k hk => zq_cpA_packed _ _ hk) (fun o ho => ?_) (fun u hu => ?_)
  · have h61 : o < 61 := by omega
    exact ⟨zq_cpA_there _ _ h61, zq_cpA_kind _ _ h61, zq_cpA_label _ _ h61, zq_cpA_quota _ _ h61, zq_cpA_place _ _ h61, fun d hd => zq_cpA_depth _ _ (by omega), zq_cpA_clearance _ _ h61, zq_cpA_guard _ _ h61, zq_cpA_entry _ _ h61, zq_cpA_cellCount _ _ h61, fun i hi => zq_cpA_cells _ _ (by omega)⟩
  · exact ⟨zq_cpA_uthere _ _ hu, zq_cpA_password _ _ hu, zq_cpA_firstCategory _ _ hu, zq_cpA_secondCategory _ _ hu, zq_cpA_home _ _ hu, zq_cpA_directory _ _ hu, zq_cpA_gate _ _ hu⟩
theorem zq_zp_fit {x : Int32} (h : x = 0 ∨ x = 1) : fits .boolean (.int x) = true := by
  rcases h with rfl | rfl <;> rfl
theorem zq_zp_bits {s m g : Nat} {σ : SS} {row : Nat → Int32} (h : zq_Rel s m g σ row) {i : Nat} (hi : i < 61) : p_there σ i = 0 ∨ p_there σ i = 1 := by
  by_cases h0 : i = 0 ∨ m < i
  · exact Or.inl (h.2.2.2.2.2.2.1 i h0 (by omega)).1
  · obtain ⟨t1, t2⟩ := (h.ob (o := i) (by omega) (by omega)).1
    rw [t1]; exact t2
theorem zq_zp_ubits {s m g : Nat} {σ : SS} {row : Nat → Int32} (h : zq_Rel s m g σ row) {i : Nat} (hi : i < 4) : p_uthere σ i = 0 ∨ p_uthere σ i = 1 := by
  obtain ⟨⟨t1, t2⟩, -⟩ := h.us hi
  rw [t1]; exact t2
theorem zq_tk_0 {s m g : Nat} {σ : KS} {row : Nat → Int32} (h : zq_Rel s m g σ.1 row) : f_Sn_takeFrom_24_1 σ = some (σ.1, zq_cpA σ.1 σ.2) := by
  have e0 : (0 : Int32).toNatClampNeg = 0 := zq_zp_cl 0 (by omega)
  have e61 : (61 : Int32).toNatClampNeg = 61 := zq_zp_cl 61 (by omega)
  have e4 : (4 : Int32).toNatClampNeg = 4 := zq_zp_cl 4 (by omega)
  unfold f_Sn_takeFrom_24_1
  rw [zq_tk_Lb_0, Option.bind_some, zq_tk_Tg_0, Option.bind_some, zq_tk_Us_0, Option.bind_some]
  · rfl
  · intro i hi
    rw [e0, Nat.zero_add]; rw [e4] at hi
    exact zq_zp_fit (zq_zp_ubits h hi)
  · intro i hi
    rw [e0, Nat.zero_add]; rw [e61] at hi
    exact zq_zp_fit (zq_zp_bits h hi)
theorem zq_tk_1 {s m g : Nat} {σ : KS} {row : Nat → Int32} (h : zq_Rel s m g σ.2 row) : f_Sn_takeFrom_1_24 σ = some (zq_cpA σ.2 σ.1, σ.2) := by
  have e0 : (0 : Int32).toNatClampNeg = 0 := zq_zp_cl 0 (by omega)
  have e61 : (61 : Int32).toNatClampNeg = 61 := zq_zp_cl 61 (by omega)
  have e4 : (4 : Int32).toNatClampNeg = 4 := zq_zp_cl 4 (by omega)
  unfold f_Sn_takeFrom_1_24
  rw [zq_tk_Lb_1, Option.bind_some, zq_tk_Tg_1, Option.bind_some, zq_tk_Us_1, Option.bind_some]
  · rfl
  · intro i hi
    rw [e0, Nat.zero_add]; rw [e4] at hi
    exact zq_zp_fit (zq_zp_ubits h hi)
  · intro i hi
    rw [e0, Nat.zero_add]; rw [e61] at hi
    exact zq_zp_fit (zq_zp_bits h hi)
def zq_rwK (src dst : Nat → Int32) (d : Nat) : Nat → Int32 := fun j => if j < d then src j else dst j
theorem zq_rwK_step {src dst : Nat → Int32} {d : Nat} : upd (zq_rwK src dst d) d (src d) = zq_rwK src dst (d + 1) := by
  funext j
  unfold upd zq_rwK
  by_cases h : j = d
  · rw [if_pos h, if_pos (by omega), h]
  · rw [if_neg h]
    by_cases h1 : j < d
    · rw [if_pos h1, if_pos (by omega)]
    · rw [if_neg h1, if_neg (by omega)]
theorem zq_zp_snapL {ρ : RS} {v : Int32} (hv : f_Mo_objects (sM_kept ρ (zq_rwK (gM_row ρ) (gM_kept ρ) 1552)) = some v) : f_Mo_snapshot_L7 2000 ρ 0 = some (v, sM_kept ρ (zq_rwK (gM_row ρ) (gM_kept ρ) 1552)) := by
  have e52 : (1552 : Int32) = nI 1552 := rfl
  have key : ∀ d, d ≤ 1552 → ∀ n, f_Mo_snapshot_L7 (n + d + 1) (sM_kept ρ (zq_rwK (gM_row ρ) (gM_kept ρ) (1552 - d))) (nI (1552 - d)) = some (v, sM_kept ρ (zq_rwK (gM_row ρ) (gM_kept ρ) 1552)) := by
    intro d
    induction d with
    | zero =>
      intro _ n
      rw [f_Mo_snapshot_L7, e52, if_pos (by rw [zq_zp_le (by omega) (by omega)]; omega)]
      have e : 1552 - 0 = 1552 := rfl
      rw [e, hv, Option.bind_some]
    | succ d ih =>
      intro hd n
      have e1 : 1552 - (d + 1) + 1 = 1552 - d := by omega
      have e2 : n + (d + 1) + 1 = (n + d + 1) + 1 := by omega
      have hj : ¬ (nI 1552 ≤ nI (1552 - (d + 1))) := by rw [zq_zp_le (by omega) (by omega)]; omega
      rw [e2, f_Mo_snapshot_L7, e52, if_neg hj, zq_zp_ix (by omega) (by omega), zq_zp_ix (by omega) (by omega), zq_zp_cl _ (by omega), zq_zp_s1, e1]
      refine zq_zl_to (y := sM_kept ρ (zq_rwK (gM_row ρ) (gM_kept ρ) (1552 - d))) ?_ (ih (by omega) n)
      have := zq_rwK_step (src := gM_row ρ) (dst := gM_kept ρ) (d := 1552 - (d + 1))
      rw [e1] at this
      rw [← this]; rfl
  have e0 : zq_rwK (gM_row ρ) (gM_kept ρ) (1552 - 1552) = gM_kept ρ := by
    funext j; unfold zq_rwK; rw [if_neg (by omega)]
  have := key 1552 (by omega) 447
  rw [e0] at this
  exact this
theorem zq_zp_crashL {ρ : RS} {v : Int32} (hv : f_Mo_objects (sM_row ρ (zq_rwK (gM_kept ρ) (gM_row ρ) 1552)) = some v) : f_Mo_crash_L7 2000 ρ 0 = some (v, sM_row ρ (zq_rwK (gM_kept ρ) (gM_row ρ) 1552)) := by
  have e52 : (1552 : Int32) = nI 1552 := rfl
  have key : ∀ d, d ≤ 1552 → ∀ n, f_Mo_crash_L7 (n + d + 1) (sM_row ρ (zq_rwK (gM_kept ρ) (gM_row ρ) (1552 - d))) (nI (1552 - d)) = some (v, sM_row ρ (zq_rwK (gM_kept ρ) (gM_row ρ) 1552)) := by
    intro d
    induction d with
    | zero =>
      intro _ n
      rw [f_Mo_crash_L7, e52, if_pos (by rw [zq_zp_le (by omega) (by omega)]; omega)]
      have e : 1552 - 0 = 1552 := rfl
      rw [e, hv, Option.bind_some]
    | succ d ih =>
      intro hd n
      have e1 : 1552 - (d + 1) + 1 = 1552 - d := by omega
      have e2 : n + (d + 1) + 1 = (n + d + 1) + 1 := by omega
      have hj : ¬ (nI 1552 ≤ nI (1552 - (d + 1))) := by rw [zq_zp_le (by omega) (by omega)]; omega
      rw [e2, f_Mo_crash_L7, e52, if_neg hj, zq_zp_ix (by omega) (by omega), zq_zp_ix (by omega) (by omega), zq_zp_cl _ (by omega), zq_zp_s1, e1]
      refine zq_zl_to (y := sM_row ρ (zq_rwK (gM_kept ρ) (gM_row ρ) (1552 - d))) ?_ (ih (by omega) n)
      have := zq_rwK_step (src := gM_kept ρ) (dst := gM_row ρ) (d := 1552 - (d + 1))
      rw [e1] at this
      rw [← this]; rfl
  have e0 : zq_rwK (gM_kept ρ) (gM_row ρ) (1552 - 1552) = gM_row ρ := by
    funext j; unfold zq_rwK; rw [if_neg (by omega)]
  have := key 1552 (by omega) 447
  rw [e0] at this
  exact this
theorem zq_zp_opSnapshot {s m g : Nat} {σ : KS} {ρ : RS} (h : zq_Rel s m g σ.1 (gM_row ρ)) (hc : gM_code ρ = 0) : ∃ v τ k, f_Ke_snapshot σ = some (v, (σ.1, τ)) ∧ f_Mo_snapshot ρ = some (v, sM_kept ρ k) ∧ zq_Rel s m g τ k := by
  have e0 : sM_code ρ 0 = ρ := by rw [← hc]; rfl
  have h2 : zq_Rel s m g ((σ.1, zq_cpA σ.1 σ.2) : KS).1 (gM_row (sM_kept ρ (zq_rwK (gM_row ρ) (gM_kept ρ) 1552))) := h
  obtain ⟨v, v1, v2⟩ := zq_zp_objects h2
  refine ⟨v, zq_cpA σ.1 σ.2, zq_rwK (gM_row ρ) (gM_kept ρ) 1552, ?_, ?_, ?_⟩
  · unfold f_Ke_snapshot
    rw [zq_tk_0 h, Option.bind_some, v1]; rfl
  · unfold f_Mo_snapshot
    exact zq_zl_to e0 (zq_zp_snapL v2)
  · exact zq_Rel_cpA h (fun j hj => by unfold zq_rwK; rw [if_pos hj])
theorem zq_zp_opCrash {s m g : Nat} {σ : KS} {ρ : RS} (h : zq_Rel s m g σ.2 (gM_kept ρ)) (hc : gM_code ρ = 0) : ∃ v τ r, f_Ke_crash σ = some (v, (τ, σ.2)) ∧ f_Mo_crash ρ = some (v, sM_row ρ r) ∧ zq_Rel s m g τ r := by
  have e0 : sM_code ρ 0 = ρ := by rw [← hc]; rfl
  have h1 : zq_Rel s m g (zq_cpA σ.2 σ.1) (zq_rwK (gM_kept ρ) (gM_row ρ) 1552) := zq_Rel_cpA h (fun j hj => by unfold zq_rwK; rw [if_pos hj])
  have h2 : zq_Rel s m g ((zq_cpA σ.2 σ.1, σ.2) : KS).1 (gM_row (sM_row ρ (zq_rwK (gM_kept ρ) (gM_row ρ) 1552))) := h1
  obtain ⟨v, v1, v2⟩ := zq_zp_objects h2
  refine ⟨v, zq_cpA σ.2 σ.1, zq_rwK (gM_kept ρ) (gM_row ρ) 1552, ?_, ?_, h1⟩
  · unfold f_Ke_crash
    rw [zq_tk_1 h, Option.bind_some, v1]; rfl
  · unfold f_Mo_crash
    exact zq_zl_to e0 (zq_zp_crashL v2)
def zq_zT : SS := ((fun _ => 0), 0, upd (upd (fun _ => 0) 1 1) 2 1, upd (upd (fun _ => 0) 1 0) 2 3, upd (upd (fun _ => 0) 1 0) 2 0, upd (upd (fun _ => 0) 1 200) 2 2, upd (upd (fun _ => 0) 1 0) 2 1, upd (upd (fun _ => 0) 1 0) 2 1, upd (upd (upd (fun _ => 0) 1 (-1)) 2 (-1)) 2 1, (fun _ => 0), (fun _ => 0), (fun _ => 0), (fun _ => 0), 2, (fun _ => 0), (fun _ => 0), (fun _ => 0), (fun _ => 0), (fun _ => 0), (fun _ => 0), (fun _ => 0), 0)
set_option maxRecDepth 10000 in
theorem zq_zp_initT : f_Tg_init = some (zq_zT, k0) := rfl
def zq_rwI (d : Nat) : Nat → Int32 := fun j => if 1037 ≤ j ∧ j < 1037 + d then 1 else if 1045 ≤ j ∧ j < 1045 + d then 2 else 0
theorem zq_rwI_step {d : Nat} (h : d < 8) : upd (upd (zq_rwI d) (1037 + d) 1) (1045 + d) 2 = zq_rwI (d + 1) := by
  funext j
  unfold upd zq_rwI
  repeat' split
  all_goals first | rfl | (exfalso; omega)
def zq_rI : Nat → Int32 := upd (upd (upd (upd (upd (upd (upd (upd (upd (zq_rwI 8) 1550 2) 1549 2) 17 1) 20 200) 34 1) 35 3) 37 2) 38 1) 40 1
theorem zq_zp_init136 (ρ : RS) : f_Mo_init_L136 2000 ρ 0 = some (sM_kept ρ (zq_rwK (gM_row ρ) (gM_kept ρ) 1552)) := by
  have e52 : (1552 : Int32) = nI 1552 := rfl
  have key : ∀ d, d ≤ 1552 → ∀ n, f_Mo_init_L136 (n + d + 1) (sM_kept ρ (zq_rwK (gM_row ρ) (gM_kept ρ) (1552 - d))) (nI (1552 - d)) = some (sM_kept ρ (zq_rwK (gM_row ρ) (gM_kept ρ) 1552)) := by
    intro d
    induction d with
    | zero =>
      intro _ n
      rw [f_Mo_init_L136, e52, if_pos (by rw [zq_zp_le (by omega) (by omega)]; omega)]
    | succ d ih =>
      intro hd n
      have e1 : 1552 - (d + 1) + 1 = 1552 - d := by omega
      have e2 : n + (d + 1) + 1 = (n + d + 1) + 1 := by omega
      have hj : ¬ (nI 1552 ≤ nI (1552 - (d + 1))) := by rw [zq_zp_le (by omega) (by omega)]; omega
      rw [e2, f_Mo_init_L136, e52, if_neg hj, zq_zp_ix (by omega) (by omega), zq_zp_ix (by omega) (by omega), zq_zp_cl _ (by omega), zq_zp_s1, e1]
      refine zq_zl_to (y := sM_kept ρ (zq_rwK (gM_row ρ) (gM_kept ρ) (1552 - d))) ?_ (ih (by omega) n)
      have := zq_rwK_step (src := gM_row ρ) (dst := gM_kept ρ) (d := 1552 - (d + 1))
      rw [e1] at this
      rw [← this]; rfl
  have e0 : zq_rwK (gM_row ρ) (gM_kept ρ) (1552 - 1552) = gM_kept ρ := by
    funext j; unfold zq_rwK; rw [if_neg (by omega)]
  have := key 1552 (by omega) 447
  rw [e0] at this
  exact this
theorem zq_zp_gl {α : Type} {n : Nat} (h : n < 1552) (a : Option α) : (if nI n < 0 ∨ 1552 ≤ (nI n).toNatClampNeg then none else a) = a := zq_zp_ix h (by omega) a
theorem zq_zp_init24 (n : Nat) : f_Mo_init_L24 (n + 1) (sM_row r0 (zq_rwI 8)) 8 = f_Mo_init_L136 2000 (sM_row r0 zq_rI) 0 := by
  have e8 : (8 : Int32) ≤ 8 := Int32.le_refl _
  rw [f_Mo_init_L24, if_pos e8]
  refine (zq_zp_gl (n := 1550) (by omega) _).trans (zq_zl_to (y := sM_row r0 (upd (zq_rwI 8) 1550 2)) ?_ ?_)
  · rw [show (1550 : Int32).toNatClampNeg = 1550 from zq_zp_cl 1550 (by omega)]; rfl
  refine (zq_zp_gl (n := 1549) (by omega) _).trans (zq_zl_to (y := sM_row r0 (upd (upd (zq_rwI 8) 1550 2) 1549 2)) ?_ ?_)
  · rw [show (1549 : Int32).toNatClampNeg = 1549 from zq_zp_cl 1549 (by omega)]; rfl
  refine (zq_zp_gl (n := 17) (by omega) _).trans (zq_zl_to (y := sM_row r0 (upd (upd (upd (zq_rwI 8) 1550 2) 1549 2) 17 1)) ?_ ?_)
  · rw [show (17 : Int32).toNatClampNeg = 17 from zq_zp_cl 17 (by omega)]; rfl
  refine (zq_zp_gl (n := 20) (by omega) _).trans (zq_zl_to (y := sM_row r0 (upd (upd (upd (upd (zq_rwI 8) 1550 2) 1549 2) 17 1) 20 200)) ?_ ?_)
  · rw [show (20 : Int32).toNatClampNeg = 20 from zq_zp_cl 20 (by omega)]; rfl
  refine (zq_zp_gl (n := 34) (by omega) _).trans (zq_zl_to (y := sM_row r0 (upd (upd (upd (upd (upd (zq_rwI 8) 1550 2) 1549 2) 17 1) 20 200) 34 1)) ?_ ?_)
  · rw [show (34 : Int32).toNatClampNeg = 34 from zq_zp_cl 34 (by omega)]; rfl
  refine (zq_zp_gl (n := 35) (by omega) _).trans (zq_zl_to (y := sM_row r0 (upd (upd (upd (upd (upd (upd (zq_rwI 8) 1550 2) 1549 2) 17 1) 20 200) 34 1) 35 3)) ?_ ?_)
  · rw [show (35 : Int32).toNatClampNeg = 35 from zq_zp_cl 35 (by omega)]; rfl
  refine (zq_zp_gl (n := 37) (by omega) _).trans (zq_zl_to (y := sM_row r0 (upd (upd (upd (upd (upd (upd (upd (zq_rwI 8) 1550 2) 1549 2) 17 1) 20 200) 34 1) 35 3) 37 2)) ?_ ?_)
  · rw [show (37 : Int32).toNatClampNeg = 37 from zq_zp_cl 37 (by omega)]; rfl
  refine (zq_zp_gl (n := 38) (by omega) _).trans (zq_zl_to (y := sM_row r0 (upd (upd (upd (upd (upd (upd (upd (upd (zq_rwI 8) 1550 2) 1549 2) 17 1) 20 200) 34 1) 35 3) 37 2) 38 1)) ?_ ?_)
  · rw [show (38 : Int32).toNatClampNeg = 38 from zq_zp_cl 38 (by omega)]; rfl
  refine (zq_zp_gl (n := 40) (by omega) _).trans (zq_zl_to (y := sM_row r0 zq_rI) ?_ rfl)
  rw [show (40 : Int32).toNatClampNeg = 40 from zq_zp_cl 40 (by omega)]; rfl
theorem zq_zp_initM : f_Mo_init = some (sM_kept (sM_row r0 zq_rI) (zq_rwK zq_rI (fun _ => 0) 1552)) := by
  have key : ∀ d, d ≤ 8 → ∀ n, ∃ n', f_Mo_init_L24 (n + d + 1) (sM_row r0 (zq_rwI (8 - d))) (nI (8 - d)) = f_Mo_init_L24 (n' + 1) (sM_row r0 (zq_rwI 8)) 8 := by
    intro d
    induction d with
    | zero => intro _ n; exact ⟨n, rfl⟩
    | succ d ih =>
      intro hd n
      have e1 : 8 - (d + 1) + 1 = 8 - d := by omega
      have e2 : n + (d + 1) + 1 = (n + d + 1) + 1 := by omega
      have j1 : 1037 + nI (8 - (d + 1)) = nI (1037 + (8 - (d + 1))) := zq_zp_add 1037 _
      have j2 : 1045 + nI (8 - (d + 1)) = nI (1045 + (8 - (d + 1))) := zq_zp_add 1045 _
      obtain ⟨n', hn⟩ := ih (by omega) n
      refine ⟨n', ?_⟩
      rw [e2, f_Mo_init_L24, if_neg (zq_zp_8le (by omega)), j1, j2, zq_zp_ix (by omega) (by omega), zq_zp_cl _ (by omega), zq_zp_cl _ (by omega), zq_zp_s1, e1]
      refine zq_zl_to rfl ?_
      rw [if_neg (by rw [zq_zp_gF (show 1045 + (8 - (d + 1)) < 1552 by omega) (by omega)]; exact id)]
      refine zq_zl_to (y := sM_row r0 (zq_rwI (8 - d))) ?_ hn
      have := zq_rwI_step (d := 8 - (d + 1)) (by omega)
      rw [e1] at this
      rw [← this]; rfl
  obtain ⟨n', hn⟩ := key 8 (by omega) 1991
  have e0 : zq_rwI (8 - 8) = fun _ => 0 := by
    funext j; unfold zq_rwI; rw [if_neg (by omega), if_neg (by omega)]
  rw [e0] at hn
  unfold f_Mo_init
  exact hn.trans ((zq_zp_init24 n').trans (zq_zp_init136 _))
theorem zq_rI_0 {j : Nat} (h : j ≠ 40 ∧ j ≠ 38 ∧ j ≠ 37 ∧ j ≠ 35 ∧ j ≠ 34 ∧ j ≠ 20 ∧ j ≠ 17 ∧ j ≠ 1549 ∧ j ≠ 1550) (h2 : j < 1037 ∨ 1053 ≤ j) : zq_rI j = 0 := by
  obtain ⟨h1, h3, h4, h5, h6, h7, h8, h9, h10⟩ := h
  unfold zq_rI
  rw [zq_upd_ne h1, zq_upd_ne h3, zq_upd_ne h4, zq_upd_ne h5, zq_upd_ne h6, zq_upd_ne h7, zq_upd_ne h8, zq_upd_ne h9, zq_upd_ne h10]
  unfold zq_rwI
  rw [if_neg (by omega), if_neg (by omega)]
theorem zq_rI_lab : ∀ l, l < 2 → ∀ c, c < 8 → zq_rI (1037 + 8 * l + c) = nI (l + 1) ∧ zq_lvI (i_packed l) c = nI (l + 1) := by decide
theorem zq_Rel_start : zq_Rel 2 2 0 (i_S (zq_zT, k0)) zq_rI := by
  have z : ∀ j, (j ≠ 40 ∧ j ≠ 38 ∧ j ≠ 37 ∧ j ≠ 35 ∧ j ≠ 34 ∧ j ≠ 20 ∧ j ≠ 17 ∧ j ≠ 1549 ∧ j ≠ 1550) → (j < 1037 ∨ 1053 ≤ j) → zq_rI j = 0 := fun j h1 h2 => zq_rI_0 h1 h2
  refine ⟨⟨by omega, by omega, by omega, by omega, by omega⟩, ⟨rfl, by decide⟩, ⟨rfl, by decide⟩, ⟨rfl, by decide⟩, ?_, ?_, ?_, ?_⟩
  · intro l hl c hc
    obtain ⟨h1, h2⟩ := zq_rI_lab l hl c hc
    have e : p_packed (i_S (zq_zT, k0)) l = i_packed l := rfl
    rw [e]
    exact ⟨h1.trans h2.symm, l + 1, by omega, h2⟩
  · intro o h1 h2
    match o, h1, h2 with
    | 1, _, _ =>
      refine ⟨⟨by decide, Or.inr (by decide)⟩, ⟨by decide, 0, by omega, by decide⟩, ⟨by decide, 0, by omega, by decide⟩, by decide, ⟨by decide, Or.inl ⟨rfl, by decide, by decide⟩⟩, Or.inl ⟨Or.inl (by decide), by decide⟩, fun h => absurd h (by decide), by decide, ?_⟩
      intro i hi
      rw [z _ (by omega) (by omega)]; rfl
    | 2, _, _ =>
      refine ⟨⟨by decide, Or.inr (by decide)⟩, ⟨by decide, 3, by omega, by decide⟩, ⟨by decide, 0, by omega, by decide⟩, by decide, ⟨by decide, Or.inr ⟨1, by omega, by omega, by decide, by decide⟩⟩, Or.inr ⟨Or.inr (by decide), by decide, 1, by omega, by decide⟩, fun h => absurd h (by decide), by decide, ?_⟩
      intro i hi
      rw [z _ (by omega) (by omega)]; rfl
  · intro o h1 h2
    refine ⟨?_, rfl, fun _ _ => rfl⟩
    show upd (upd (fun _ => 0) 1 1) 2 1 o = 0
    rw [zq_upd_ne (by omega), zq_upd_ne (by omega)]
  · intro u hu
    unfold zq_RUs
    rw [z (1517 + 8 * u) (by omega) (by omega), z (1517 + 8 * u + 1) (by omega) (by omega), z (1517 + 8 * u + 2) (by omega) (by omega), z (1517 + 8 * u + 3) (by omega) (by omega), z (1517 + 8 * u + 4) (by omega) (by omega), z (1517 + 8 * u + 5) (by omega) (by omega), z (1517 + 8 * u + 6) (by omega) (by omega)]
    exact ⟨⟨rfl, Or.inl rfl⟩, rfl, rfl, rfl, rfl, rfl, rfl, ⟨0, by omega, rfl⟩, ⟨0, by omega, rfl⟩⟩
def zq_II (σ : KS) (ρ : RS) : Prop := zq_RR σ.1 (gM_row ρ) ∧ zq_RR σ.2 (gM_kept ρ)
theorem zq_II_start {z : KS} {ρ : RS} (h1 : f_Tg_init = some z) (h2 : f_Mo_init = some ρ) : zq_II (i_S z, i_S z) ρ := by
  rw [zq_zp_initT] at h1
  rw [zq_zp_initM] at h2
  have e1 := Option.some.inj h1
  have e2 := Option.some.inj h2
  subst e1; subst e2
  refine ⟨⟨2, 2, 0, zq_Rel_start⟩, ⟨2, 2, 0, ?_⟩⟩
  refine zq_Rel_ext zq_Rel_start (fun j hj => ?_) rfl rfl rfl (fun _ _ => rfl) (fun _ _ => ⟨rfl, rfl, rfl, rfl, rfl, fun _ _ => rfl, rfl, rfl, rfl, rfl, fun _ _ => rfl⟩) (fun _ _ => ⟨rfl, rfl, rfl, rfl, rfl, rfl, rfl⟩)
  show zq_rwK zq_rI (fun _ => 0) 1552 j = zq_rI j
  unfold zq_rwK; rw [if_pos hj]
def zq_SimC (x : Option (Except Nat Int32 × KS)) (y : Option (Int32 × RS)) : Prop :=
  (∃ (v : Int32) (u : KS) (z : Int32 × RS), x = some (.ok v, u) ∧ y = some z ∧ gM_code z.2 = 0 ∧ z.1 = v ∧ zq_II u z.2) ∨ (∃ (k : Nat) (u : KS) (z : Int32 × RS), (k = 1 ∨ k = 2 ∨ k = 3 ∨ k = 4) ∧ x = some (.error k, u) ∧ y = some z ∧ gM_code z.2 = nI k ∧ zq_II u z.2)
def zq_SimU (x : Option (Except Nat Int32 × KS)) (y : Option (Int32 × RS)) : Prop :=
  (∃ (v : Int32) (u : KS) (z : Int32 × RS), x = some (.ok v, u) ∧ y = some z ∧ zq_II u z.2) ∨ (∃ (k : Nat) (u : KS) (z : Int32 × RS), (k = 1 ∨ k = 2 ∨ k = 3 ∨ k = 4) ∧ x = some (.error k, u) ∧ y = some z ∧ zq_II u z.2)
theorem zq_SimC.u {x : Option (Except Nat Int32 × KS)} {y : Option (Int32 × RS)} (h : zq_SimC x y) : zq_SimU x y := by
  rcases h with ⟨v, u, z, h1, h2, -, -, h5⟩ | ⟨k, u, z, h0, h1, h2, -, h5⟩
  · exact Or.inl ⟨v, u, z, h1, h2, h5⟩
  · exact Or.inr ⟨k, u, z, h0, h1, h2, h5⟩
theorem zq_StepL.c {σ : KS} {ρ : RS} {x : Option (Except Nat Int32 × KS)} {y : Option (Int32 × RS)} (h : zq_StepL σ ρ x y) (hc : gM_code ρ = 0) (hK : zq_RR σ.2 (gM_kept ρ)) : zq_SimC x y := by
  rcases h with ⟨v, τ, r, h1, h2, h3⟩ | ⟨k, w, τ, r, hk, h1, h2, h3⟩
  · exact Or.inl ⟨v, _, _, h1, h2, hc, rfl, h3, hK⟩
  · exact Or.inr ⟨k, _, _, hk, h1, h2, rfl, h3, hK⟩
theorem zq_zp_cc (ρ : RS) : sM_code (sM_code ρ 0) 0 = sM_code ρ 0 := rfl
theorem zq_ss_label {σ : KS} {ρ : RS} (h : zq_II σ ρ) (x1 x2 x3 : Int32) : zq_SimC (f_Ke_label σ x1 x2 x3) (f_Mo_label ρ x1 x2 x3) := by
  obtain ⟨⟨s, m, g, h1⟩, hK⟩ := h
  have e : f_Mo_label (sM_code ρ 0) x1 x2 x3 = f_Mo_label ρ x1 x2 x3 := by unfold f_Mo_label; rw [zq_zp_cc]
  rw [← e]
  exact ((zq_zp_opLabel (ρ := sM_code ρ 0) h1 rfl x1 x2 x3).L ⟨s, m, g, h1⟩ (fun _ _ _ q => q)).c rfl hK
theorem zq_ss_level {σ : KS} {ρ : RS} (h : zq_II σ ρ) (x1 x2 : Int32) : zq_SimC (f_Ke_level σ x1 x2) (f_Mo_level ρ x1 x2) := by
  obtain ⟨⟨s, m, g, h1⟩, hK⟩ := h
  have e : f_Mo_level (sM_code ρ 0) x1 x2 = f_Mo_level ρ x1 x2 := by unfold f_Mo_level; rw [zq_zp_cc]
  rw [← e]
  exact ((zq_zp_opLevel (ρ := sM_code ρ 0) h1 rfl x1 x2).L ⟨s, m, g, h1⟩ (fun _ _ _ q => q)).c rfl hK
theorem zq_ss_fits {σ : KS} {ρ : RS} (h : zq_II σ ρ) (x1 x2 x3 : Int32) : zq_SimC (f_Ke_fits σ x1 x2 x3) (f_Mo_fits ρ x1 x2 x3) := by
  obtain ⟨⟨s, m, g, h1⟩, hK⟩ := h
  have e : f_Mo_fits (sM_code ρ 0) x1 x2 x3 = f_Mo_fits ρ x1 x2 x3 := by unfold f_Mo_fits; rw [zq_zp_cc]
  rw [← e]
  exact ((zq_zp_opFits (ρ := sM_code ρ 0) h1 rfl x1 x2 x3).L ⟨s, m, g, h1⟩ (fun _ _ _ q => q)).c rfl hK
theorem zq_ss_category {σ : KS} {ρ : RS} (h : zq_II σ ρ) (x1 : Int32) : zq_SimC (f_Ke_category σ x1) (f_Mo_category ρ x1) := by
  obtain ⟨⟨s, m, g, h1⟩, hK⟩ := h
  have e : f_Mo_category ρ x1 = f_Mo_giveCategory (sM_code ρ 0) x1 := by unfold f_Mo_category; exact zq_zl_to rfl (zq_bd_id _)
  rw [e]
  exact ((zq_zp_opCategory (ρ := sM_code ρ 0) h1 rfl x1).L ⟨s, m, g, h1⟩ (fun _ _ _ q => q.1)).c rfl hK
theorem zq_ss_container {σ : KS} {ρ : RS} (h : zq_II σ ρ) (x1 x2 x3 x4 : Int32) : zq_SimC (f_Ke_container σ x1 x2 x3 x4) (f_Mo_container ρ x1 x2 x3 x4) := by
  obtain ⟨⟨s, m, g, h1⟩, hK⟩ := h
  have e : f_Mo_container ρ x1 x2 x3 x4 = f_Mo_makeContainer (sM_code ρ 0) x1 x2 x3 x4 := by unfold f_Mo_container; exact zq_zl_to rfl (zq_bd_id _)
  rw [e]
  exact ((zq_zp_opContainer (ρ := sM_code ρ 0) h1 x1 x2 x3 x4).L ⟨s, m, g, h1⟩ (fun _ _ _ q => q.1)).c rfl hK
theorem zq_ss_segment {σ : KS} {ρ : RS} (h : zq_II σ ρ) (x1 x2 x3 x4 : Int32) : zq_SimC (f_Ke_segment σ x1 x2 x3 x4) (f_Mo_segment ρ x1 x2 x3 x4) := by
  obtain ⟨⟨s, m, g, h1⟩, hK⟩ := h
  have e : f_Mo_segment ρ x1 x2 x3 x4 = f_Mo_makeSegment (sM_code ρ 0) x1 x2 x3 x4 := by unfold f_Mo_segment; exact zq_zl_to rfl (zq_bd_id _)
  rw [e]
  exact ((zq_zp_opSegment (ρ := sM_code ρ 0) h1 x1 x2 x3 x4).L ⟨s, m, g, h1⟩ (fun _ _ _ q => q.1)).c rfl hK
theorem zq_ss_gate {σ : KS} {ρ : RS} (h : zq_II σ ρ) (x1 x2 x3 x4 x5 : Int32) : zq_SimC (f_Ke_gate σ x1 x2 x3 x4 x5) (f_Mo_gate ρ x1 x2 x3 x4 x5) := by
  obtain ⟨⟨s, m, g, h1⟩, hK⟩ := h
  have e : f_Mo_gate ρ x1 x2 x3 x4 x5 = f_Mo_makeGate (sM_code ρ 0) x1 x2 x3 x4 x5 := by unfold f_Mo_gate; exact zq_zl_to rfl (zq_bd_id _)
  rw [e]
  exact ((zq_zp_opGate (ρ := sM_code ρ 0) h1 x1 x2 x3 x4 x5).L ⟨s, m, g, h1⟩ (fun _ _ _ q => q)).c rfl hK
theorem zq_ss_thread {σ : KS} {ρ : RS} (h : zq_II σ ρ) (x1 x2 x3 x4 : Int32) : zq_SimC (f_Ke_thread σ x1 x2 x3 x4) (f_Mo_thread ρ x1 x2 x3 x4) := by
  obtain ⟨⟨s, m, g, h1⟩, hK⟩ := h
  have e : f_Mo_thread (sM_code ρ 0) x1 x2 x3 x4 = f_Mo_thread ρ x1 x2 x3 x4 := by unfold f_Mo_thread; rw [zq_zp_cc]
  rw [← e]
  exact ((zq_zp_opThread (ρ := sM_code ρ 0) h1 rfl x1 x2 x3 x4).L ⟨s, m, g, h1⟩ (fun _ _ _ q => q)).c rfl hK
theorem zq_ss_read {σ : KS} {ρ : RS} (h : zq_II σ ρ) (x1 x2 x3 x4 : Int32) : zq_SimC (f_Ke_read σ x1 x2 x3 x4) (f_Mo_read ρ x1 x2 x3 x4) := by
  obtain ⟨⟨s, m, g, h1⟩, hK⟩ := h
  have e : f_Mo_read ρ x1 x2 x3 x4 = f_Mo_cell (sM_code ρ 0) x1 x2 x3 x4 0 0 := by unfold f_Mo_read; exact zq_zl_to rfl (zq_bd_id _)
  rw [e]
  exact ((zq_zp_opRead (ρ := sM_code ρ 0) h1 rfl x1 x2 x3 x4 0).L ⟨s, m, g, h1⟩ (fun _ _ _ q => by rw [q.1, q.2.1]; exact ⟨s, m, g, h1⟩)).c rfl hK
theorem zq_ss_write {σ : KS} {ρ : RS} (h : zq_II σ ρ) (x1 x2 x3 x4 x5 : Int32) : zq_SimC (f_Ke_write σ x1 x2 x3 x4 x5) (f_Mo_write ρ x1 x2 x3 x4 x5) := by
  obtain ⟨⟨s, m, g, h1⟩, hK⟩ := h
  have e : f_Mo_write ρ x1 x2 x3 x4 x5 = f_Mo_cell (sM_code ρ 0) x1 x2 x3 x4 1 x5 := by unfold f_Mo_write; exact zq_zl_to rfl (zq_bd_id _)
  rw [e]
  exact ((zq_zp_opWrite (ρ := sM_code ρ 0) h1 rfl x1 x2 x3 x4 x5 (show ¬ (1 : Int32) = 0 by decide)).L ⟨s, m, g, h1⟩ (fun _ _ _ q => q)).c rfl hK
theorem zq_ss_move {σ : KS} {ρ : RS} (h : zq_II σ ρ) (x1 x2 x3 x4 : Int32) : zq_SimC (f_Ke_move σ x1 x2 x3 x4) (f_Mo_move ρ x1 x2 x3 x4) := by
  obtain ⟨⟨s, m, g, h1⟩, hK⟩ := h
  have e : f_Mo_move (sM_code ρ 0) x1 x2 x3 x4 = f_Mo_move ρ x1 x2 x3 x4 := by unfold f_Mo_move; rw [zq_zp_cc]
  rw [← e]
  exact ((zq_zp_opMove (ρ := sM_code ρ 0) h1 rfl x1 x2 x3 x4).L ⟨s, m, g, h1⟩ (fun _ _ _ q => q)).c rfl hK
theorem zq_ss_drop {σ : KS} {ρ : RS} (h : zq_II σ ρ) (x1 x2 x3 : Int32) : zq_SimC (f_Ke_drop σ x1 x2 x3) (f_Mo_drop ρ x1 x2 x3) := by
  obtain ⟨⟨s, m, g, h1⟩, hK⟩ := h
  have e : f_Mo_drop ρ x1 x2 x3 = f_Mo_remove (sM_code ρ 0) x1 x2 x3 := by unfold f_Mo_drop; exact zq_zl_to rfl (zq_bd_id _)
  rw [e]
  exact ((zq_zp_opDrop (ρ := sM_code ρ 0) h1 rfl x1 x2 x3).L ⟨s, m, g, h1⟩ (fun _ _ _ q => ⟨s, m, g, q.1⟩)).c rfl hK
theorem zq_ss_become {σ : KS} {ρ : RS} (h : zq_II σ ρ) (x1 x2 : Int32) : zq_SimC (f_Ke_become σ x1 x2) (f_Mo_become ρ x1 x2) := by
  obtain ⟨⟨s, m, g, h1⟩, hK⟩ := h
  have e : f_Mo_become (sM_code ρ 0) x1 x2 = f_Mo_become ρ x1 x2 := by unfold f_Mo_become; rw [zq_zp_cc]
  rw [← e]
  exact ((zq_zp_opBecome (ρ := sM_code ρ 0) h1 rfl x1 x2).L ⟨s, m, g, h1⟩ (fun _ _ _ q => q)).c rfl hK
theorem zq_ss_lower {σ : KS} {ρ : RS} (h : zq_II σ ρ) (x1 x2 : Int32) : zq_SimC (f_Ke_lower σ x1 x2) (f_Mo_lower ρ x1 x2) := by
  obtain ⟨⟨s, m, g, h1⟩, hK⟩ := h
  have e : f_Mo_lower (sM_code ρ 0) x1 x2 = f_Mo_lower ρ x1 x2 := by unfold f_Mo_lower; rw [zq_zp_cc]
  rw [← e]
  exact ((zq_zp_opLower (ρ := sM_code ρ 0) h1 rfl x1 x2).L ⟨s, m, g, h1⟩ (fun _ _ _ q => q)).c rfl hK
theorem zq_ss_enter {σ : KS} {ρ : RS} (h : zq_II σ ρ) (x1 x2 x3 x4 x5 : Int32) : zq_SimC (f_Ke_enter σ x1 x2 x3 x4 x5) (f_Mo_enter ρ x1 x2 x3 x4 x5) := by
  obtain ⟨⟨s, m, g, h1⟩, hK⟩ := h
  have e : f_Mo_enter ρ x1 x2 x3 x4 x5 = f_Mo_go (sM_code ρ 0) x1 x2 x3 x4 x5 := by unfold f_Mo_enter; exact zq_zl_to rfl (zq_bd_id _)
  rw [e]
  exact ((zq_zp_opEnter (ρ := sM_code ρ 0) h1 rfl x1 x2 x3 x4 x5).L ⟨s, m, g, h1⟩ (fun _ _ _ q => q)).c rfl hK
theorem zq_ss_user {σ : KS} {ρ : RS} (h : zq_II σ ρ) (x1 x2 x3 : Int32) : zq_SimC (f_Ke_user σ x1 x2 x3) (f_Mo_user ρ x1 x2 x3) := by
  obtain ⟨⟨s, m, g, h1⟩, hK⟩ := h
  have e : f_Mo_user (sM_code ρ 0) x1 x2 x3 = f_Mo_user ρ x1 x2 x3 := by unfold f_Mo_user; rw [zq_zp_cc]
  rw [← e]
  exact (zq_zp_opUser (ρ := sM_code ρ 0) h1 rfl x1 x2 x3).c rfl hK
theorem zq_ss_login {σ : KS} {ρ : RS} (h : zq_II σ ρ) (x1 x2 x3 : Int32) : zq_SimC (f_Ke_login σ x1 x2 x3) (f_Mo_login ρ x1 x2 x3) := by
  obtain ⟨⟨s, m, g, h1⟩, hK⟩ := h
  have e : f_Mo_login (sM_code ρ 0) x1 x2 x3 = f_Mo_login ρ x1 x2 x3 := by unfold f_Mo_login; rw [zq_zp_cc]
  rw [← e]
  exact (zq_zp_opLogin (ρ := sM_code ρ 0) h1 rfl x1 x2 x3).c rfl hK
theorem zq_ss_file {σ : KS} {ρ : RS} (h : zq_II σ ρ) (x1 x2 x3 x4 : Int32) : zq_SimC (f_Ke_file σ x1 x2 x3 x4) (f_Mo_file ρ x1 x2 x3 x4) := by
  obtain ⟨⟨s, m, g, h1⟩, hK⟩ := h
  have e : f_Mo_file (sM_code ρ 0) x1 x2 x3 x4 = f_Mo_file ρ x1 x2 x3 x4 := by unfold f_Mo_file; rw [zq_zp_cc]
  rw [← e]
  exact (zq_zp_opFile (ρ := sM_code ρ 0) h1 rfl x1 x2 x3 x4).c rfl hK
theorem zq_ss_access {σ : KS} {ρ : RS} (h : zq_II σ ρ) (x1 x2 x3 x4 x5 x6 : Int32) : zq_SimU (f_Ke_access σ x1 x2 x3 x4 x5 x6) (f_Mo_access ρ x1 x2 x3 x4 x5 x6) := by
  obtain ⟨⟨s, m, g, h1⟩, hK⟩ := h
  have e : f_Mo_access (sM_code ρ 0) x1 x2 x3 x4 x5 x6 = f_Mo_access ρ x1 x2 x3 x4 x5 x6 := by unfold f_Mo_access; rw [zq_zp_cc]
  rw [← e]
  rcases zq_zp_opAccess (ρ := sM_code ρ 0) h1 rfl x1 x2 x3 x4 x5 x6 with q | ⟨k, hk, q1, q2⟩
  · exact (q.c rfl hK).u
  · exact Or.inr ⟨k, σ, _, hk, q1, q2, ⟨s, m, g, h1⟩, hK⟩
theorem zq_ss_object {σ : KS} {ρ : RS} (h : zq_II σ ρ) (x1 x2 : Int32) : zq_SimC (f_Ke_object σ x1 x2) (f_Mo_object ρ x1 x2) := by
  obtain ⟨⟨s, m, g, h1⟩, hK⟩ := h
  have e : f_Mo_object (sM_code ρ 0) x1 x2 = f_Mo_object ρ x1 x2 := by unfold f_Mo_object; rw [zq_zp_cc]
  rw [← e]
  exact ((zq_zp_opObject (ρ := sM_code ρ 0) h1 rfl x1 x2).L ⟨s, m, g, h1⟩ (fun _ _ _ q => q)).c rfl hK
theorem zq_ss_in {σ : KS} {ρ : RS} (h : zq_II σ ρ) (x1 x2 : Int32) : zq_SimC (f_Ke_in σ x1 x2) (f_Mo_in ρ x1 x2) := by
  obtain ⟨⟨s, m, g, h1⟩, hK⟩ := h
  have e : f_Mo_in (sM_code ρ 0) x1 x2 = f_Mo_in ρ x1 x2 := by unfold f_Mo_in; rw [zq_zp_cc]
  rw [← e]
  exact ((zq_zp_opIn (ρ := sM_code ρ 0) h1 rfl x1 x2).L ⟨s, m, g, h1⟩ (fun _ _ _ q => q)).c rfl hK
theorem zq_ss_snapshot {σ : KS} {ρ : RS} (h : zq_II σ ρ) : ∃ (v : Int32 × KS) (z : Int32 × RS), f_Ke_snapshot σ = some v ∧ f_Mo_snapshot ρ = some z ∧ z.1 = v.1 ∧ gM_code z.2 = 0 ∧ zq_II v.2 z.2 := by
  obtain ⟨⟨s, m, g, h1⟩, hK⟩ := h
  have e : f_Mo_snapshot (sM_code ρ 0) = f_Mo_snapshot ρ := by unfold f_Mo_snapshot; rw [zq_zp_cc]
  obtain ⟨v, τ, k, q1, q2, q3⟩ := zq_zp_opSnapshot (ρ := sM_code ρ 0) h1 rfl
  rw [e] at q2
  exact ⟨_, _, q1, q2, rfl, rfl, ⟨s, m, g, h1⟩, ⟨s, m, g, q3⟩⟩
theorem zq_ss_crash {σ : KS} {ρ : RS} (h : zq_II σ ρ) : ∃ (v : Int32 × KS) (z : Int32 × RS), f_Ke_crash σ = some v ∧ f_Mo_crash ρ = some z ∧ z.1 = v.1 ∧ gM_code z.2 = 0 ∧ zq_II v.2 z.2 := by
  obtain ⟨-, ⟨s, m, g, h1⟩⟩ := h
  have e : f_Mo_crash (sM_code ρ 0) = f_Mo_crash ρ := by unfold f_Mo_crash; rw [zq_zp_cc]
  obtain ⟨v, τ, k, q1, q2, q3⟩ := zq_zp_opCrash (ρ := sM_code ρ 0) h1 rfl
  rw [e] at q2
  exact ⟨_, _, q1, q2, rfl, rfl, ⟨s, m, g, q3⟩, ⟨s, m, g, h1⟩⟩
theorem zq_ss_count {σ : KS} {ρ : RS} (h : zq_II σ ρ) (x : Int32) : ∃ (v : Int32) (z : Int32 × RS), f_Ke_count σ x = some v ∧ f_Mo_count ρ x = some z ∧ z.1 = v ∧ gM_code z.2 = 0 ∧ zq_II σ z.2 := by
  obtain ⟨⟨s, m, g, h1⟩, hK⟩ := h
  have e : f_Mo_count (sM_code ρ 0) x = f_Mo_count ρ x := by unfold f_Mo_count; rw [zq_zp_cc]
  obtain ⟨v, q1, q2⟩ := zq_zp_opCount (ρ := sM_code ρ 0) h1 rfl x
  rw [e] at q2
  exact ⟨v, _, q1, q2, rfl, rfl, ⟨s, m, g, h1⟩, hK⟩
