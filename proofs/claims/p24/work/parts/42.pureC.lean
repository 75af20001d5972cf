theorem zq_zx_ok {α β κ : Type} (v : β) (u : κ) (f : β → κ → Option (Except Nat α × κ)) : zx (some (.ok v, u)) f = f v u := rfl
theorem zq_zx_err {α β κ : Type} (k : Nat) (u : κ) (f : β → κ → Option (Except Nat α × κ)) : zx (some (.error k, u) : Option (Except Nat β × κ)) f = some (.error k, u) := rfl
theorem zq_zp_ixc (o i : Nat) : 17 * nI o + 9 + nI i = nI (17 * o + 9 + i) := by rw [← zq_zp_add, ← zq_zp_add, ← zq_zp_mul]; rfl
theorem zq_zp_ixd (o i : Nat) : nI o * 8 + nI i = nI (8 * o + i) := by rw [← zq_zp_add, Nat.mul_comm 8 o, ← zq_zp_mul]; rfl
theorem zq_gt_cell (σ : KS) {o i : Nat} (ho : o ≤ 60) (hi : i < 8) : f_Tg_cellOf σ (nI o) (nI i) = some (gN_cells σ (8 * o + i)) := by
  unfold f_Tg_cellOf
  simp only [zq_zp_ixd, zq_zp_cl (8 * o + i) (show 8 * o + i < 2147483648 by omega), zq_zp_gF (show 8 * o + i < 488 by omega) (show 488 < 2147483648 by omega), if_false]
theorem zq_gt_setCell (σ : KS) {o i : Nat} (ho : o ≤ 60) (hi : i < 8) (x : Int32) : f_Tg_setCell σ (nI o) (nI i) x = some (q_cells σ.1 (upd (p_cells σ.1) (8 * o + i) x), σ.2) := by
  unfold f_Tg_setCell
  simp only [zq_zp_ixd, zq_zp_cl (8 * o + i) (show 8 * o + i < 2147483648 by omega), zq_zp_gF (show 8 * o + i < 488 by omega) (show 488 < 2147483648 by omega), if_false, zl]
  rfl
theorem zq_zp_1neg : ((1 : Int32) < 0) = False := by decide
theorem zq_zp_2neg : ((2 : Int32) < 0) = False := by decide
theorem zq_zp_needCell {s m g : Nat} {σ : KS} {ρ : RS} (h : zq_Rel s m g σ.1 (gM_row ρ)) (hc : gM_code ρ = 0) (x1 x2 x3 x4 : Int32) :
    (∃ t d o i, (1 ≤ t ∧ t ≤ m ∧ x1 = nI t) ∧ (1 ≤ d ∧ d ≤ m ∧ x2 = nI d) ∧ (1 ≤ o ∧ o ≤ m ∧ x3 = nI o) ∧ (i < 8 ∧ x4 = nI i) ∧ f_Ke_needCell σ x1 x2 x3 x4 = some (.ok (), σ) ∧
      f_Mo_within x4 0 7 = some 1 ∧ f_Mo_named ρ x1 x2 x3 1 = some (1, ρ) ∧ x4 < gM_row ρ (17 * o + 8)) ∨
    (∃ k, zq_KK k ∧ f_Ke_needCell σ x1 x2 x3 x4 = some (.error k, σ) ∧ ∀ y5 y6, f_Mo_cell ρ x1 x2 x3 x4 y5 y6 = some (0, sM_code ρ (nI k))) := by
  obtain ⟨a1, a2, a3, a4, a5⟩ := h.b
  unfold f_Ke_needCell f_Mo_cell
  rcases zq_zp_btw x4 (A := 0) (B := 7) (a := 0) (b := 7) rfl rfl (by omega) (by omega) with ⟨i, i1, i2, rfl, i3, i4⟩ | ⟨i3, i4⟩
  · rcases zq_zp_named h hc x1 x2 x3 1 with ⟨t, d, o, ⟨t1, t2, rfl⟩, ⟨d1, d2, rfl⟩, ⟨o1, o2, rfl⟩, k1, k2, k3, k4, n1, n2, n3, n4, n5, n6⟩ | ⟨n1, n2⟩ | ⟨n1, n2, n3⟩ | ⟨n1, n2, n3, n4, n5, n6⟩
    · simp only [zq_zp_1neg, false_or] at n4
      simp only [i3, i4, n1, n2, n3, n4, n5, n6, Option.bind_some, zq_zp_10, if_false, zq_zx_ok, zq_gt_count σ (show o ≤ 60 by omega), h.cc o1 o2, zq_zp_at8 ρ o (show o ≤ 60 by omega)]
      by_cases hlt : nI i < gM_row ρ (17 * o + 8)
      · left
        have hle : ¬ (gM_row ρ (17 * o + 8) ≤ nI i) := by rw [zq_zp_nle]; exact hlt
        exact ⟨t, d, o, i, ⟨t1, t2, rfl⟩, ⟨d1, d2, rfl⟩, ⟨o1, o2, rfl⟩, ⟨by omega, rfl⟩, if_neg hle, trivial, trivial, hlt⟩
      · right
        have hle : gM_row ρ (17 * o + 8) ≤ nI i := by rw [zq_zp_nlt] at hlt; exact hlt
        refine ⟨2, zq_k_2, if_pos hle, fun y5 y6 => ?_⟩
        rw [if_neg hlt]; rfl
    · right; refine ⟨2, zq_k_2, ?_, fun y5 y6 => ?_⟩
      · simp only [i3, n1, Option.bind_some, zq_zp_10, if_false, zq_zx_err]
      · simp only [i4, n2, Option.bind_some, zq_zp_10, if_false, if_true]; rfl
    · right; refine ⟨1, zq_k_1, ?_, fun y5 y6 => ?_⟩
      · rcases n2 with n2 | ⟨n2, n4 | ⟨n4, -, n5⟩⟩
        · simp only [i3, n1, n2, Option.bind_some, zq_zp_10, if_false, if_true, zq_zx_ok]
        · simp only [i3, n1, n2, n4, Option.bind_some, zq_zp_10, if_false, if_true, zq_zx_ok]
        · simp only [i3, n1, n2, n4, n5, Option.bind_some, zq_zp_10, if_false, if_true, zq_zx_ok]
      · simp only [i4, n3, Option.bind_some, zq_zp_10, if_false, if_true]; rfl
    · right; refine ⟨2, zq_k_2, ?_, fun y5 y6 => ?_⟩
      · simp only [zq_zp_1neg, false_or] at n4
        simp only [i3, n1, n2, n3, n4, n5, Option.bind_some, zq_zp_10, if_false, if_true, zq_zx_ok]
      · simp only [i4, n6, Option.bind_some, zq_zp_10, if_false, if_true]; rfl
  · right; refine ⟨1, zq_k_1, ?_, fun y5 y6 => ?_⟩
    · simp only [i3, Option.bind_some, if_true]
    · simp only [i4, Option.bind_some, if_true]; rfl
theorem zq_zp_opRead {s m g : Nat} {σ : KS} {ρ : RS} (h : zq_Rel s m g σ.1 (gM_row ρ)) (hc : gM_code ρ = 0) (x1 x2 x3 x4 y : Int32) :
    zq_Step σ ρ (f_Ke_read σ x1 x2 x3 x4) (f_Mo_cell ρ x1 x2 x3 x4 0 y) (fun _ τ r => τ = σ.1 ∧ r = gM_row ρ ∧ ∃ d, 1 ≤ d ∧ d ≤ m ∧ x2 = nI d) := by
  obtain ⟨a1, a2, a3, a4, a5⟩ := h.b
  unfold f_Ke_read
  rcases zq_zp_needCell h hc x1 x2 x3 x4 with ⟨t, d, o, i, ⟨t1, t2, rfl⟩, ⟨d1, d2, rfl⟩, ⟨o1, o2, rfl⟩, ⟨i1, rfl⟩, n1, n2, n3, n4⟩ | ⟨k, hk, n1, n2⟩
  · unfold f_Mo_cell
    simp only [n1, n2, n3, Option.bind_some, zq_zp_10, if_false, if_true, zq_zx_ok, zq_zp_at8 ρ o (show o ≤ 60 by omega), if_pos n4, zq_gt_cell σ (show o ≤ 60 by omega) i1, h.ce o1 o2 i1]
    rcases zq_zp_sees h t1 t2 d1 d2 with ⟨e1, e2⟩ | ⟨e1, e2⟩
    · rcases zq_zp_sees h t1 t2 o1 o2 with ⟨f1, f2⟩ | ⟨f1, f2⟩
      · simp only [e1, e2, f1, f2, Option.bind_some, zq_zp_10, if_false, zq_zp_ixc, zq_zp_cl (17 * o + 9 + i) (show 17 * o + 9 + i < 2147483648 by omega), zq_zp_gF (show 17 * o + 9 + i < 1552 by omega) (show 1552 < 2147483648 by omega)]
        exact zq_Step.good _ σ.1 (gM_row ρ) rfl rfl ⟨rfl, rfl, d, d1, d2, rfl⟩
      · simp only [e1, e2, f1, f2, Option.bind_some, zq_zp_10, if_false, if_true]
        exact zq_Step.err 3 zq_k_3 0 rfl rfl
    · simp only [e1, e2, Option.bind_some, if_true]
      exact zq_Step.err 3 zq_k_3 0 rfl rfl
  · rw [n1, n2]
    exact zq_Step.err k hk 0 rfl rfl
theorem zq_zp_opWrite {s m g : Nat} {σ : KS} {ρ : RS} (h : zq_Rel s m g σ.1 (gM_row ρ)) (hc : gM_code ρ = 0) (x1 x2 x3 x4 x5 : Int32) {y : Int32} (hy : ¬ y = 0) :
    zq_Step σ ρ (f_Ke_write σ x1 x2 x3 x4 x5) (f_Mo_cell ρ x1 x2 x3 x4 y x5) (fun _ τ r => zq_RR τ r) := by
  obtain ⟨a1, a2, a3, a4, a5⟩ := h.b
  unfold f_Ke_write
  rcases zq_zp_needCell h hc x1 x2 x3 x4 with ⟨t, d, o, i, ⟨t1, t2, rfl⟩, ⟨d1, d2, rfl⟩, ⟨o1, o2, rfl⟩, ⟨i1, rfl⟩, n1, n2, n3, n4⟩ | ⟨k, hk, n1, n2⟩
  · unfold f_Mo_cell
    simp only [n1, n2, n3, Option.bind_some, zq_zp_10, if_false, if_true, zq_zx_ok, zq_zp_at8 ρ o (show o ≤ 60 by omega), if_pos n4, if_neg hy, zq_gt_cell σ (show o ≤ 60 by omega) i1, zq_gt_setCell σ (show o ≤ 60 by omega) i1, h.ce o1 o2 i1]
    rcases zq_zp_sees h t1 t2 d1 d2 with ⟨e1, e2⟩ | ⟨e1, e2⟩
    · rcases zq_zp_changes h t1 t2 o1 o2 with ⟨f1, f2⟩ | ⟨f1, f2⟩
      · simp only [e1, e2, f1, f2, Option.bind_some, zq_zp_10, if_false, zq_zp_ixc, zq_zp_cl (17 * o + 9 + i) (show 17 * o + 9 + i < 2147483648 by omega), zq_zp_gF (show 17 * o + 9 + i < 1552 by omega) (show 1552 < 2147483648 by omega), zl]
        exact zq_Step.good _ _ _ rfl rfl ⟨s, m, g, zq_Rel_cell h o1 o2 i1 x5⟩
      · simp only [e1, e2, f1, f2, Option.bind_some, zq_zp_10, if_false, if_true]
        exact zq_Step.err 3 zq_k_3 0 rfl rfl
    · simp only [e1, e2, Option.bind_some, if_true]
      exact zq_Step.err 3 zq_k_3 0 rfl rfl
  · rw [n1, n2]
    exact zq_Step.err k hk 0 rfl rfl
theorem zq_zp_objIn {s m g : Nat} {σ : KS} {ρ : RS} (h : zq_Rel s m g σ.1 (gM_row ρ)) (hc : gM_code ρ = 0) (x1 x2 x3 : Int32) :
    (∃ t d o, (1 ≤ t ∧ t ≤ m ∧ x1 = nI t) ∧ (1 ≤ d ∧ d ≤ m ∧ x2 = nI d) ∧ (1 ≤ o ∧ o ≤ m ∧ x3 = nI o) ∧ f_Ke_needObjectIn σ x1 x2 x3 = some (.ok (), σ) ∧ f_Mo_named ρ x1 x2 x3 (-1) = some (1, ρ)) ∨
    (∃ k, zq_KK k ∧ f_Ke_needObjectIn σ x1 x2 x3 = some (.error k, σ) ∧ f_Mo_named ρ x1 x2 x3 (-1) = some (0, sM_code ρ (nI k))) := by
  have hm : ((-1 : Int32) < 0) = True := by decide
  unfold f_Ke_needObjectIn
  rcases zq_zp_named h hc x1 x2 x3 (-1) with ⟨t, d, o, ⟨t1, t2, rfl⟩, ⟨d1, d2, rfl⟩, ⟨o1, o2, rfl⟩, k1, k2, k3, k4, n1, n2, n3, n4, n5, n6⟩ | ⟨n1, n2⟩ | ⟨n1, n2, n3⟩ | ⟨n1, n2, n3, n4, n5, n6⟩
  · left; refine ⟨t, d, o, ⟨t1, t2, rfl⟩, ⟨d1, d2, rfl⟩, ⟨o1, o2, rfl⟩, ?_, n6⟩
    simp only [n1, n2, n3, n5, Option.bind_some, zq_zp_10, if_false, zq_zx_ok]
  · right; refine ⟨2, zq_k_2, ?_, n2⟩
    simp only [n1, zq_zx_err]
  · right; refine ⟨1, zq_k_1, ?_, n3⟩
    rcases n2 with n2 | ⟨n2, n4 | ⟨n4, n5, -⟩⟩
    · simp only [n1, n2, Option.bind_some, if_true, zq_zx_ok]
    · simp only [n1, n2, n4, Option.bind_some, zq_zp_10, if_false, if_true, zq_zx_ok]
    · exact absurd (by decide) n5
  · right; refine ⟨2, zq_k_2, ?_, n6⟩
    simp only [n1, n2, n3, n5, Option.bind_some, zq_zp_10, if_false, if_true, zq_zx_ok]
theorem zq_gt_setQuota (σ : KS) {o : Nat} (ho : o ≤ 60) (x : Int32) : f_Tg_setQuota σ (nI o) x = some (q_quota σ.1 (upd (p_quota σ.1) o x), σ.2) := by
  unfold f_Tg_setQuota
  simp only [zq_zp_cl o (show o < 2147483648 by omega), zq_zp_gF (show o < 61 by omega) (show 61 < 2147483648 by omega), if_false, zl]
  rfl
theorem zq_gt_setLabel (σ : KS) {o : Nat} (ho : o ≤ 60) (x : Int32) : f_Tg_setLabel σ (nI o) x = some (q_label σ.1 (upd (p_label σ.1) o x), σ.2) := by
  unfold f_Tg_setLabel
  simp only [zq_zp_cl o (show o < 2147483648 by omega), zq_zp_gF (show o < 61 by omega) (show 61 < 2147483648 by omega), if_false, zl]
  rfl
theorem zq_gt_setClear (σ : KS) {o : Nat} (ho : o ≤ 60) (x : Int32) : f_Tg_setClearance σ (nI o) x = some (q_clearance σ.1 (upd (p_clearance σ.1) o x), σ.2) := by
  unfold f_Tg_setClearance
  simp only [zq_zp_cl o (show o < 2147483648 by omega), zq_zp_gF (show o < 61 by omega) (show 61 < 2147483648 by omega), if_false, zl]
  rfl
theorem zq_gt_setCount (σ : KS) {o : Nat} (ho : o ≤ 60) (x : Int32) : f_Tg_setCellCount σ (nI o) x = some (q_cellCount σ.1 (upd (p_cellCount σ.1) o x), σ.2) := by
  unfold f_Tg_setCellCount
  simp only [zq_zp_cl o (show o < 2147483648 by omega), zq_zp_gF (show o < 61 by omega) (show 61 < 2147483648 by omega), if_false, zl]
  rfl
theorem zq_gt_setGuard (σ : KS) {o : Nat} (ho : o ≤ 60) (x y : Int32) : f_Tg_setGuardAndEntry σ (nI o) x y = some (q_entry (q_guard σ.1 (upd (p_guard σ.1) o x)) (upd (p_entry σ.1) o y), σ.2) := by
  unfold f_Tg_setGuardAndEntry
  simp only [zq_zp_cl o (show o < 2147483648 by omega), zq_zp_gF (show o < 61 by omega) (show 61 < 2147483648 by omega), if_false, zl]
  rfl
theorem zq_zp_opMove {s m g : Nat} {σ : KS} {ρ : RS} (h : zq_Rel s m g σ.1 (gM_row ρ)) (hc : gM_code ρ = 0) (x1 x2 x3 x4 : Int32) :
    zq_Step σ ρ (f_Ke_move σ x1 x2 x3 x4) (f_Mo_move ρ x1 x2 x3 x4) (fun _ τ r => zq_RR τ r) := by
  obtain ⟨a1, a2, a3, a4, a5⟩ := h.b
  have e0 : sM_code ρ 0 = ρ := by rw [← hc]; rfl
  unfold f_Ke_move f_Mo_move
  simp only [zl, e0]
  rcases zq_zp_btw' x4 (-200) 200 with ⟨i1, i2⟩ | ⟨i1, i2⟩
  · rcases zq_zp_objIn h hc x1 x2 x3 with ⟨t, d, o, ⟨t1, t2, rfl⟩, ⟨d1, d2, rfl⟩, ⟨o1, o2, rfl⟩, n1, n2⟩ | ⟨k, hk, n1, n2⟩
    · obtain ⟨r, r1, r2⟩ := zq_zp_use h o1 o2
      obtain ⟨q, q1, q2⟩ := zq_zp_use h d1 d2
      rcases zq_zp_changes h t1 t2 d1 d2 with ⟨c1, c2⟩ | ⟨c1, c2⟩
      · rcases zq_zp_changes h t1 t2 o1 o2 with ⟨f1, f2⟩ | ⟨f1, f2⟩
        · simp only [i1, i2, n1, n2, c1, c2, f1, f2, r1, r2, q1, q2, Option.bind_some, zq_zp_10, if_false, zq_zx_ok, zq_gt_quota σ (show o ≤ 60 by omega), zq_gt_quota σ (show d ≤ 60 by omega), h.qu o1 o2, h.qu d1 d2, zq_zp_at3 ρ o (show o ≤ 60 by omega), zq_zp_at3 ρ d (show d ≤ 60 by omega)]
          by_cases w1 : gM_row ρ (17 * o + 3) + x4 < r
          · by_cases w2 : gM_row ρ (17 * d + 3) < q + x4
            · simp only [w1, w2, if_true]
              exact zq_Step.err 4 zq_k_4 0 rfl rfl
            · have w3 : ¬ (r ≤ gM_row ρ (17 * o + 3) + x4) := by rw [zq_zp_nle]; exact w1
              simp only [w1, w2, w3, if_true, if_false]
              exact zq_Step.err 4 zq_k_4 0 rfl rfl
          · have w3 : r ≤ gM_row ρ (17 * o + 3) + x4 := by rw [zq_zp_nlt] at w1; exact w1
            by_cases w2 : gM_row ρ (17 * d + 3) < q + x4
            · simp only [w1, w2, if_true, if_false]
              exact zq_Step.err 4 zq_k_4 0 rfl rfl
            · simp only [w1, w2, w3, if_true, if_false, zq_zp_ix3, zq_zp_cl (17 * o + 3) (show 17 * o + 3 < 2147483648 by omega), zq_zp_gF (show 17 * o + 3 < 1552 by omega) (show 1552 < 2147483648 by omega), zq_zp_at3 _ o (show o ≤ 60 by omega), Option.bind_some, zq_gt_setQuota σ (show o ≤ 60 by omega)]
              refine zq_Step.good (gM_row ρ (17 * o + 3) + x4) _ (upd (gM_row ρ) (17 * o + 3) (gM_row ρ (17 * o + 3) + x4)) rfl ?_ ⟨s, m, g, zq_Rel_quota h o1 o2 _⟩
              have : gM_row (sM_row ρ (upd (gM_row ρ) (17 * o + 3) (gM_row ρ (17 * o + 3) + x4))) (17 * o + 3) = gM_row ρ (17 * o + 3) + x4 := zq_upd_eq
              rw [this]
        · simp only [i1, i2, n1, n2, c1, c2, f1, f2, Option.bind_some, zq_zp_10, if_false, if_true, zq_zx_ok]
          exact zq_Step.err 3 zq_k_3 0 rfl rfl
      · simp only [i1, i2, n1, n2, c1, c2, Option.bind_some, zq_zp_10, if_false, if_true, zq_zx_ok]
        exact zq_Step.err 3 zq_k_3 0 rfl rfl
    · simp only [i1, i2, n1, n2, Option.bind_some, zq_zp_10, if_false, if_true, zq_zx_err]
      exact zq_Step.err k hk 0 rfl rfl
  · simp only [i1, i2, Option.bind_some, if_true]
    exact zq_Step.err 1 zq_k_1 0 rfl rfl
theorem zq_zp_opDrop {s m g : Nat} {σ : KS} {ρ : RS} (h : zq_Rel s m g σ.1 (gM_row ρ)) (hc : gM_code ρ = 0) (x1 x2 x3 : Int32) :
    zq_Step σ ρ (f_Ke_drop σ x1 x2 x3) (f_Mo_remove ρ x1 x2 x3) (fun _ τ r => zq_Rel s m g τ r ∧ ∃ f, τ = q_there σ.1 f) := by
  obtain ⟨a1, a2, a3, a4, a5⟩ := h.b
  unfold f_Ke_drop f_Mo_remove
  rcases zq_zp_objIn h hc x1 x2 x3 with ⟨t, d, o, ⟨t1, t2, rfl⟩, ⟨d1, d2, rfl⟩, ⟨o1, o2, rfl⟩, n1, n2⟩ | ⟨k, hk, n1, n2⟩
  · rcases zq_zp_changes h t1 t2 d1 d2 with ⟨c1, c2⟩ | ⟨c1, c2⟩
    · obtain ⟨v, f, row', r1, r2, r3⟩ := zq_zp_remove h o1 o2 (nI t) (nI d) (nI o)
      simp only [n1, n2, c1, c2, r1, r2, Option.bind_some, zq_zp_10, if_false, zq_zx_ok, zl, zq_zp_ix0, zq_zp_s1, zq_zp_cl (17 * o) (show 17 * o < 2147483648 by omega), zq_zp_gF (show 17 * o < 1552 by omega) (show 1552 < 2147483648 by omega)]
      exact zq_Step.good v _ row' rfl rfl ⟨r3, f, rfl⟩
    · simp only [n1, n2, c1, c2, Option.bind_some, zq_zp_10, if_false, if_true, zq_zx_ok]
      exact zq_Step.err 3 zq_k_3 0 rfl rfl
  · simp only [n1, n2, Option.bind_some, if_true, zq_zx_err]
    exact zq_Step.err k hk 0 rfl rfl
theorem zq_zp_bear {s m g : Nat} {σ : KS} {ρ : RS} (h : zq_Rel s m g σ.1 (gM_row ρ)) {t l : Nat} (t1 : 1 ≤ t) (t2 : t ≤ m) (hk : gM_row ρ (17 * t + 1) = 3) (hl : l < s) :
    ∃ tl tc, tl < s ∧ tc < s ∧ gM_row ρ (17 * t + 2) = nI tl ∧ gM_row ρ (17 * t + 6) = nI tc ∧
    ((f_Ke_mayBear σ (nI t) (nI l) = some 1 ∧ f_Mo_under ρ (nI tl) (nI l) 0 = some 1 ∧ f_Mo_under ρ (nI l) (nI tc) 0 = some 1 ∧ f_Mo_starsOf ρ (nI l) (nI t) = some 1) ∨
     (f_Ke_mayBear σ (nI t) (nI l) = some 0 ∧ (f_Mo_under ρ (nI tl) (nI l) 0 = some 0 ∨ (f_Mo_under ρ (nI tl) (nI l) 0 = some 1 ∧ (f_Mo_under ρ (nI l) (nI tc) 0 = some 0 ∨ (f_Mo_under ρ (nI l) (nI tc) 0 = some 1 ∧ f_Mo_starsOf ρ (nI l) (nI t) = some 0)))))) := by
  obtain ⟨a1, a2, a3, a4, a5⟩ := h.b
  obtain ⟨tl, l1, l2, l3⟩ := h.la t1 t2
  obtain ⟨tc, c1, c2, c3⟩ := h.cl t1 t2 (Or.inr hk)
  refine ⟨tl, tc, l1, c1, l3, c3, ?_⟩
  unfold f_Ke_mayBear
  rw [zq_gt_label σ (show t ≤ 60 by omega), zq_gt_clear σ (show t ≤ 60 by omega), l2, c2]
  rcases zq_zp_bU a2 h.lb l1 hl with ⟨e1, e2⟩ | ⟨e1, e2⟩
  · rcases zq_zp_bU a2 h.lb hl c1 with ⟨f1, f2⟩ | ⟨f1, f2⟩
    · rcases zq_zp_bS a2 h.lb hl l1 (show t ≤ 60 by omega) l3 with ⟨g1, g2⟩ | ⟨g1, g2⟩
      · left; simp only [e1, e2, f1, f2, g1, g2, Option.bind_some, zq_zp_10, if_false, and_self]
      · right; simp only [e1, e2, f1, f2, g1, g2, Option.bind_some, zq_zp_10, if_false, if_true]
        exact ⟨trivial, Or.inr ⟨trivial, Or.inr ⟨trivial, trivial⟩⟩⟩
    · right; simp only [e1, e2, f1, f2, Option.bind_some, zq_zp_10, if_false, if_true]
      exact ⟨trivial, Or.inr ⟨trivial, Or.inl trivial⟩⟩
  · right; simp only [e1, e2, Option.bind_some, if_true]
    exact ⟨trivial, Or.inl trivial⟩
theorem zq_zp_opBecome {s m g : Nat} {σ : KS} {ρ : RS} (h : zq_Rel s m g σ.1 (gM_row ρ)) (hc : gM_code ρ = 0) (x1 x2 : Int32) :
    zq_Step σ ρ (f_Ke_become σ x1 x2) (f_Mo_become ρ x1 x2) (fun _ τ r => zq_RR τ r) := by
  obtain ⟨a1, a2, a3, a4, a5⟩ := h.b
  have e0 : sM_code ρ 0 = ρ := by rw [← hc]; rfl
  unfold f_Ke_become f_Mo_become
  simp only [zl, e0]
  rcases zq_zp_has a2 h.sz h.szM (show 1 ≤ s by omega) x2 with ⟨l, l1, rfl, l2, l3⟩ | ⟨l2, l3⟩
  · rcases zq_zp_thread h hc x1 with ⟨t, t1, t2, rfl, t3, t4, t5⟩ | ⟨k, hk, t4, t5⟩
    · obtain ⟨tl, tc, b1, b2, b3, b4, b5⟩ := zq_zp_bear h t1 t2 t3 l1
      rcases b5 with ⟨b5, b6, b7, b8⟩ | ⟨b5, b6⟩
      · simp only [l2, l3, t4, t5, b3, b4, b5, b6, b7, b8, Option.bind_some, zq_zp_10, if_false, zq_zx_ok, zq_zp_at2 ρ t (show t ≤ 60 by omega), zq_zp_at6 ρ t (show t ≤ 60 by omega), zq_gt_setLabel σ (show t ≤ 60 by omega), zq_zp_ix2, zq_zp_cl (17 * t + 2) (show 17 * t + 2 < 2147483648 by omega), zq_zp_gF (show 17 * t + 2 < 1552 by omega) (show 1552 < 2147483648 by omega)]
        exact zq_Step.good 0 _ _ rfl rfl ⟨s, m, g, zq_Rel_label h t1 t2 l1⟩
      · rcases b6 with b6 | ⟨b6, b7 | ⟨b7, b8⟩⟩
        · simp only [l2, l3, t4, t5, b3, b4, b5, b6, Option.bind_some, zq_zp_10, if_false, if_true, zq_zx_ok, zq_zp_at2 ρ t (show t ≤ 60 by omega), zq_zp_at6 ρ t (show t ≤ 60 by omega)]
          exact zq_Step.err 3 zq_k_3 0 rfl rfl
        · simp only [l2, l3, t4, t5, b3, b4, b5, b6, b7, Option.bind_some, zq_zp_10, if_false, if_true, zq_zx_ok, zq_zp_at2 ρ t (show t ≤ 60 by omega), zq_zp_at6 ρ t (show t ≤ 60 by omega)]
          exact zq_Step.err 3 zq_k_3 0 rfl rfl
        · simp only [l2, l3, t4, t5, b3, b4, b5, b6, b7, b8, Option.bind_some, zq_zp_10, if_false, if_true, zq_zx_ok, zq_zp_at2 ρ t (show t ≤ 60 by omega), zq_zp_at6 ρ t (show t ≤ 60 by omega)]
          exact zq_Step.err 3 zq_k_3 0 rfl rfl
    · simp only [l2, l3, t4, t5, Option.bind_some, zq_zp_10, if_false, if_true, zq_zx_err]
      exact zq_Step.err k hk 0 rfl rfl
  · simp only [l2, l3, Option.bind_some, if_true]
    exact zq_Step.err 1 zq_k_1 0 rfl rfl
theorem zq_zp_opLower {s m g : Nat} {σ : KS} {ρ : RS} (h : zq_Rel s m g σ.1 (gM_row ρ)) (hc : gM_code ρ = 0) (x1 x2 : Int32) :
    zq_Step σ ρ (f_Ke_lower σ x1 x2) (f_Mo_lower ρ x1 x2) (fun _ τ r => zq_RR τ r) := by
  obtain ⟨a1, a2, a3, a4, a5⟩ := h.b
  have e0 : sM_code ρ 0 = ρ := by rw [← hc]; rfl
  unfold f_Ke_lower f_Mo_lower
  simp only [zl, e0]
  rcases zq_zp_isStarless a2 h.sz h.szM (show 1 ≤ s by omega) h.lb x2 with ⟨l, l1, rfl, l2, l3, l4⟩ | ⟨l2, l3⟩
  · rcases zq_zp_thread h hc x1 with ⟨t, t1, t2, rfl, t3, t4, t5⟩ | ⟨k, hk, t4, t5⟩
    · obtain ⟨tl, u1, u2, u3⟩ := h.la t1 t2
      obtain ⟨tc, c1, c2, c3⟩ := h.cl t1 t2 (Or.inr t3)
      simp only [l2, l3, l4, t4, t5, Option.bind_some, zq_zp_10, if_false, zq_zx_ok, zq_gt_clear σ (show t ≤ 60 by omega), zq_gt_label σ (show t ≤ 60 by omega), c2, c3, u2, u3, zq_zp_at2 ρ t (show t ≤ 60 by omega), zq_zp_at6 ρ t (show t ≤ 60 by omega)]
      rcases zq_zp_bU a2 h.lb l1 c1 with ⟨e1, e2⟩ | ⟨e1, e2⟩
      · rcases zq_zp_bU a2 h.lb u1 l1 with ⟨f1, f2⟩ | ⟨f1, f2⟩
        · simp only [e1, e2, f1, f2, Option.bind_some, zq_zp_10, if_false, zq_gt_setClear σ (show t ≤ 60 by omega), zq_zp_ix6, zq_zp_cl (17 * t + 6) (show 17 * t + 6 < 2147483648 by omega), zq_zp_gF (show 17 * t + 6 < 1552 by omega) (show 1552 < 2147483648 by omega)]
          exact zq_Step.good 0 _ _ rfl rfl ⟨s, m, g, zq_Rel_clear h t1 t2 l1 (Or.inr t3)⟩
        · simp only [e1, e2, f1, f2, Option.bind_some, zq_zp_10, if_false, if_true]
          exact zq_Step.err 3 zq_k_3 0 rfl rfl
      · simp only [e1, e2, Option.bind_some, if_true]
        exact zq_Step.err 3 zq_k_3 0 rfl rfl
    · simp only [l2, l3, l4, t4, t5, Option.bind_some, zq_zp_10, if_false, if_true, zq_zx_err]
      exact zq_Step.err k hk 0 rfl rfl
  · rcases l3 with l3 | ⟨l3, l4⟩
    · simp only [l2, l3, Option.bind_some, if_true]
      exact zq_Step.err 1 zq_k_1 0 rfl rfl
    · simp only [l2, l3, l4, Option.bind_some, zq_zp_10, if_false, if_true]
      exact zq_Step.err 1 zq_k_1 0 rfl rfl
theorem zq_zp_opEnter {s m g : Nat} {σ : KS} {ρ : RS} (h : zq_Rel s m g σ.1 (gM_row ρ)) (hc : gM_code ρ = 0) (x1 x2 x3 x4 x5 : Int32) :
    zq_Step σ ρ (f_Ke_enter σ x1 x2 x3 x4 x5) (f_Mo_go ρ x1 x2 x3 x4 x5) (fun _ τ r => zq_RR τ r) := by
  obtain ⟨a1, a2, a3, a4, a5⟩ := h.b
  unfold f_Ke_enter f_Mo_go
  rcases zq_zp_has a2 h.sz h.szM (show 1 ≤ s by omega) x4 with ⟨l, l1, rfl, l2, l3⟩ | ⟨l2, l3⟩
  · rcases zq_zp_isStarless a2 h.sz h.szM (show 1 ≤ s by omega) h.lb x5 with ⟨k, k1, rfl, k2, k3, k4⟩ | ⟨k2, k3⟩
    · simp only [l2, l3, k2, k3, k4, Option.bind_some, zq_zp_10, if_false]
      rcases zq_zp_named h hc x1 x2 x3 2 with ⟨t, d, q, ⟨t1, t2, rfl⟩, ⟨d1, d2, rfl⟩, ⟨q1, q2, rfl⟩, b1, b2, b3, b4, n1, n2, n3, n4, n5, n6⟩ | ⟨n1, n2⟩ | ⟨n1, n2, n3⟩ | ⟨n1, n2, n3, n4, n5, n6⟩
      · simp only [zq_zp_2neg, false_or] at n4 b3
        obtain ⟨tl, tl1, tl2, tl3⟩ := h.la t1 t2
        obtain ⟨tc, tc1, tc2, tc3⟩ := h.cl t1 t2 (Or.inr b1)
        obtain ⟨ql, ql1, ql2, ql3⟩ := h.la q1 q2
        obtain ⟨qc, qc1, qc2, qc3⟩ := h.cl q1 q2 (Or.inl b3)
        obtain ⟨⟨qg, qg1, qg2, qg3⟩, qe⟩ := h.ga q1 q2 b3
        unfold f_Mo_passes
        simp only [n1, n2, n3, n4, n5, n6, Option.bind_some, zq_zp_10, if_false, zq_zx_ok, zq_gt_label σ (show t ≤ 60 by omega), zq_gt_label σ (show q ≤ 60 by omega), zq_gt_guard σ (show q ≤ 60 by omega), zq_gt_clear σ (show t ≤ 60 by omega), zq_gt_clear σ (show q ≤ 60 by omega), tl2, tc2, ql2, qc2, qg2, zq_zp_at2 ρ t (show t ≤ 60 by omega), zq_zp_at5 ρ q (show q ≤ 60 by omega), tl3, qg3]
        rcases zq_zp_sees h t1 t2 d1 d2 with ⟨e1, e2⟩ | ⟨e1, e2⟩
        · rcases zq_zp_bU a2 h.lb tl1 qg1 with ⟨f1, f2⟩ | ⟨f1, f2⟩
          · have J := zq_zp_join σ (show l < 60 by omega) (show tl < 60 by omega) (show ql < 60 by omega)
            have N := zq_zp_nowhere σ (show k < 60 by omega) (show tc < 60 by omega) (show qc < 60 by omega)
            have P := zq_zp_pass36 a2 h.lb l1 k1 (show t ≤ 60 by omega) (show q ≤ 60 by omega) tl3 tc3 ql3 qc3 tl1 tc1 ql1 qc1
            rcases zq_zp_bU a2 h.lb l1 k1 with ⟨u1, u2⟩ | ⟨u1, u2⟩
            · rcases J with ⟨j1, j2⟩ | ⟨j1, j2⟩
              · rcases N with ⟨w1, w2⟩ | ⟨w1, w2⟩
                · rcases P with ⟨p1, p2⟩ | ⟨p1, p2⟩
                  · simp only [e1, e2, f1, f2, j1, u1, u2, w1, p1, Option.bind_some, zq_zp_10, if_false, zq_gt_setLabel σ (show t ≤ 60 by omega), zq_gt_setClear _ (show t ≤ 60 by omega), zq_gt_entry _ (show q ≤ 60 by omega), zl, zq_zp_ix2, zq_zp_ix6, zq_zp_cl (17 * t + 2) (show 17 * t + 2 < 2147483648 by omega), zq_zp_cl (17 * t + 6) (show 17 * t + 6 < 2147483648 by omega), zq_zp_gF (show 17 * t + 2 < 1552 by omega) (show 1552 < 2147483648 by omega), zq_zp_gF (show 17 * t + 6 < 1552 by omega) (show 1552 < 2147483648 by omega), zq_zp_at7 _ q (show q ≤ 60 by omega)]
                    have R1 := zq_Rel_label h t1 t2 l1
                    have b1' : upd (gM_row ρ) (17 * t + 2) (nI l) (17 * t + 1) = 3 := by rw [zq_upd_ne (by omega)]; exact b1
                    have R2 := zq_Rel_clear R1 t1 t2 k1 (Or.inr b1')
                    refine zq_Step.good (gM_row ρ (17 * q + 7)) _ _ ?_ ?_ ⟨s, m, g, R2⟩
                    · have : gN_entry (q_clearance (q_label σ.1 (upd (p_label σ.1) t (nI l))) (upd (p_clearance (q_label σ.1 (upd (p_label σ.1) t (nI l)))) t (nI k)), σ.2) q = gM_row ρ (17 * q + 7) := qe
                      rw [this]
                    · have : gM_row (sM_row (sM_row ρ (upd (gM_row ρ) (17 * t + 2) (nI l))) (upd (gM_row (sM_row ρ (upd (gM_row ρ) (17 * t + 2) (nI l)))) (17 * t + 6) (nI k))) (17 * q + 7) = gM_row ρ (17 * q + 7) := by
                        show upd (upd (gM_row ρ) (17 * t + 2) (nI l)) (17 * t + 6) (nI k) (17 * q + 7) = _
                        rw [zq_upd_ne (by omega), zq_upd_ne (by omega)]
                      rw [this]; rfl
                  · exact absurd (fun c hc' => ⟨j2 c hc', w2 c hc'⟩) p2
                · rcases P with ⟨p1, p2⟩ | ⟨p1, p2⟩
                  · exact absurd (fun c hc' => (p2 c hc').2) w2
                  · simp only [e1, e2, f1, f2, j1, u1, u2, w1, p1, Option.bind_some, zq_zp_10, if_false, if_true]
                    exact zq_Step.err 3 zq_k_3 0 rfl rfl
              · rcases P with ⟨p1, p2⟩ | ⟨p1, p2⟩
                · exact absurd (fun c hc' => (p2 c hc').1) j2
                · simp only [e1, e2, f1, f2, j1, u1, u2, p1, Option.bind_some, zq_zp_10, if_false, if_true]
                  exact zq_Step.err 3 zq_k_3 0 rfl rfl
            · rcases J with ⟨j1, j2⟩ | ⟨j1, j2⟩
              · simp only [e1, e2, f1, f2, j1, u1, u2, Option.bind_some, zq_zp_10, if_false, if_true]
                exact zq_Step.err 3 zq_k_3 0 rfl rfl
              · simp only [e1, e2, f1, f2, j1, u1, u2, Option.bind_some, zq_zp_10, if_false, if_true]
                exact zq_Step.err 3 zq_k_3 0 rfl rfl
          · simp only [e1, e2, f1, f2, Option.bind_some, zq_zp_10, if_false, if_true]
            exact zq_Step.err 3 zq_k_3 0 rfl rfl
        · simp only [e1, e2, Option.bind_some, if_true]
          exact zq_Step.err 3 zq_k_3 0 rfl rfl
      · simp only [n1, n2, Option.bind_some, if_true, zq_zx_err]
        exact zq_Step.err 2 zq_k_2 0 rfl rfl
      · rcases n2 with n2 | ⟨n2, n4 | ⟨n4, -, n5⟩⟩
        · simp only [n1, n2, n3, Option.bind_some, if_true, zq_zx_ok]
          exact zq_Step.err 1 zq_k_1 0 rfl rfl
        · simp only [n1, n2, n3, n4, Option.bind_some, zq_zp_10, if_false, if_true, zq_zx_ok]
          exact zq_Step.err 1 zq_k_1 0 rfl rfl
        · simp only [n1, n2, n3, n4, n5, Option.bind_some, zq_zp_10, if_false, if_true, zq_zx_ok]
          exact zq_Step.err 1 zq_k_1 0 rfl rfl
      · simp only [zq_zp_2neg, false_or] at n4
        simp only [n1, n2, n3, n4, n5, n6, Option.bind_some, zq_zp_10, if_false, if_true, zq_zx_ok]
        exact zq_Step.err 2 zq_k_2 0 rfl rfl
    · rcases k3 with k3 | ⟨k3, k4⟩
      · simp only [l2, l3, k2, k3, Option.bind_some, zq_zp_10, if_false, if_true]
        exact zq_Step.err 1 zq_k_1 0 rfl rfl
      · simp only [l2, l3, k2, k3, k4, Option.bind_some, zq_zp_10, if_false, if_true]
        exact zq_Step.err 1 zq_k_1 0 rfl rfl
  · simp only [l2, l3, Option.bind_some, if_true]
    exact zq_Step.err 1 zq_k_1 0 rfl rfl
theorem zq_zp_lk {s m g : Nat} {σ : KS} {ρ : RS} (h : zq_Rel s m g σ.1 (gM_row ρ)) {l c v : Nat} (hl : l < s) (hc : c < 8) (hv : v < 16) :
    (∃ k, k < s ∧ f_Lb_indexOf σ (zq_chI (gN_packed σ l) c (nI v)) = some (nI k) ∧ f_Mo_like ρ (nI l) (nI c) (nI v) = some (nI k) ∧ gN_packed σ k = zq_chI (gN_packed σ l) c (nI v)) ∨
    (f_Lb_indexOf σ (zq_chI (gN_packed σ l) c (nI v)) = some (-1) ∧ f_Mo_like ρ (nI l) (nI c) (nI v) = some (-1)) := by
  obtain ⟨a1, a2, a3, a4, a5⟩ := h.b
  rcases zq_zp_bL a2 h.sz h.szM h.lb hl hc hv with ⟨k, h1, h2, h3⟩ | h3
  · left
    rcases zq_zp_indexOf a2 h.sz (zq_chI (gN_packed σ l) c (nI v)) with ⟨k', b1, b2, b3, -⟩ | ⟨b1, -⟩
    · rw [b2] at h2
      have e := Option.some.inj h2
      rw [zq_zp_eq (by omega) (by omega)] at e
      subst e
      exact ⟨k', b1, b2, h3, b3⟩
    · rw [b1] at h2
      exact absurd (Option.some.inj h2).symm (zq_zp_nm1 (by omega))
  · exact Or.inr h3
theorem zq_zp_num {s m g : Nat} {σ : KS} {ρ : RS} (h : zq_Rel s m g σ.1 (gM_row ρ)) {l c v : Nat} (hl : l < s) (hc : c < 8) (hv : v ≤ 4) (hr : s < 60 ∨ ∃ k, k < s ∧ gN_packed σ k = zq_chI (gN_packed σ l) c (nI v)) :
    ∃ n s' τ r, f_Lb_numberOf σ (zq_chI (gN_packed σ l) c (nI v)) = some (nI n, (τ, σ.2)) ∧ f_Mo_made ρ (nI l) (nI c) (nI v) = some (nI n, sM_row ρ r) ∧ n < s' ∧ s ≤ s' ∧ (s' = s ∨ (s' = s + 1 ∧ f_Lb_indexOf σ (zq_chI (gN_packed σ l) c (nI v)) = some (-1))) ∧ zq_Rel s' m g τ r ∧ zq_LEq σ.1 τ ∧ (∀ j, j < s → p_packed τ j = gN_packed σ j) ∧ (∀ j, j < 1037 → r j = gM_row ρ j) := by
  obtain ⟨a1, a2, a3, a4, a5⟩ := h.b
  rcases zq_zp_mk h hl hc hv with ⟨k, k1, k2, k3, k4, k5⟩ | ⟨k2, k3, k4, k5⟩
  · exact ⟨k, s, σ.1, gM_row ρ, k4, k5, k1, Nat.le_refl s, Or.inl rfl, h, zq_LEq.refl _, fun _ _ => rfl, fun _ _ => rfl⟩
  · have hs : s < 60 := by
      rcases hr with hr | ⟨k, h1, h2⟩
      · exact hr
      · exfalso
        rcases zq_zp_indexOf a2 h.sz (zq_chI (gN_packed σ l) c (nI v)) with ⟨k', b1, b2, -, -⟩ | ⟨-, b2⟩
        · rw [b2] at k2
          exact zq_zp_nm1 (show k' < 2147483648 by omega) (Option.some.inj k2)
        · exact b2 k h1 h2
    obtain ⟨q1, q2, q3⟩ := k5 hs
    exact ⟨s, s + 1, _, _, q1, q2, by omega, by omega, Or.inr ⟨rfl, k2⟩, q3, ⟨_, _, rfl⟩, fun j hj => zq_upd_ne (by omega), fun j hj => zq_lbR_row hs (by omega)⟩
theorem zq_LEq.th {σ τ : SS} (h : zq_LEq σ τ) : p_there τ = p_there σ ∧ p_kind τ = p_kind σ ∧ p_label τ = p_label σ ∧ p_clearance τ = p_clearance σ ∧ p_made τ = p_made σ ∧ p_categories τ = p_categories σ ∧ zq_UEq σ τ := by
  obtain ⟨p, z, rfl⟩ := h
  exact ⟨rfl, rfl, rfl, rfl, rfl, rfl, rfl, rfl, rfl, rfl, rfl, rfl, rfl⟩
theorem zq_zp_opCategory {s m g : Nat} {σ : KS} {ρ : RS} (h : zq_Rel s m g σ.1 (gM_row ρ)) (hc : gM_code ρ = 0) (x1 : Int32) :
    zq_Step σ ρ (f_Ke_category σ x1) (f_Mo_giveCategory ρ x1) (fun v τ r => zq_RR τ r ∧ zq_UEq σ.1 τ ∧ ∃ a, a < 8 ∧ v = nI a) := by
  obtain ⟨a1, a2, a3, a4, a5⟩ := h.b
  have e8 : (8 : Int32) = nI 8 := rfl
  have e60 : (60 : Int32) = nI 60 := rfl
  have e4 : (4 : Int32) = nI 4 := rfl
  have e3 : (3 : Int32) = nI 3 := rfl
  unfold f_Ke_category f_Mo_giveCategory
  rcases zq_zp_thread h hc x1 with ⟨t, t1, t2, rfl, t3, t4, t5⟩ | ⟨k, hk, t4, t5⟩
  · obtain ⟨tl, tl1, tl2, tl3⟩ := h.la t1 t2
    obtain ⟨tc, tc1, tc2, tc3⟩ := h.cl t1 t2 (Or.inr t3)
    simp only [t4, t5, Option.bind_some, zq_zp_10, if_false, zq_zx_ok, h.ct, zq_zp_g51, zq_zp_c51, h.ctM]
    by_cases hg : g = 8
    · have g1 : (8 : Int32) ≤ nI g := by rw [hg]; exact Int32.le_refl _
      have g2 : nI g = (8 : Int32) := by rw [hg]; rfl
      rw [if_pos g1, if_pos g2]
      exact zq_Step.err 4 zq_k_4 0 rfl rfl
    · have g1 : ¬ (8 : Int32) ≤ nI g := by rw [e8, zq_zp_le (by omega) (by omega)]; omega
      have g2 : ¬ nI g = (8 : Int32) := by rw [e8, zq_zp_eq (by omega) (by omega)]; exact hg
      have gc : g < 8 := by omega
      simp only [if_neg g1, if_neg g2, zq_gt_label σ (show t ≤ 60 by omega), zq_gt_clear σ (show t ≤ 60 by omega), tl2, tc2, zq_zp_at2 ρ t (show t ≤ 60 by omega), zq_zp_at6 ρ t (show t ≤ 60 by omega), tl3, tc3, Option.bind_some, zq_zp_changed σ tl g 4 (show tl < 60 by omega), zq_zp_changed σ tc g 3 (show tc < 60 by omega), zq_zp_g50, zq_zp_c50, h.szM, if_false, f_Lb_missing, f_Lb_free, h.sz, zq_zp_free a2]
      have fin : (s < 60 ∨ ∃ k, k < s ∧ gN_packed σ k = zq_chI (gN_packed σ tl) g 4) → ((∃ k, k < s ∧ gN_packed σ k = zq_chI (gN_packed σ tc) g 3) ∨ (s + 1 < 60) ∨ (s < 60 ∧ ¬ f_Lb_indexOf σ (zq_chI (gN_packed σ tl) g 4) = some (-1))) →
          zq_Step σ ρ ((f_Lb_numberOf σ (zq_chI (gN_packed σ tl) g 4)).bind fun v12 => (f_Tg_setLabel v12.2 (nI t) v12.1).bind fun v13 => (f_Lb_numberOf v13 (zq_chI (gN_packed σ tc) g 3)).bind fun v14 => (f_Tg_setClearance v14.2 (nI t) v14.1).bind fun v15 => zl (sN_categories v15 ((nI g) + 1)) fun u16 => some (.ok (nI g), u16))
            ((f_Mo_made ρ (nI tl) (nI g) 4).bind fun v12 => if ((17 * nI t) + 2) < 0 ∨ 1552 ≤ ((17 * nI t) + 2).toNatClampNeg then none else zl (sM_row v12.2 (upd (gM_row v12.2) ((17 * nI t) + 2).toNatClampNeg v12.1)) fun u13 => (f_Mo_at u13 (nI t) 6).bind fun v14 => (f_Mo_made u13 v14 (nI g) 3).bind fun v15 => if ((17 * nI t) + 6) < 0 ∨ 1552 ≤ ((17 * nI t) + 6).toNatClampNeg then none else zl (sM_row v15.2 (upd (gM_row v15.2) ((17 * nI t) + 6).toNatClampNeg v15.1)) fun u16 => zl (sM_row u16 (upd (gM_row u16) 1551 ((gM_row u16 1551) + 1))) fun u17 => some (nI g, u17))
            (fun v τ r => zq_RR τ r ∧ zq_UEq σ.1 τ ∧ ∃ a, a < 8 ∧ v = nI a) := by
        intro r1 r2
        obtain ⟨n, s', τ, r, q1, q2, q3, q4, q5, q6, q7, q8, q9⟩ := zq_zp_num h tl1 gc (show 4 ≤ 4 by omega) r1
        have q1' : f_Lb_numberOf σ (zq_chI (gN_packed σ tl) g 4) = some (nI n, (τ, σ.2)) := q1
        have q2' : f_Mo_made ρ (nI tl) (nI g) 4 = some (nI n, sM_row ρ r) := q2
        obtain ⟨u1, u2, u3, u4, u5, u6, u7⟩ := q7.th
        obtain ⟨b1, b2, b3, b4, b5⟩ := q6.b
        have R1 := zq_Rel_label q6 t1 t2 q3
        have R1' : zq_Rel s' m g ((q_label τ (upd (p_label τ) t (nI n)), σ.2) : KS).1 (gM_row (sM_row ρ (upd r (17 * t + 2) (nI n)))) := R1
        have pk : gN_packed (q_label τ (upd (p_label τ) t (nI n)), σ.2) tc = gN_packed σ tc := q8 tc tc1
        have rr : s' < 60 ∨ ∃ k, k < s' ∧ gN_packed (q_label τ (upd (p_label τ) t (nI n)), σ.2) k = zq_chI (gN_packed (q_label τ (upd (p_label τ) t (nI n)), σ.2) tc) g (nI 3) := by
          rcases r2 with ⟨k, k1, k2⟩ | r2 | ⟨r2, r3⟩
          · right; refine ⟨k, by omega, ?_⟩
            rw [pk]; exact (q8 k k1).trans k2
          · left; rcases q5 with q5 | ⟨q5, -⟩ <;> omega
          · left
            rcases q5 with q5 | ⟨q5, q5'⟩
            · omega
            · exact absurd q5' r3
        obtain ⟨n2, s2, τ2, r2', w1, w2, w3, w4, w5, w6, w7, w8, w9⟩ := zq_zp_num R1' (show tc < s' by omega) gc (show 3 ≤ 4 by omega) rr
        rw [pk] at w1
        have w1' : f_Lb_numberOf (q_label τ (upd (p_label τ) t (nI n)), σ.2) (zq_chI (gN_packed σ tc) g 3) = some (nI n2, (τ2, σ.2)) := w1
        have w2' : f_Mo_made (sM_row ρ (upd r (17 * t + 2) (nI n))) (nI tc) (nI g) 3 = some (nI n2, sM_row ρ r2') := w2
        have k3 : r2' (17 * t + 1) = 3 := by
          rw [w9 _ (by omega)]
          show upd r (17 * t + 2) (nI n) (17 * t + 1) = 3
          rw [zq_upd_ne (by omega), q9 _ (by omega)]; exact t3
        have R2 := zq_Rel_clear w6 t1 t2 w3 (Or.inr k3)
        have R3 := zq_Rel_cat R2 gc
        have c6 : gM_row (sM_row ρ (upd r (17 * t + 2) (nI n))) (17 * t + 6) = nI tc := by
          show upd r (17 * t + 2) (nI n) (17 * t + 6) = nI tc
          rw [zq_upd_ne (by omega), q9 _ (by omega)]; exact tc3
        have g6 : ∀ a b : Nat → Int32, sM_row (sM_row ρ a) b = sM_row ρ b := fun _ _ => rfl
        have g7 : ∀ a : Nat → Int32, gM_row (sM_row ρ a) = a := fun _ => rfl
        have cg : upd r2' (17 * t + 6) (nI n2) 1551 = nI g := by rw [zq_upd_ne (by omega)]; exact w6.ctM
        rw [q1', q2']
        simp only [Option.bind_some, zq_gt_setLabel _ (show t ≤ 60 by omega), zq_zp_ix2, zq_zp_ix6, zq_zp_cl (17 * t + 2) (show 17 * t + 2 < 2147483648 by omega), zq_zp_cl (17 * t + 6) (show 17 * t + 6 < 2147483648 by omega), zq_zp_gF (show 17 * t + 2 < 1552 by omega) (show 1552 < 2147483648 by omega), zq_zp_gF (show 17 * t + 6 < 1552 by omega) (show 1552 < 2147483648 by omega), if_false, zl, g6, g7, zq_zp_at6 _ t (show t ≤ 60 by omega)]
        rw [g7] at c6
        simp only [c6, w1', w2', Option.bind_some, zq_gt_setClear _ (show t ≤ 60 by omega), g6, g7, cg, zq_zp_s1]
        refine zq_Step.good (nI g) _ _ rfl rfl ⟨⟨_, _, _, R3⟩, ?_, g, gc, rfl⟩
        obtain ⟨-, -, -, -, -, -, v7⟩ := w7.th
        obtain ⟨x1, x2, x3, x4, x5, x6, x7⟩ := u7
        obtain ⟨y1, y2, y3, y4, y5, y6, y7⟩ := v7
        exact ⟨y1.trans x1, y2.trans x2, y3.trans x3, y4.trans x4, y5.trans x5, y6.trans x6, y7.trans x7⟩
      have p0 : ∀ {k : Nat}, k < s → (0 : Int32) ≤ nI k := fun {k} hk => by
        have e : (0 : Int32) = nI 0 := rfl
        rw [e, zq_zp_le (by omega) (by omega)]; omega
      have pm : ¬ ((0 : Int32) ≤ -1) := by decide
      have lt1 : ∀ j : Nat, j ≤ 2 → (nI (60 - s) < nI j) = (60 - s < j) := fun j hj => zq_zp_lt (by omega) (by omega)
      have le1 : ∀ j : Nat, j ≤ 2 → (nI s + nI j ≤ 60) = (s + j ≤ 60) := fun j hj => by rw [zq_zp_add, e60, zq_zp_le (by omega) (by omega)]
      rcases zq_zp_lk h tl1 gc (show 4 < 16 by omega) with ⟨k, k1, k2, k3, k4⟩ | ⟨k2, k3⟩ <;> rcases zq_zp_lk h tc1 gc (show 3 < 16 by omega) with ⟨j, j1, j2, j3, j4⟩ | ⟨j2, j3⟩
      · have k2' : f_Lb_indexOf σ (zq_chI (gN_packed σ tl) g 4) = some (nI k) := k2
        have k3' : f_Mo_like ρ (nI tl) (nI g) 4 = some (nI k) := k3
        have j2' : f_Lb_indexOf σ (zq_chI (gN_packed σ tc) g 3) = some (nI j) := j2
        have j3' : f_Mo_like ρ (nI tc) (nI g) 3 = some (nI j) := j3
        have z0 : ¬ (nI (60 - s) < (0 : Int32) + 0) := by
          have : ¬ (nI (60 - s) < nI 0) := by rw [lt1 0 (by omega)]; omega
          exact this
        have z1 : nI s + ((0 : Int32) + 0) ≤ 60 := by
          have : nI s + nI 0 ≤ 60 := by rw [le1 0 (by omega)]; omega
          exact this
        simp only [k2', k3', j2', j3', Option.bind_some, if_neg (zq_zp_nm1 (show k < 2147483648 by omega)), if_neg (zq_zp_nm1 (show j < 2147483648 by omega)), if_pos (p0 k1), if_pos (p0 j1), if_neg z0, if_pos z1]
        exact fin (Or.inr ⟨k, k1, k4⟩) (Or.inl ⟨j, j1, j4⟩)
      · have k2' : f_Lb_indexOf σ (zq_chI (gN_packed σ tl) g 4) = some (nI k) := k2
        have k3' : f_Mo_like ρ (nI tl) (nI g) 4 = some (nI k) := k3
        have j2' : f_Lb_indexOf σ (zq_chI (gN_packed σ tc) g 3) = some (-1) := j2
        have j3' : f_Mo_like ρ (nI tc) (nI g) 3 = some (-1) := j3
        simp only [k2', k3', j2', j3', Option.bind_some, if_neg (zq_zp_nm1 (show k < 2147483648 by omega)), if_pos (p0 k1), if_neg pm, if_true]
        by_cases hs : s < 60
        · have z0 : ¬ (nI (60 - s) < (0 : Int32) + 1) := by
            have : ¬ (nI (60 - s) < nI 1) := by rw [lt1 1 (by omega)]; omega
            exact this
          have z1 : nI s + ((0 : Int32) + 1) ≤ 60 := by
            have : nI s + nI 1 ≤ 60 := by rw [le1 1 (by omega)]; omega
            exact this
          simp only [if_neg z0, if_pos z1]
          exact fin (Or.inl hs) (Or.inr (Or.inr ⟨hs, by rw [k2']; exact fun e => zq_zp_nm1 (show k < 2147483648 by omega) (Option.some.inj e)⟩))
        · have z0 : nI (60 - s) < (0 : Int32) + 1 := by
            have : nI (60 - s) < nI 1 := by rw [lt1 1 (by omega)]; omega
            exact this
          have z1 : ¬ (nI s + ((0 : Int32) + 1) ≤ 60) := by
            have : ¬ (nI s + nI 1 ≤ 60) := by rw [le1 1 (by omega)]; omega
            exact this
          simp only [if_pos z0, if_neg z1]
          exact zq_Step.err 4 zq_k_4 0 rfl rfl
      · have k2' : f_Lb_indexOf σ (zq_chI (gN_packed σ tl) g 4) = some (-1) := k2
        have k3' : f_Mo_like ρ (nI tl) (nI g) 4 = some (-1) := k3
        have j2' : f_Lb_indexOf σ (zq_chI (gN_packed σ tc) g 3) = some (nI j) := j2
        have j3' : f_Mo_like ρ (nI tc) (nI g) 3 = some (nI j) := j3
        simp only [k2', k3', j2', j3', Option.bind_some, if_neg (zq_zp_nm1 (show j < 2147483648 by omega)), if_pos (p0 j1), if_neg pm, if_true]
        by_cases hs : s < 60
        · have z0 : ¬ (nI (60 - s) < (1 : Int32) + 0) := by
            have : ¬ (nI (60 - s) < nI 1) := by rw [lt1 1 (by omega)]; omega
            exact this
          have z1 : nI s + ((1 : Int32) + 0) ≤ 60 := by
            have : nI s + nI 1 ≤ 60 := by rw [le1 1 (by omega)]; omega
            exact this
          simp only [if_neg z0, if_pos z1]
          exact fin (Or.inl hs) (Or.inl ⟨j, j1, j4⟩)
        · have z0 : nI (60 - s) < (1 : Int32) + 0 := by
            have : nI (60 - s) < nI 1 := by rw [lt1 1 (by omega)]; omega
            exact this
          have z1 : ¬ (nI s + ((1 : Int32) + 0) ≤ 60) := by
            have : ¬ (nI s + nI 1 ≤ 60) := by rw [le1 1 (by omega)]; omega
            exact this
          simp only [if_pos z0, if_neg z1]
          exact zq_Step.err 4 zq_k_4 0 rfl rfl
      · have k2' : f_Lb_indexOf σ (zq_chI (gN_packed σ tl) g 4) = some (-1) := k2
        have k3' : f_Mo_like ρ (nI tl) (nI g) 4 = some (-1) := k3
        have j2' : f_Lb_indexOf σ (zq_chI (gN_packed σ tc) g 3) = some (-1) := j2
        have j3' : f_Mo_like ρ (nI tc) (nI g) 3 = some (-1) := j3
        simp only [k2', k3', j2', j3', Option.bind_some, if_neg pm, if_true]
        by_cases hs : s + 1 < 60
        · have z0 : ¬ (nI (60 - s) < (1 : Int32) + 1) := by
            have : ¬ (nI (60 - s) < nI 2) := by rw [lt1 2 (by omega)]; omega
            exact this
          have z1 : nI s + ((1 : Int32) + 1) ≤ 60 := by
            have : nI s + nI 2 ≤ 60 := by rw [le1 2 (by omega)]; omega
            exact this
          simp only [if_neg z0, if_pos z1]
          exact fin (Or.inl (by omega)) (Or.inr (Or.inl hs))
        · have z0 : nI (60 - s) < (1 : Int32) + 1 := by
            have : nI (60 - s) < nI 2 := by rw [lt1 2 (by omega)]; omega
            exact this
          have z1 : ¬ (nI s + ((1 : Int32) + 1) ≤ 60) := by
            have : ¬ (nI s + nI 2 ≤ 60) := by rw [le1 2 (by omega)]; omega
            exact this
          simp only [if_pos z0, if_neg z1]
          exact zq_Step.err 4 zq_k_4 0 rfl rfl
  · simp only [t4, t5, Option.bind_some, if_true, zq_zx_err]
    exact zq_Step.err k hk 0 rfl rfl
def zq_rwN (row : Nat → Int32) (o d : Nat) : Nat → Int32 := fun j => if 17 * o ≤ j ∧ j < 17 * o + d then 0 else row j
theorem zq_zp_rwN_step {row : Nat → Int32} {o d : Nat} : upd (zq_rwN row o d) (17 * o + d) 0 = zq_rwN row o (d + 1) := by
  funext j
  unfold upd zq_rwN
  by_cases h : j = 17 * o + d
  · rw [if_pos h, if_pos (by omega)]
  · rw [if_neg h]
    by_cases h1 : 17 * o ≤ j ∧ j < 17 * o + d
    · rw [if_pos h1, if_pos (by omega)]
    · rw [if_neg h1, if_neg (by omega)]
def zq_rowF (row : Nat → Int32) (o : Nat) (kd lb qu pl cl : Int32) : Nat → Int32 :=
  upd (upd (upd (upd (upd (upd (zq_rwN row o 17) (17 * o) 1) (17 * o + 1) kd) (17 * o + 2) lb) (17 * o + 3) qu) (17 * o + 4) pl) (17 * o + 6) cl
theorem zq_zp_make231 {ρ : RS} {o : Nat} (ho : o ≤ 60) (y1 y2 y3 y4 y5 y6 y7 cl : Int32) (row : Nat → Int32)
    (hcl : (y5 = 3 ∧ cl = y6) ∨ (y5 = 2 ∧ ∃ t, t ≤ 60 ∧ t ≠ o ∧ y1 = nI t ∧ cl = row (17 * t + 6)) ∨ (¬ y5 = 3 ∧ ¬ y5 = 2 ∧ cl = 0)) :
    f_Mo_make_L231 100 (sM_row ρ row) y1 y2 y3 y4 y5 y6 y7 (nI o) 0 = some (nI o, sM_row ρ (zq_rowF row o y5 y3 y4 y2 cl)) := by
  have g6 : ∀ a b : Nat → Int32, sM_row (sM_row ρ a) b = sM_row ρ b := fun _ _ => rfl
  have g7 : ∀ a : Nat → Int32, gM_row (sM_row ρ a) = a := fun _ => rfl
  have e17 : (17 : Int32) = nI 17 := rfl
  have key : ∀ d, d ≤ 17 → ∀ n, f_Mo_make_L231 (n + d + 1) (sM_row ρ (zq_rwN row o (17 - d))) y1 y2 y3 y4 y5 y6 y7 (nI o) (nI (17 - d)) = some (nI o, sM_row ρ (zq_rowF row o y5 y3 y4 y2 cl)) := by
    intro d
    induction d with
    | zero =>
      intro _ n
      rw [f_Mo_make_L231]
      have h17 : (17 : Int32) ≤ nI (17 - 0) := Int32.le_refl _
      rw [if_pos h17]
      simp only [zl, g6, g7, zq_zp_ix0, zq_zp_ix1, zq_zp_ix2, zq_zp_ix3, zq_zp_ix4, zq_zp_ix6, zq_zp_cl (17 * o) (show 17 * o < 2147483648 by omega), zq_zp_cl (17 * o + 1) (show 17 * o + 1 < 2147483648 by omega), zq_zp_cl (17 * o + 2) (show 17 * o + 2 < 2147483648 by omega), zq_zp_cl (17 * o + 3) (show 17 * o + 3 < 2147483648 by omega), zq_zp_cl (17 * o + 4) (show 17 * o + 4 < 2147483648 by omega), zq_zp_cl (17 * o + 6) (show 17 * o + 6 < 2147483648 by omega), zq_zp_gF (show 17 * o < 1552 by omega) (show 1552 < 2147483648 by omega), zq_zp_gF (show 17 * o + 1 < 1552 by omega) (show 1552 < 2147483648 by omega), zq_zp_gF (show 17 * o + 2 < 1552 by omega) (show 1552 < 2147483648 by omega), zq_zp_gF (show 17 * o + 3 < 1552 by omega) (show 1552 < 2147483648 by omega), zq_zp_gF (show 17 * o + 4 < 1552 by omega) (show 1552 < 2147483648 by omega), zq_zp_gF (show 17 * o + 6 < 1552 by omega) (show 1552 < 2147483648 by omega), if_false]
      rcases hcl with ⟨h1, rfl⟩ | ⟨h1, t, h2, h3, rfl, rfl⟩ | ⟨h1, h2, rfl⟩
      · subst h1
        rw [if_pos rfl]; rfl
      · subst h1
        have n32 : ¬ ((2 : Int32) = 3) := by decide
        rw [if_neg n32, if_pos rfl, zq_zp_at6 _ t h2, Option.bind_some]
        have : gM_row (sM_row ρ (upd (upd (upd (upd (upd (zq_rwN row o 17) (17 * o) 1) (17 * o + 1) 2) (17 * o + 2) y3) (17 * o + 3) y4) (17 * o + 4) y2)) (17 * t + 6) = row (17 * t + 6) := by
          rw [g7, zq_upd_ne (by omega), zq_upd_ne (by omega), zq_upd_ne (by omega), zq_upd_ne (by omega), zq_upd_ne (by omega)]
          unfold zq_rwN; rw [if_neg (by omega)]
        rw [this]; rfl
      · rw [if_neg h1, if_neg h2]; rfl
    | succ d ih =>
      intro hd n
      have e1 : 17 - (d + 1) + 1 = 17 - d := by omega
      have e2 : n + (d + 1) + 1 = (n + d + 1) + 1 := by omega
      have hj : ¬ ((17 : Int32) ≤ nI (17 - (d + 1))) := by rw [e17, zq_zp_le (by omega) (by omega)]; omega
      rw [e2, f_Mo_make_L231, if_neg hj]
      simp only [zl, g6, g7, zq_zp_ixo, zq_zp_s1, e1, zq_zp_cl (17 * o + (17 - (d + 1))) (show 17 * o + (17 - (d + 1)) < 2147483648 by omega), zq_zp_gF (show 17 * o + (17 - (d + 1)) < 1552 by omega) (show 1552 < 2147483648 by omega), if_false]
      rw [zq_zp_rwN_step, e1]
      exact ih (by omega) n
  have e0 : zq_rwN row o (17 - 17) = row := by
    funext j; unfold zq_rwN; rw [if_neg (by omega)]
  have := key 17 (by omega) 82
  rw [e0] at this
  exact this
def zq_mkRP (ρ : RS) (d : Nat) (x1 x3 x4 x5 x6 : Int32) : Option (Int32 × RS) := (f_Mo_use ρ (nI d)).bind fun v35 => if gM_row ρ (17 * d + 3) < v35 + x4 then some (0, sM_code ρ 4) else if gM_row ρ 1549 = 60 then some (0, sM_code ρ 4) else (f_Mo_deep ρ (nI d)).bind fun v40 => if v40 < 12 then f_Mo_make_L231 100 (sM_row ρ (upd (gM_row ρ) 1549 (gM_row ρ 1549 + 1))) x1 (nI d) x3 x4 x5 x6 1 (gM_row ρ 1549 + 1) 0 else some (0, sM_code ρ 4)
theorem zq_zp_u49 (ρ : RS) (x : Int32) : gM_row (sM_row ρ (upd (gM_row ρ) 1549 x)) 1549 = x := zq_upd_eq (f := gM_row ρ) (k := 1549)
theorem zq_zp_room {s m g : Nat} {σ : KS} {ρ : RS} (h : zq_Rel s m g σ.1 (gM_row ρ)) {t d : Nat} (t1 : 1 ≤ t) (t2 : t ≤ m) (d1 : 1 ≤ d) (d2 : d ≤ m) (x3 x4 x5 x6 cl : Int32)
    (hcl : (x5 = 3 ∧ cl = x6) ∨ (x5 = 2 ∧ cl = gM_row ρ (17 * t + 6)) ∨ (¬ x5 = 3 ∧ ¬ x5 = 2 ∧ cl = 0)) :
    (f_Ke_needRoomIn σ (nI d) x4 = some (.ok (), σ) ∧ m < 60 ∧ zq_mkRP ρ d (nI t) x3 x4 x5 x6 = some (nI (m + 1), sM_row ρ (zq_rowF (upd (gM_row ρ) 1549 (nI (m + 1))) (m + 1) x5 x3 x4 (nI d) cl))) ∨
    (f_Ke_needRoomIn σ (nI d) x4 = some (.error 4, σ) ∧ zq_mkRP ρ d (nI t) x3 x4 x5 x6 = some (0, sM_code ρ 4)) := by
  obtain ⟨a1, a2, a3, a4, a5⟩ := h.b
  have e60 : (60 : Int32) = nI 60 := rfl
  obtain ⟨r, r1, r2⟩ := zq_zp_use h d1 d2
  unfold f_Ke_needRoomIn zq_mkRP f_Tg_hasNumberLeft
  simp only [zq_gt_quota σ (show d ≤ 60 by omega), r1, r2, h.qu d1 d2, Option.bind_some, h.md, h.mdM, zq_zp_deep h d1 d2, zq_gt_depth σ (show d ≤ 60 by omega)]
  by_cases w1 : gM_row ρ (17 * d + 3) < r + x4
  · right; simp only [w1, if_true, and_self]
  · simp only [w1, if_false]
    by_cases hm : m = 60
    · right
      have z1 : (60 : Int32) ≤ nI m := by rw [hm]; exact Int32.le_refl _
      have z2 : nI m = (60 : Int32) := by rw [hm]; rfl
      simp only [if_pos z1, if_pos z2, Option.bind_some, if_true, and_self]
    · have z1 : ¬ ((60 : Int32) ≤ nI m) := by rw [e60, zq_zp_le (by omega) (by omega)]; omega
      have z2 : ¬ (nI m = (60 : Int32)) := by rw [e60, zq_zp_eq (by omega) (by omega)]; exact hm
      simp only [if_neg z1, if_neg z2, Option.bind_some, zq_zp_10, if_false]
      by_cases w2 : gN_depth σ d < 12
      · left
        have w3 : ¬ ((12 : Int32) ≤ gN_depth σ d) := by rw [zq_zp_nle]; exact w2
        simp only [if_pos w2, if_neg w3, zq_zp_s1]
        refine ⟨trivial, by omega, ?_⟩
        refine zq_zp_make231 (by omega) (nI t) (nI d) x3 x4 x5 x6 1 cl _ ?_
        rcases hcl with hcl | ⟨q1, q2⟩ | hcl
        · exact Or.inl hcl
        · refine Or.inr (Or.inl ⟨q1, t, by omega, by omega, rfl, ?_⟩)
          rw [zq_upd_ne (by omega)]; exact q2
        · exact Or.inr (Or.inr hcl)
      · right
        have w3 : (12 : Int32) ≤ gN_depth σ d := by rw [zq_zp_nlt] at w2; exact w2
        simp only [if_neg w2, if_pos w3, and_self]
theorem zq_zp_tc {s m g : Nat} {σ : KS} {ρ : RS} (h : zq_Rel s m g σ.1 (gM_row ρ)) (x1 x2 : Int32) :
    (∃ t d, (1 ≤ t ∧ t ≤ m ∧ x1 = nI t) ∧ (1 ≤ d ∧ d ≤ m ∧ x2 = nI d) ∧ gM_row ρ (17 * t + 1) = 3 ∧ gM_row ρ (17 * d + 1) = 0 ∧ f_Ke_needThreadAndContainer σ x1 x2 = some (.ok (), σ) ∧ f_Mo_there ρ x1 = some 1 ∧ f_Mo_there ρ x2 = some 1) ∨
    (∃ k, zq_KK k ∧ f_Ke_needThreadAndContainer σ x1 x2 = some (.error k, σ) ∧ ∀ x3 x4 x5 x6, f_Mo_make ρ x1 x2 x3 x4 x5 x6 = some (0, sM_code ρ (nI k))) := by
  obtain ⟨a1, a2, a3, a4, a5⟩ := h.b
  unfold f_Ke_needThreadAndContainer f_Mo_make
  rcases zq_zp_there h x1 with ⟨t, t1, t2, rfl, t3, t4, t5, t6⟩ | ⟨t5, t6⟩
  · rcases zq_zp_there h x2 with ⟨d, d1, d2, rfl, d3, d4, d5, d6⟩ | ⟨d5, d6⟩
    · simp only [t5, t6, d5, d6, Option.bind_some, zq_zp_10, if_false, zq_gt_kind σ (show t ≤ 60 by omega), zq_gt_kind σ (show d ≤ 60 by omega), zq_zp_at1 ρ t (show t ≤ 60 by omega), zq_zp_at1 ρ d (show d ≤ 60 by omega), h.kd t1 t2, h.kd d1 d2]
      by_cases k1 : gM_row ρ (17 * t + 1) = 3
      · by_cases k2 : gM_row ρ (17 * d + 1) = 0
        · left; refine ⟨t, d, ⟨t1, t2, rfl⟩, ⟨d1, d2, rfl⟩, k1, k2, ?_, trivial, trivial⟩
          simp only [k1, k2, if_true, Option.bind_some, zq_zp_10, if_false]
        · right; refine ⟨1, zq_k_1, ?_, fun x3 x4 x5 x6 => ?_⟩
          · simp only [k1, k2, if_true, Option.bind_some, zq_zp_10, if_false]
          · simp only [k1, k2, if_true, if_false]; rfl
      · right; refine ⟨1, zq_k_1, ?_, fun x3 x4 x5 x6 => ?_⟩
        · simp only [k1, if_true, Option.bind_some, if_false]
        · simp only [k1, if_false]; rfl
    · right; refine ⟨2, zq_k_2, ?_, fun x3 x4 x5 x6 => ?_⟩
      · simp only [t5, d5, Option.bind_some, zq_zp_10, if_false, if_true]
      · simp only [t6, d6, Option.bind_some, zq_zp_10, if_false, if_true]; rfl
  · right; refine ⟨2, zq_k_2, ?_, fun x3 x4 x5 x6 => ?_⟩
    · simp only [t5, Option.bind_some, if_true]
    · simp only [t6, Option.bind_some, if_true]; rfl
theorem zq_zp_may {s m g : Nat} {σ : KS} {ρ : RS} (h : zq_Rel s m g σ.1 (gM_row ρ)) {t d l : Nat} (t1 : 1 ≤ t) (t2 : t ≤ m) (d1 : 1 ≤ d) (d2 : d ≤ m) (hk : gM_row ρ (17 * t + 1) = 3) (hd : gM_row ρ (17 * d + 1) = 0) (hl : l < s)
    (p1 : f_Mo_there ρ (nI t) = some 1) (p2 : f_Mo_there ρ (nI d) = some 1) :
    (f_Ke_needMayMake σ (nI t) (nI d) (nI l) = some (.ok (), σ) ∧ (∀ x4 x5 x6, ¬ x5 = 3 → f_Mo_make ρ (nI t) (nI d) (nI l) x4 x5 x6 = zq_mkRP ρ d (nI t) (nI l) x4 x5 x6) ∧
      (∀ x4 x6, f_Mo_make ρ (nI t) (nI d) (nI l) x4 3 x6 = ((f_Mo_under ρ x6 (gM_row ρ (17 * t + 6)) 0).bind fun v58 => if v58 = 0 then some (0, sM_code ρ 3) else ((f_Mo_under ρ (nI l) x6 0).bind fun v61 => if v61 = 0 then some (0, sM_code ρ 3) else zq_mkRP ρ d (nI t) (nI l) x4 3 x6)))) ∨
    (f_Ke_needMayMake σ (nI t) (nI d) (nI l) = some (.error 3, σ) ∧ ∀ x4 x5 x6, f_Mo_make ρ (nI t) (nI d) (nI l) x4 x5 x6 = some (0, sM_code ρ 3)) := by
  obtain ⟨a1, a2, a3, a4, a5⟩ := h.b
  unfold f_Ke_needMayMake f_Mo_make
  simp only [p1, p2, Option.bind_some, zq_zp_10, if_false, zq_zp_at1 ρ t (show t ≤ 60 by omega), zq_zp_at1 ρ d (show d ≤ 60 by omega), zq_zp_at2 ρ t (show t ≤ 60 by omega), zq_zp_at6 ρ t (show t ≤ 60 by omega), zq_zp_at3 ρ d (show d ≤ 60 by omega), hk, hd, if_true, zq_zp_g49, zq_zp_c49, zl, zq_zp_fail, zq_zp_u49]
  rcases zq_zp_changes h t1 t2 d1 d2 with ⟨e1, e2⟩ | ⟨e1, e2⟩
  · obtain ⟨tl, tc, b1, b2, b3, b4, b5⟩ := zq_zp_bear h t1 t2 hk hl
    rcases b5 with ⟨b5, b6, b7, b8⟩ | ⟨b5, b6⟩
    · left
      simp only [e1, e2, b3, b4, b5, b6, b7, b8, Option.bind_some, zq_zp_10, if_false, true_and]
      refine ⟨fun x4 x5 x6 hx => ?_, ?_⟩
      · simp only [hx, if_false]; rfl
      · intro x4 x6; rfl
    · right
      rcases b6 with b6 | ⟨b6, b7 | ⟨b7, b8⟩⟩
      · simp only [e1, e2, b3, b4, b5, b6, Option.bind_some, zq_zp_10, if_false, if_true, true_and]
        intro x4 x5 x6; split <;> rfl
      · simp only [e1, e2, b3, b4, b5, b6, b7, Option.bind_some, zq_zp_10, if_false, if_true, true_and]
        intro x4 x5 x6; split <;> rfl
      · simp only [e1, e2, b3, b4, b5, b6, b7, b8, Option.bind_some, zq_zp_10, if_false, if_true, true_and]
        intro x4 x5 x6; split <;> rfl
  · right
    simp only [e1, e2, Option.bind_some, if_true, true_and]
    intro x4 x5 x6; split <;> rfl
