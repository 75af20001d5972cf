theorem zq_Rel_new {s m g : Nat} {σ τ : SS} {row row' : Nat → Int32} (h : zq_Rel s m g σ row) (hm : m < 60)
    (hsz : p_size τ = p_size σ) (hpk : p_packed τ = p_packed σ) (hct : p_categories τ = p_categories σ) (hU : zq_UEq σ τ) (hmd : p_made τ = nI (m + 1))
    (hT : ∀ o', o' ≤ m → zq_TEq σ τ o')
    (hN : ∀ o', m + 1 < o' → o' ≤ 60 → p_there τ o' = p_there σ o' ∧ p_cellCount τ o' = p_cellCount σ o' ∧ ∀ i, i < 8 → p_cells τ (8 * o' + i) = p_cells σ (8 * o' + i))
    (hr : ∀ j, j ≠ 1549 → (j < 17 * (m + 1) ∨ 17 * (m + 1) + 17 ≤ j) → row' j = row j) (hr49 : row' 1549 = nI (m + 1))
    (hO : zq_ROb s τ row' (m + 1)) : zq_Rel s (m + 1) g τ row' := by
  obtain ⟨⟨a1, a2, a3, a4, a5⟩, ⟨b1, b2⟩, ⟨c1, c2⟩, ⟨d1, d2⟩, hL, hO', hN', hU'⟩ := h
  refine ⟨⟨a1, a2, by omega, by omega, a5⟩, ⟨hsz.trans b1, ?_⟩, ⟨hmd, hr49⟩, ⟨hct.trans d1, ?_⟩, ?_, ?_, ?_, ?_⟩
  · rw [hr _ (by omega) (by omega)]; exact b2
  · rw [hr _ (by omega) (by omega)]; exact d2
  · rw [hpk]; exact zq_RLb_of (fun j h1 h2 => hr j (by omega) (by omega)) hL
  · intro o' h1 h2
    by_cases e : o' = m + 1
    · rw [e]; exact hO
    · exact zq_ROb_of (Nat.le_refl s) (fun j hj => hr _ (by omega) (by omega)) (hT o' (by omega)) (hO' o' h1 (by omega))
  · intro o' h1 h2
    obtain ⟨n1, n2, n3⟩ := hN' o' (by omega) h2
    rcases h1 with h1 | h1
    · obtain ⟨t1, -, -, -, -, -, -, -, -, t2, t3⟩ := hT o' (by omega)
      exact ⟨t1.trans n1, t2.trans n2, fun i hi => (t3 i hi).trans (n3 i hi)⟩
    · obtain ⟨t1, t2, t3⟩ := hN o' h1 h2
      exact ⟨t1.trans n1, t2.trans n2, fun i hi => (t3 i hi).trans (n3 i hi)⟩
  · intro u hu
    exact zq_RUs_of (fun j hj => hr _ (by omega) (by omega)) hU (hU' u hu)
theorem zq_pq_packed_there (σ : SS) (x : Nat → Int32) : p_packed (q_there σ x) = p_packed σ := rfl
theorem zq_pq_size_there (σ : SS) (x : Nat → Int32) : p_size (q_there σ x) = p_size σ := rfl
theorem zq_pe_there (σ : SS) (x : Nat → Int32) : p_there (q_there σ x) = x := rfl
theorem zq_pq_kind_there (σ : SS) (x : Nat → Int32) : p_kind (q_there σ x) = p_kind σ := rfl
theorem zq_pq_label_there (σ : SS) (x : Nat → Int32) : p_label (q_there σ x) = p_label σ := rfl
theorem zq_pq_quota_there (σ : SS) (x : Nat → Int32) : p_quota (q_there σ x) = p_quota σ := rfl
theorem zq_pq_place_there (σ : SS) (x : Nat → Int32) : p_place (q_there σ x) = p_place σ := rfl
theorem zq_pq_depth_there (σ : SS) (x : Nat → Int32) : p_depth (q_there σ x) = p_depth σ := rfl
theorem zq_pq_clearance_there (σ : SS) (x : Nat → Int32) : p_clearance (q_there σ x) = p_clearance σ := rfl
theorem zq_pq_guard_there (σ : SS) (x : Nat → Int32) : p_guard (q_there σ x) = p_guard σ := rfl
theorem zq_pq_entry_there (σ : SS) (x : Nat → Int32) : p_entry (q_there σ x) = p_entry σ := rfl
theorem zq_pq_cellCount_there (σ : SS) (x : Nat → Int32) : p_cellCount (q_there σ x) = p_cellCount σ := rfl
theorem zq_pq_cells_there (σ : SS) (x : Nat → Int32) : p_cells (q_there σ x) = p_cells σ := rfl
theorem zq_pq_made_there (σ : SS) (x : Nat → Int32) : p_made (q_there σ x) = p_made σ := rfl
theorem zq_pq_uthere_there (σ : SS) (x : Nat → Int32) : p_uthere (q_there σ x) = p_uthere σ := rfl
theorem zq_pq_password_there (σ : SS) (x : Nat → Int32) : p_password (q_there σ x) = p_password σ := rfl
theorem zq_pq_firstCategory_there (σ : SS) (x : Nat → Int32) : p_firstCategory (q_there σ x) = p_firstCategory σ := rfl
theorem zq_pq_secondCategory_there (σ : SS) (x : Nat → Int32) : p_secondCategory (q_there σ x) = p_secondCategory σ := rfl
theorem zq_pq_home_there (σ : SS) (x : Nat → Int32) : p_home (q_there σ x) = p_home σ := rfl
theorem zq_pq_directory_there (σ : SS) (x : Nat → Int32) : p_directory (q_there σ x) = p_directory σ := rfl
theorem zq_pq_gate_there (σ : SS) (x : Nat → Int32) : p_gate (q_there σ x) = p_gate σ := rfl
theorem zq_pq_categories_there (σ : SS) (x : Nat → Int32) : p_categories (q_there σ x) = p_categories σ := rfl
theorem zq_pq_packed_kind (σ : SS) (x : Nat → Int32) : p_packed (q_kind σ x) = p_packed σ := rfl
theorem zq_pq_size_kind (σ : SS) (x : Nat → Int32) : p_size (q_kind σ x) = p_size σ := rfl
theorem zq_pq_there_kind (σ : SS) (x : Nat → Int32) : p_there (q_kind σ x) = p_there σ := rfl
theorem zq_pe_kind (σ : SS) (x : Nat → Int32) : p_kind (q_kind σ x) = x := rfl
theorem zq_pq_label_kind (σ : SS) (x : Nat → Int32) : p_label (q_kind σ x) = p_label σ := rfl
theorem zq_pq_quota_kind (σ : SS) (x : Nat → Int32) : p_quota (q_kind σ x) = p_quota σ := rfl
theorem zq_pq_place_kind (σ : SS) (x : Nat → Int32) : p_place (q_kind σ x) = p_place σ := rfl
theorem zq_pq_depth_kind (σ : SS) (x : Nat → Int32) : p_depth (q_kind σ x) = p_depth σ := rfl
theorem zq_pq_clearance_kind (σ : SS) (x : Nat → Int32) : p_clearance (q_kind σ x) = p_clearance σ := rfl
theorem zq_pq_guard_kind (σ : SS) (x : Nat → Int32) : p_guard (q_kind σ x) = p_guard σ := rfl
theorem zq_pq_entry_kind (σ : SS) (x : Nat → Int32) : p_entry (q_kind σ x) = p_entry σ := rfl
theorem zq_pq_cellCount_kind (σ : SS) (x : Nat → Int32) : p_cellCount (q_kind σ x) = p_cellCount σ := rfl
theorem zq_pq_cells_kind (σ : SS) (x : Nat → Int32) : p_cells (q_kind σ x) = p_cells σ := rfl
theorem zq_pq_made_kind (σ : SS) (x : Nat → Int32) : p_made (q_kind σ x) = p_made σ := rfl
theorem zq_pq_uthere_kind (σ : SS) (x : Nat → Int32) : p_uthere (q_kind σ x) = p_uthere σ := rfl
theorem zq_pq_password_kind (σ : SS) (x : Nat → Int32) : p_password (q_kind σ x) = p_password σ := rfl
theorem zq_pq_firstCategory_kind (σ : SS) (x : Nat → Int32) : p_firstCategory (q_kind σ x) = p_firstCategory σ := rfl
theorem zq_pq_secondCategory_kind (σ : SS) (x : Nat → Int32) : p_secondCategory (q_kind σ x) = p_secondCategory σ := rfl
theorem zq_pq_home_kind (σ : SS) (x : Nat → Int32) : p_home (q_kind σ x) = p_home σ := rfl
theorem zq_pq_directory_kind (σ : SS) (x : Nat → Int32) : p_directory (q_kind σ x) = p_directory σ := rfl
theorem zq_pq_gate_kind (σ : SS) (x : Nat → Int32) : p_gate (q_kind σ x) = p_gate σ := rfl
theorem zq_pq_categories_kind (σ : SS) (x : Nat → Int32) : p_categories (q_kind σ x) = p_categories σ := rfl
theorem zq_pq_packed_label (σ : SS) (x : Nat → Int32) : p_packed (q_label σ x) = p_packed σ := rfl
theorem zq_pq_size_label (σ : SS) (x : Nat → Int32) : p_size (q_label σ x) = p_size σ := rfl
theorem zq_pq_there_label (σ : SS) (x : Nat → Int32) : p_there (q_label σ x) = p_there σ := rfl
theorem zq_pq_kind_label (σ : SS) (x : Nat → Int32) : p_kind (q_label σ x) = p_kind σ := rfl
theorem zq_pe_label (σ : SS) (x : Nat → Int32) : p_label (q_label σ x) = x := rfl
theorem zq_pq_quota_label (σ : SS) (x : Nat → Int32) : p_quota (q_label σ x) = p_quota σ := rfl
theorem zq_pq_place_label (σ : SS) (x : Nat → Int32) : p_place (q_label σ x) = p_place σ := rfl
theorem zq_pq_depth_label (σ : SS) (x : Nat → Int32) : p_depth (q_label σ x) = p_depth σ := rfl
theorem zq_pq_clearance_label (σ : SS) (x : Nat → Int32) : p_clearance (q_label σ x) = p_clearance σ := rfl
theorem zq_pq_guard_label (σ : SS) (x : Nat → Int32) : p_guard (q_label σ x) = p_guard σ := rfl
theorem zq_pq_entry_label (σ : SS) (x : Nat → Int32) : p_entry (q_label σ x) = p_entry σ := rfl
theorem zq_pq_cellCount_label (σ : SS) (x : Nat → Int32) : p_cellCount (q_label σ x) = p_cellCount σ := rfl
theorem zq_pq_cells_label (σ : SS) (x : Nat → Int32) : p_cells (q_label σ x) = p_cells σ := rfl
theorem zq_pq_made_label (σ : SS) (x : Nat → Int32) : p_made (q_label σ x) = p_made σ := rfl
theorem zq_pq_uthere_label (σ : SS) (x : Nat → Int32) : p_uthere (q_label σ x) = p_uthere σ := rfl
theorem zq_pq_password_label (σ : SS) (x : Nat → Int32) : p_password (q_label σ x) = p_password σ := rfl
theorem zq_pq_firstCategory_label (σ : SS) (x : Nat → Int32) : p_firstCategory (q_label σ x) = p_firstCategory σ := rfl
theorem zq_pq_secondCategory_label (σ : SS) (x : Nat → Int32) : p_secondCategory (q_label σ x) = p_secondCategory σ := rfl
theorem zq_pq_home_label (σ : SS) (x : Nat → Int32) : p_home (q_label σ x) = p_home σ := rfl
theorem zq_pq_directory_label (σ : SS) (x : Nat → Int32) : p_directory (q_label σ x) = p_directory σ := rfl
theorem zq_pq_gate_label (σ : SS) (x : Nat → Int32) : p_gate (q_label σ x) = p_gate σ := rfl
theorem zq_pq_categories_label (σ : SS) (x : Nat → Int32) : p_categories (q_label σ x) = p_categories σ := rfl
theorem zq_pq_packed_quota (σ : SS) (x : Nat → Int32) : p_packed (q_quota σ x) = p_packed σ := rfl
theorem zq_pq_size_quota (σ : SS) (x : Nat → Int32) : p_size (q_quota σ x) = p_size σ := rfl
theorem zq_pq_there_quota (σ : SS) (x : Nat → Int32) : p_there (q_quota σ x) = p_there σ := rfl
theorem zq_pq_kind_quota (σ : SS) (x : Nat → Int32) : p_kind (q_quota σ x) = p_kind σ := rfl
theorem zq_pq_label_quota (σ : SS) (x : Nat → Int32) : p_label (q_quota σ x) = p_label σ := rfl
theorem zq_pe_quota (σ : SS) (x : Nat → Int32) : p_quota (q_quota σ x) = x := rfl
theorem zq_pq_place_quota (σ : SS) (x : Nat → Int32) : p_place (q_quota σ x) = p_place σ := rfl
theorem zq_pq_depth_quota (σ : SS) (x : Nat → Int32) : p_depth (q_quota σ x) = p_depth σ := rfl
theorem zq_pq_clearance_quota (σ : SS) (x : Nat → Int32) : p_clearance (q_quota σ x) = p_clearance σ := rfl
theorem zq_pq_guard_quota (σ : SS) (x : Nat → Int32) : p_guard (q_quota σ x) = p_guard σ := rfl
theorem zq_pq_entry_quota (σ : SS) (x : Nat → Int32) : p_entry (q_quota σ x) = p_entry σ := rfl
theorem zq_pq_cellCount_quota (σ : SS) (x : Nat → Int32) : p_cellCount (q_quota σ x) = p_cellCount σ := rfl
theorem zq_pq_cells_quota (σ : SS) (x : Nat → Int32) : p_cells (q_quota σ x) = p_cells σ := rfl
theorem zq_pq_made_quota (σ : SS) (x : Nat → Int32) : p_made (q_quota σ x) = p_made σ := rfl
theorem zq_pq_uthere_quota (σ : SS) (x : Nat → Int32) : p_uthere (q_quota σ x) = p_uthere σ := rfl
theorem zq_pq_password_quota (σ : SS) (x : Nat → Int32) : p_password (q_quota σ x) = p_password σ := rfl
theorem zq_pq_firstCategory_quota (σ : SS) (x : Nat → Int32) : p_firstCategory (q_quota σ x) = p_firstCategory σ := rfl
theorem zq_pq_secondCategory_quota (σ : SS) (x : Nat → Int32) : p_secondCategory (q_quota σ x) = p_secondCategory σ := rfl
theorem zq_pq_home_quota (σ : SS) (x : Nat → Int32) : p_home (q_quota σ x) = p_home σ := rfl
theorem zq_pq_directory_quota (σ : SS) (x : Nat → Int32) : p_directory (q_quota σ x) = p_directory σ := rfl
theorem zq_pq_gate_quota (σ : SS) (x : Nat → Int32) : p_gate (q_quota σ x) = p_gate σ := rfl
theorem zq_pq_categories_quota (σ : SS) (x : Nat → Int32) : p_categories (q_quota σ x) = p_categories σ := rfl
theorem zq_pq_packed_place (σ : SS) (x : Nat → Int32) : p_packed (q_place σ x) = p_packed σ := rfl
theorem zq_pq_size_place (σ : SS) (x : Nat → Int32) : p_size (q_place σ x) = p_size σ := rfl
theorem zq_pq_there_place (σ : SS) (x : Nat → Int32) : p_there (q_place σ x) = p_there σ := rfl
theorem zq_pq_kind_place (σ : SS) (x : Nat → Int32) : p_kind (q_place σ x) = p_kind σ := rfl
theorem zq_pq_label_place (σ : SS) (x : Nat → Int32) : p_label (q_place σ x) = p_label σ := rfl
theorem zq_pq_quota_place (σ : SS) (x : Nat → Int32) : p_quota (q_place σ x) = p_quota σ := rfl
theorem zq_pe_place (σ : SS) (x : Nat → Int32) : p_place (q_place σ x) = x := rfl
theorem zq_pq_depth_place (σ : SS) (x : Nat → Int32) : p_depth (q_place σ x) = p_depth σ := rfl
theorem zq_pq_clearance_place (σ : SS) (x : Nat → Int32) : p_clearance (q_place σ x) = p_clearance σ := rfl
theorem zq_pq_guard_place (σ : SS) (x : Nat → Int32) : p_guard (q_place σ x) = p_guard σ := rfl
theorem zq_pq_entry_place (σ : SS) (x : Nat → Int32) : p_entry (q_place σ x) = p_entry σ := rfl
theorem zq_pq_cellCount_place (σ : SS) (x : Nat → Int32) : p_cellCount (q_place σ x) = p_cellCount σ := rfl
theorem zq_pq_cells_place (σ : SS) (x : Nat → Int32) : p_cells (q_place σ x) = p_cells σ := rfl
theorem zq_pq_made_place (σ : SS) (x : Nat → Int32) : p_made (q_place σ x) = p_made σ := rfl
theorem zq_pq_uthere_place (σ : SS) (x : Nat → Int32) : p_uthere (q_place σ x) = p_uthere σ := rfl
theorem zq_pq_password_place (σ : SS) (x : Nat → Int32) : p_password (q_place σ x) = p_password σ := rfl
theorem zq_pq_firstCategory_place (σ : SS) (x : Nat → Int32) : p_firstCategory (q_place σ x) = p_firstCategory σ := rfl
theorem zq_pq_secondCategory_place (σ : SS) (x : Nat → Int32) : p_secondCategory (q_place σ x) = p_secondCategory σ := rfl
theorem zq_pq_home_place (σ : SS) (x : Nat → Int32) : p_home (q_place σ x) = p_home σ := rfl
theorem zq_pq_directory_place (σ : SS) (x : Nat → Int32) : p_directory (q_place σ x) = p_directory σ := rfl
theorem zq_pq_gate_place (σ : SS) (x : Nat → Int32) : p_gate (q_place σ x) = p_gate σ := rfl
theorem zq_pq_categories_place (σ : SS) (x : Nat → Int32) : p_categories (q_place σ x) = p_categories σ := rfl
theorem zq_pq_packed_depth (σ : SS) (x : Nat → Int32) : p_packed (q_depth σ x) = p_packed σ := rfl
theorem zq_pq_size_depth (σ : SS) (x : Nat → Int32) : p_size (q_depth σ x) = p_size σ := rfl
theorem zq_pq_there_depth (σ : SS) (x : Nat → Int32) : p_there (q_depth σ x) = p_there σ := rfl
theorem zq_pq_kind_depth (σ : SS) (x : Nat → Int32) : p_kind (q_depth σ x) = p_kind σ := rfl
theorem zq_pq_label_depth (σ : SS) (x : Nat → Int32) : p_label (q_depth σ x) = p_label σ := rfl
theorem zq_pq_quota_depth (σ : SS) (x : Nat → Int32) : p_quota (q_depth σ x) = p_quota σ := rfl
theorem zq_pq_place_depth (σ : SS) (x : Nat → Int32) : p_place (q_depth σ x) = p_place σ := rfl
theorem zq_pe_depth (σ : SS) (x : Nat → Int32) : p_depth (q_depth σ x) = x := rfl
theorem zq_pq_clearance_depth (σ : SS) (x : Nat → Int32) : p_clearance (q_depth σ x) = p_clearance σ := rfl
theorem zq_pq_guard_depth (σ : SS) (x : Nat → Int32) : p_guard (q_depth σ x) = p_guard σ := rfl
theorem zq_pq_entry_depth (σ : SS) (x : Nat → Int32) : p_entry (q_depth σ x) = p_entry σ := rfl
theorem zq_pq_cellCount_depth (σ : SS) (x : Nat → Int32) : p_cellCount (q_depth σ x) = p_cellCount σ := rfl
theorem zq_pq_cells_depth (σ : SS) (x : Nat → Int32) : p_cells (q_depth σ x) = p_cells σ := rfl
theorem zq_pq_made_depth (σ : SS) (x : Nat → Int32) : p_made (q_depth σ x) = p_made σ := rfl
theorem zq_pq_uthere_depth (σ : SS) (x : Nat → Int32) : p_uthere (q_depth σ x) = p_uthere σ := rfl
theorem zq_pq_password_depth (σ : SS) (x : Nat → Int32) : p_password (q_depth σ x) = p_password σ := rfl
theorem zq_pq_firstCategory_depth (σ : SS) (x : Nat → Int32) : p_firstCategory (q_depth σ x) = p_firstCategory σ := rfl
theorem zq_pq_secondCategory_depth (σ : SS) (x : Nat → Int32) : p_secondCategory (q_depth σ x) = p_secondCategory σ := rfl
theorem zq_pq_home_depth (σ : SS) (x : Nat → Int32) : p_home (q_depth σ x) = p_home σ := rfl
theorem zq_pq_directory_depth (σ : SS) (x : Nat → Int32) : p_directory (q_depth σ x) = p_directory σ := rfl
theorem zq_pq_gate_depth (σ : SS) (x : Nat → Int32) : p_gate (q_depth σ x) = p_gate σ := rfl
theorem zq_pq_categories_depth (σ : SS) (x : Nat → Int32) : p_categories (q_depth σ x) = p_categories σ := rfl
theorem zq_pq_packed_clearance (σ : SS) (x : Nat → Int32) : p_packed (q_clearance σ x) = p_packed σ := rfl
theorem zq_pq_size_clearance (σ : SS) (x : Nat → Int32) : p_size (q_clearance σ x) = p_size σ := rfl
theorem zq_pq_there_clearance (σ : SS) (x : Nat → Int32) : p_there (q_clearance σ x) = p_there σ := rfl
theorem zq_pq_kind_clearance (σ : SS) (x : Nat → Int32) : p_kind (q_clearance σ x) = p_kind σ := rfl
theorem zq_pq_label_clearance (σ : SS) (x : Nat → Int32) : p_label (q_clearance σ x) = p_label σ := rfl
theorem zq_pq_quota_clearance (σ : SS) (x : Nat → Int32) : p_quota (q_clearance σ x) = p_quota σ := rfl
theorem zq_pq_place_clearance (σ : SS) (x : Nat → Int32) : p_place (q_clearance σ x) = p_place σ := rfl
theorem zq_pq_depth_clearance (σ : SS) (x : Nat → Int32) : p_depth (q_clearance σ x) = p_depth σ := rfl
theorem zq_pe_clearance (σ : SS) (x : Nat → Int32) : p_clearance (q_clearance σ x) = x := rfl
theorem zq_pq_guard_clearance (σ : SS) (x : Nat → Int32) : p_guard (q_clearance σ x) = p_guard σ := rfl
theorem zq_pq_entry_clearance (σ : SS) (x : Nat → Int32) : p_entry (q_clearance σ x) = p_entry σ := rfl
theorem zq_pq_cellCount_clearance (σ : SS) (x : Nat → Int32) : p_cellCount (q_clearance σ x) = p_cellCount σ := rfl
theorem zq_pq_cells_clearance (σ : SS) (x : Nat → Int32) : p_cells (q_clearance σ x) = p_cells σ := rfl
theorem zq_pq_made_clearance (σ : SS) (x : Nat → Int32) : p_made (q_clearance σ x) = p_made σ := rfl
theorem zq_pq_uthere_clearance (σ : SS) (x : Nat → Int32) : p_uthere (q_clearance σ x) = p_uthere σ := rfl
theorem zq_pq_password_clearance (σ : SS) (x : Nat → Int32) : p_password (q_clearance σ x) = p_password σ := rfl
theorem zq_pq_firstCategory_clearance (σ : SS) (x : Nat → Int32) : p_firstCategory (q_clearance σ x) = p_firstCategory σ := rfl
theorem zq_pq_secondCategory_clearance (σ : SS) (x : Nat → Int32) : p_secondCategory (q_clearance σ x) = p_secondCategory σ := rfl
theorem zq_pq_home_clearance (σ : SS) (x : Nat → Int32) : p_home (q_clearance σ x) = p_home σ := rfl
theorem zq_pq_directory_clearance (σ : SS) (x : Nat → Int32) : p_directory (q_clearance σ x) = p_directory σ := rfl
theorem zq_pq_gate_clearance (σ : SS) (x : Nat → Int32) : p_gate (q_clearance σ x) = p_gate σ := rfl
theorem zq_pq_categories_clearance (σ : SS) (x : Nat → Int32) : p_categories (q_clearance σ x) = p_categories σ := rfl
theorem zq_pq_packed_guard (σ : SS) (x : Nat → Int32) : p_packed (q_guard σ x) = p_packed σ := rfl
theorem zq_pq_size_guard (σ : SS) (x : Nat → Int32) : p_size (q_guard σ x) = p_size σ := rfl
theorem zq_pq_there_guard (σ : SS) (x : Nat → Int32) : p_there (q_guard σ x) = p_there σ := rfl
theorem zq_pq_kind_guard (σ : SS) (x : Nat → Int32) : p_kind (q_guard σ x) = p_kind σ := rfl
theorem zq_pq_label_guard (σ : SS) (x : Nat → Int32) : p_label (q_guard σ x) = p_label σ := rfl
theorem zq_pq_quota_guard (σ : SS) (x : Nat → Int32) : p_quota (q_guard σ x) = p_quota σ := rfl
theorem zq_pq_place_guard (σ : SS) (x : Nat → Int32) : p_place (q_guard σ x) = p_place σ := rfl
theorem zq_pq_depth_guard (σ : SS) (x : Nat → Int32) : p_depth (q_guard σ x) = p_depth σ := rfl
theorem zq_pq_clearance_guard (σ : SS) (x : Nat → Int32) : p_clearance (q_guard σ x) = p_clearance σ := rfl
theorem zq_pe_guard (σ : SS) (x : Nat → Int32) : p_guard (q_guard σ x) = x := rfl
theorem zq_pq_entry_guard (σ : SS) (x : Nat → Int32) : p_entry (q_guard σ x) = p_entry σ := rfl
theorem zq_pq_cellCount_guard (σ : SS) (x : Nat → Int32) : p_cellCount (q_guard σ x) = p_cellCount σ := rfl
theorem zq_pq_cells_guard (σ : SS) (x : Nat → Int32) : p_cells (q_guard σ x) = p_cells σ := rfl
theorem zq_pq_made_guard (σ : SS) (x : Nat → Int32) : p_made (q_guard σ x) = p_made σ := rfl
theorem zq_pq_uthere_guard (σ : SS) (x : Nat → Int32) : p_uthere (q_guard σ x) = p_uthere σ := rfl
theorem zq_pq_password_guard (σ : SS) (x : Nat → Int32) : p_password (q_guard σ x) = p_password σ := rfl
theorem zq_pq_firstCategory_guard (σ : SS) (x : Nat → Int32) : p_firstCategory (q_guard σ x) = p_firstCategory σ := rfl
theorem zq_pq_secondCategory_guard (σ : SS) (x : Nat → Int32) : p_secondCategory (q_guard σ x) = p_secondCategory σ := rfl
theorem zq_pq_home_guard (σ : SS) (x : Nat → Int32) : p_home (q_guard σ x) = p_home σ := rfl
theorem zq_pq_directory_guard (σ : SS) (x : Nat → Int32) : p_directory (q_guard σ x) = p_directory σ := rfl
theorem zq_pq_gate_guard (σ : SS) (x : Nat → Int32) : p_gate (q_guard σ x) = p_gate σ := rfl
theorem zq_pq_categories_guard (σ : SS) (x : Nat → Int32) : p_categories (q_guard σ x) = p_categories σ := rfl
theorem zq_pq_packed_entry (σ : SS) (x : Nat → Int32) : p_packed (q_entry σ x) = p_packed σ := rfl
theorem zq_pq_size_entry (σ : SS) (x : Nat → Int32) : p_size (q_entry σ x) = p_size σ := rfl
theorem zq_pq_there_entry (σ : SS) (x : Nat → Int32) : p_there (q_entry σ x) = p_there σ := rfl
theorem zq_pq_kind_entry (σ : SS) (x : Nat → Int32) : p_kind (q_entry σ x) = p_kind σ := rfl
theorem zq_pq_label_entry (σ : SS) (x : Nat → Int32) : p_label (q_entry σ x) = p_label σ := rfl
theorem zq_pq_quota_entry (σ : SS) (x : Nat → Int32) : p_quota (q_entry σ x) = p_quota σ := rfl
theorem zq_pq_place_entry (σ : SS) (x : Nat → Int32) : p_place (q_entry σ x) = p_place σ := rfl
theorem zq_pq_depth_entry (σ : SS) (x : Nat → Int32) : p_depth (q_entry σ x) = p_depth σ := rfl
theorem zq_pq_clearance_entry (σ : SS) (x : Nat → Int32) : p_clearance (q_entry σ x) = p_clearance σ := rfl
theorem zq_pq_guard_entry (σ : SS) (x : Nat → Int32) : p_guard (q_entry σ x) = p_guard σ := rfl
theorem zq_pe_entry (σ : SS) (x : Nat → Int32) : p_entry (q_entry σ x) = x := rfl
theorem zq_pq_cellCount_entry (σ : SS) (x : Nat → Int32) : p_cellCount (q_entry σ x) = p_cellCount σ := rfl
theorem zq_pq_cells_entry (σ : SS) (x : Nat → Int32) : p_cells (q_entry σ x) = p_cells σ := rfl
theorem zq_pq_made_entry (σ : SS) (x : Nat → Int32) : p_made (q_entry σ x) = p_made σ := rfl
theorem zq_pq_uthere_entry (σ : SS) (x : Nat → Int32) : p_uthere (q_entry σ x) = p_uthere σ := rfl
theorem zq_pq_password_entry (σ : SS) (x : Nat → Int32) : p_password (q_entry σ x) = p_password σ := rfl
theorem zq_pq_firstCategory_entry (σ : SS) (x : Nat → Int32) : p_firstCategory (q_entry σ x) = p_firstCategory σ := rfl
theorem zq_pq_secondCategory_entry (σ : SS) (x : Nat → Int32) : p_secondCategory (q_entry σ x) = p_secondCategory σ := rfl
theorem zq_pq_home_entry (σ : SS) (x : Nat → Int32) : p_home (q_entry σ x) = p_home σ := rfl
theorem zq_pq_directory_entry (σ : SS) (x : Nat → Int32) : p_directory (q_entry σ x) = p_directory σ := rfl
theorem zq_pq_gate_entry (σ : SS) (x : Nat → Int32) : p_gate (q_entry σ x) = p_gate σ := rfl
theorem zq_pq_categories_entry (σ : SS) (x : Nat → Int32) : p_categories (q_entry σ x) = p_categories σ := rfl
theorem zq_pq_packed_cellCount (σ : SS) (x : Nat → Int32) : p_packed (q_cellCount σ x) = p_packed σ := rfl
theorem zq_pq_size_cellCount (σ : SS) (x : Nat → Int32) : p_size (q_cellCount σ x) = p_size σ := rfl
theorem zq_pq_there_cellCount (σ : SS) (x : Nat → Int32) : p_there (q_cellCount σ x) = p_there σ := rfl
theorem zq_pq_kind_cellCount (σ : SS) (x : Nat → Int32) : p_kind (q_cellCount σ x) = p_kind σ := rfl
theorem zq_pq_label_cellCount (σ : SS) (x : Nat → Int32) : p_label (q_cellCount σ x) = p_label σ := rfl
theorem zq_pq_quota_cellCount (σ : SS) (x : Nat → Int32) : p_quota (q_cellCount σ x) = p_quota σ := rfl
theorem zq_pq_place_cellCount (σ : SS) (x : Nat → Int32) : p_place (q_cellCount σ x) = p_place σ := rfl
theorem zq_pq_depth_cellCount (σ : SS) (x : Nat → Int32) : p_depth (q_cellCount σ x) = p_depth σ := rfl
theorem zq_pq_clearance_cellCount (σ : SS) (x : Nat → Int32) : p_clearance (q_cellCount σ x) = p_clearance σ := rfl
theorem zq_pq_guard_cellCount (σ : SS) (x : Nat → Int32) : p_guard (q_cellCount σ x) = p_guard σ := rfl
theorem zq_pq_entry_cellCount (σ : SS) (x : Nat → Int32) : p_entry (q_cellCount σ x) = p_entry σ := rfl
theorem zq_pe_cellCount (σ : SS) (x : Nat → Int32) : p_cellCount (q_cellCount σ x) = x := rfl
theorem zq_pq_cells_cellCount (σ : SS) (x : Nat → Int32) : p_cells (q_cellCount σ x) = p_cells σ := rfl
theorem zq_pq_made_cellCount (σ : SS) (x : Nat → Int32) : p_made (q_cellCount σ x) = p_made σ := rfl
theorem zq_pq_uthere_cellCount (σ : SS) (x : Nat → Int32) : p_uthere (q_cellCount σ x) = p_uthere σ := rfl
theorem zq_pq_password_cellCount (σ : SS) (x : Nat → Int32) : p_password (q_cellCount σ x) = p_password σ := rfl
theorem zq_pq_firstCategory_cellCount (σ : SS) (x : Nat → Int32) : p_firstCategory (q_cellCount σ x) = p_firstCategory σ := rfl
theorem zq_pq_secondCategory_cellCount (σ : SS) (x : Nat → Int32) : p_secondCategory (q_cellCount σ x) = p_secondCategory σ := rfl
theorem zq_pq_home_cellCount (σ : SS) (x : Nat → Int32) : p_home (q_cellCount σ x) = p_home σ := rfl
theorem zq_pq_directory_cellCount (σ : SS) (x : Nat → Int32) : p_directory (q_cellCount σ x) = p_directory σ := rfl
theorem zq_pq_gate_cellCount (σ : SS) (x : Nat → Int32) : p_gate (q_cellCount σ x) = p_gate σ := rfl
theorem zq_pq_categories_cellCount (σ : SS) (x : Nat → Int32) : p_categories (q_cellCount σ x) = p_categories σ := rfl
theorem zq_pq_packed_made (σ : SS) (x : Int32) : p_packed (q_made σ x) = p_packed σ := rfl
theorem zq_pq_size_made (σ : SS) (x : Int32) : p_size (q_made σ x) = p_size σ := rfl
theorem zq_pq_there_made (σ : SS) (x : Int32) : p_there (q_made σ x) = p_there σ := rfl
theorem zq_pq_kind_made (σ : SS) (x : Int32) : p_kind (q_made σ x) = p_kind σ := rfl
theorem zq_pq_label_made (σ : SS) (x : Int32) : p_label (q_made σ x) = p_label σ := rfl
theorem zq_pq_quota_made (σ : SS) (x : Int32) : p_quota (q_made σ x) = p_quota σ := rfl
theorem zq_pq_place_made (σ : SS) (x : Int32) : p_place (q_made σ x) = p_place σ := rfl
theorem zq_pq_depth_made (σ : SS) (x : Int32) : p_depth (q_made σ x) = p_depth σ := rfl
theorem zq_pq_clearance_made (σ : SS) (x : Int32) : p_clearance (q_made σ x) = p_clearance σ := rfl
theorem zq_pq_guard_made (σ : SS) (x : Int32) : p_guard (q_made σ x) = p_guard σ := rfl
theorem zq_pq_entry_made (σ : SS) (x : Int32) : p_entry (q_made σ x) = p_entry σ := rfl
theorem zq_pq_cellCount_made (σ : SS) (x : Int32) : p_cellCount (q_made σ x) = p_cellCount σ := rfl
theorem zq_pq_cells_made (σ : SS) (x : Int32) : p_cells (q_made σ x) = p_cells σ := rfl
theorem zq_pe_made (σ : SS) (x : Int32) : p_made (q_made σ x) = x := rfl
theorem zq_pq_uthere_made (σ : SS) (x : Int32) : p_uthere (q_made σ x) = p_uthere σ := rfl
theorem zq_pq_password_made (σ : SS) (x : Int32) : p_password (q_made σ x) = p_password σ := rfl
theorem zq_pq_firstCategory_made (σ : SS) (x : Int32) : p_firstCategory (q_made σ x) = p_firstCategory σ := rfl
theorem zq_pq_secondCategory_made (σ : SS) (x : Int32) : p_secondCategory (q_made σ x) = p_secondCategory σ := rfl
theorem zq_pq_home_made (σ : SS) (x : Int32) : p_home (q_made σ x) = p_home σ := rfl
theorem zq_pq_directory_made (σ : SS) (x : Int32) : p_directory (q_made σ x) = p_directory σ := rfl
theorem zq_pq_gate_made (σ : SS) (x : Int32) : p_gate (q_made σ x) = p_gate σ := rfl
theorem zq_pq_categories_made (σ : SS) (x : Int32) : p_categories (q_made σ x) = p_categories σ := rfl
def zq_addS (σ : SS) (o : Nat) (kd : Int32) (d : Nat) (lb qu : Int32) : SS :=
  q_made (q_clearance (q_depth (q_place (q_quota (q_label (q_kind (q_there σ (upd (p_there σ) o 1)) (upd (p_kind σ) o kd)) (upd (p_label σ) o lb)) (upd (p_quota σ) o qu)) (upd (p_place σ) o (nI d))) (upd (p_depth σ) o (p_depth σ d + 1))) (upd (p_clearance σ) o (-1))) (nI o)
theorem zq_aS_packed (σ : SS) (o : Nat) (kd : Int32) (d : Nat) (lb qu : Int32) : p_packed (zq_addS σ o kd d lb qu) = p_packed σ := by
  unfold zq_addS; rw [zq_pq_packed_made, zq_pq_packed_clearance, zq_pq_packed_depth, zq_pq_packed_place, zq_pq_packed_quota, zq_pq_packed_label, zq_pq_packed_kind, zq_pq_packed_there]
theorem zq_aS_size (σ : SS) (o : Nat) (kd : Int32) (d : Nat) (lb qu : Int32) : p_size (zq_addS σ o kd d lb qu) = p_size σ := by
  unfold zq_addS; rw [zq_pq_size_made, zq_pq_size_clearance, zq_pq_size_depth, zq_pq_size_place, zq_pq_size_quota, zq_pq_size_label, zq_pq_size_kind, zq_pq_size_there]
theorem zq_aS_there (σ : SS) (o : Nat) (kd : Int32) (d : Nat) (lb qu : Int32) : p_there (zq_addS σ o kd d lb qu) = upd (p_there σ) o 1 := by
  unfold zq_addS; rw [zq_pq_there_made, zq_pq_there_clearance, zq_pq_there_depth, zq_pq_there_place, zq_pq_there_quota, zq_pq_there_label, zq_pq_there_kind, zq_pe_there]
theorem zq_aS_kind (σ : SS) (o : Nat) (kd : Int32) (d : Nat) (lb qu : Int32) : p_kind (zq_addS σ o kd d lb qu) = upd (p_kind σ) o kd := by
  unfold zq_addS; rw [zq_pq_kind_made, zq_pq_kind_clearance, zq_pq_kind_depth, zq_pq_kind_place, zq_pq_kind_quota, zq_pq_kind_label, zq_pe_kind]
theorem zq_aS_label (σ : SS) (o : Nat) (kd : Int32) (d : Nat) (lb qu : Int32) : p_label (zq_addS σ o kd d lb qu) = upd (p_label σ) o lb := by
  unfold zq_addS; rw [zq_pq_label_made, zq_pq_label_clearance, zq_pq_label_depth, zq_pq_label_place, zq_pq_label_quota, zq_pe_label]
theorem zq_aS_quota (σ : SS) (o : Nat) (kd : Int32) (d : Nat) (lb qu : Int32) : p_quota (zq_addS σ o kd d lb qu) = upd (p_quota σ) o qu := by
  unfold zq_addS; rw [zq_pq_quota_made, zq_pq_quota_clearance, zq_pq_quota_depth, zq_pq_quota_place, zq_pe_quota]
theorem zq_aS_place (σ : SS) (o : Nat) (kd : Int32) (d : Nat) (lb qu : Int32) : p_place (zq_addS σ o kd d lb qu) = upd (p_place σ) o (nI d) := by
  unfold zq_addS; rw [zq_pq_place_made, zq_pq_place_clearance, zq_pq_place_depth, zq_pe_place]
theorem zq_aS_depth (σ : SS) (o : Nat) (kd : Int32) (d : Nat) (lb qu : Int32) : p_depth (zq_addS σ o kd d lb qu) = upd (p_depth σ) o (p_depth σ d + 1) := by
  unfold zq_addS; rw [zq_pq_depth_made, zq_pq_depth_clearance, zq_pe_depth]
theorem zq_aS_clearance (σ : SS) (o : Nat) (kd : Int32) (d : Nat) (lb qu : Int32) : p_clearance (zq_addS σ o kd d lb qu) = upd (p_clearance σ) o (-1) := by
  unfold zq_addS; rw [zq_pq_clearance_made, zq_pe_clearance]
theorem zq_aS_guard (σ : SS) (o : Nat) (kd : Int32) (d : Nat) (lb qu : Int32) : p_guard (zq_addS σ o kd d lb qu) = p_guard σ := by
  unfold zq_addS; rw [zq_pq_guard_made, zq_pq_guard_clearance, zq_pq_guard_depth, zq_pq_guard_place, zq_pq_guard_quota, zq_pq_guard_label, zq_pq_guard_kind, zq_pq_guard_there]
theorem zq_aS_entry (σ : SS) (o : Nat) (kd : Int32) (d : Nat) (lb qu : Int32) : p_entry (zq_addS σ o kd d lb qu) = p_entry σ := by
  unfold zq_addS; rw [zq_pq_entry_made, zq_pq_entry_clearance, zq_pq_entry_depth, zq_pq_entry_place, zq_pq_entry_quota, zq_pq_entry_label, zq_pq_entry_kind, zq_pq_entry_there]
theorem zq_aS_cellCount (σ : SS) (o : Nat) (kd : Int32) (d : Nat) (lb qu : Int32) : p_cellCount (zq_addS σ o kd d lb qu) = p_cellCount σ := by
  unfold zq_addS; rw [zq_pq_cellCount_made, zq_pq_cellCount_clearance, zq_pq_cellCount_depth, zq_pq_cellCount_place, zq_pq_cellCount_quota, zq_pq_cellCount_label, zq_pq_cellCount_kind, zq_pq_cellCount_there]
theorem zq_aS_cells (σ : SS) (o : Nat) (kd : Int32) (d : Nat) (lb qu : Int32) : p_cells (zq_addS σ o kd d lb qu) = p_cells σ := by
  unfold zq_addS; rw [zq_pq_cells_made, zq_pq_cells_clearance, zq_pq_cells_depth, zq_pq_cells_place, zq_pq_cells_quota, zq_pq_cells_label, zq_pq_cells_kind, zq_pq_cells_there]
theorem zq_aS_made (σ : SS) (o : Nat) (kd : Int32) (d : Nat) (lb qu : Int32) : p_made (zq_addS σ o kd d lb qu) = nI o := by
  unfold zq_addS; rw [zq_pe_made]
theorem zq_aS_uthere (σ : SS) (o : Nat) (kd : Int32) (d : Nat) (lb qu : Int32) : p_uthere (zq_addS σ o kd d lb qu) = p_uthere σ := by
  unfold zq_addS; rw [zq_pq_uthere_made, zq_pq_uthere_clearance, zq_pq_uthere_depth, zq_pq_uthere_place, zq_pq_uthere_quota, zq_pq_uthere_label, zq_pq_uthere_kind, zq_pq_uthere_there]
theorem zq_aS_password (σ : SS) (o : Nat) (kd : Int32) (d : Nat) (lb qu : Int32) : p_password (zq_addS σ o kd d lb qu) = p_password σ := by
  unfold zq_addS; rw [zq_pq_password_made, zq_pq_password_clearance, zq_pq_password_depth, zq_pq_password_place, zq_pq_password_quota, zq_pq_password_label, zq_pq_password_kind, zq_pq_password_there]
theorem zq_aS_firstCategory (σ : SS) (o : Nat) (kd : Int32) (d : Nat) (lb qu : Int32) : p_firstCategory (zq_addS σ o kd d lb qu) = p_firstCategory σ := by
  unfold zq_addS; rw [zq_pq_firstCategory_made, zq_pq_firstCategory_clearance, zq_pq_firstCategory_depth, zq_pq_firstCategory_place, zq_pq_firstCategory_quota, zq_pq_firstCategory_label, zq_pq_firstCategory_kind, zq_pq_firstCategory_there]
theorem zq_aS_secondCategory (σ : SS) (o : Nat) (kd : Int32) (d : Nat) (lb qu : Int32) : p_secondCategory (zq_addS σ o kd d lb qu) = p_secondCategory σ := by
  unfold zq_addS; rw [zq_pq_secondCategory_made, zq_pq_secondCategory_clearance, zq_pq_secondCategory_depth, zq_pq_secondCategory_place, zq_pq_secondCategory_quota, zq_pq_secondCategory_label, zq_pq_secondCategory_kind, zq_pq_secondCategory_there]
theorem zq_aS_home (σ : SS) (o : Nat) (kd : Int32) (d : Nat) (lb qu : Int32) : p_home (zq_addS σ o kd d lb qu) = p_home σ := by
  unfold zq_addS; rw [zq_pq_home_made, zq_pq_home_clearance, zq_pq_home_depth, zq_pq_home_place, zq_pq_home_quota, zq_pq_home_label, zq_pq_home_kind, zq_pq_home_there]
theorem zq_aS_directory (σ : SS) (o : Nat) (kd : Int32) (d : Nat) (lb qu : Int32) : p_directory (zq_addS σ o kd d lb qu) = p_directory σ := by
  unfold zq_addS; rw [zq_pq_directory_made, zq_pq_directory_clearance, zq_pq_directory_depth, zq_pq_directory_place, zq_pq_directory_quota, zq_pq_directory_label, zq_pq_directory_kind, zq_pq_directory_there]
theorem zq_aS_gate (σ : SS) (o : Nat) (kd : Int32) (d : Nat) (lb qu : Int32) : p_gate (zq_addS σ o kd d lb qu) = p_gate σ := by
  unfold zq_addS; rw [zq_pq_gate_made, zq_pq_gate_clearance, zq_pq_gate_depth, zq_pq_gate_place, zq_pq_gate_quota, zq_pq_gate_label, zq_pq_gate_kind, zq_pq_gate_there]
theorem zq_aS_categories (σ : SS) (o : Nat) (kd : Int32) (d : Nat) (lb qu : Int32) : p_categories (zq_addS σ o kd d lb qu) = p_categories σ := by
  unfold zq_addS; rw [zq_pq_categories_made, zq_pq_categories_clearance, zq_pq_categories_depth, zq_pq_categories_place, zq_pq_categories_quota, zq_pq_categories_label, zq_pq_categories_kind, zq_pq_categories_there]
theorem zq_aS_U (σ : SS) (o : Nat) (kd : Int32) (d : Nat) (lb qu : Int32) : zq_UEq σ (zq_addS σ o kd d lb qu) := ⟨zq_aS_uthere _ _ _ _ _ _, zq_aS_password _ _ _ _ _ _, zq_aS_firstCategory _ _ _ _ _ _, zq_aS_secondCategory _ _ _ _ _ _, zq_aS_home _ _ _ _ _ _, zq_aS_directory _ _ _ _ _ _, zq_aS_gate _ _ _ _ _ _⟩
theorem zq_gt_add {s m g : Nat} {σ : KS} {row : Nat → Int32} (h : zq_Rel s m g σ.1 row) (hm : m < 60) {d : Nat} (d1 : 1 ≤ d) (d2 : d ≤ m) (kd lb qu : Int32) :
    f_Tg_add σ kd (nI d) lb qu = some (nI (m + 1), (zq_addS σ.1 (m + 1) kd d lb qu, σ.2)) := by
  have hd : ¬ (nI d = 0) := by
    have e : (0 : Int32) = nI 0 := rfl
    rw [e, zq_zp_eq (by omega) (by omega)]; omega
  unfold f_Tg_add
  simp only [h.md, zq_zp_s1, zq_zp_cl (m + 1) (show m + 1 < 2147483648 by omega), zq_zp_gF (show m + 1 < 61 by omega) (show 61 < 2147483648 by omega), zq_zp_cl d (show d < 2147483648 by omega), zq_zp_gF (show d < 61 by omega) (show 61 < 2147483648 by omega), if_false, zl, hd, zq_zp_nar1, sN_there, sN_kind, sN_label, sN_quota, sN_place, sN_depth, sN_clearance, sN_made, gN_there, gN_kind, gN_label, gN_quota, gN_place, gN_depth, gN_clearance, zq_pq_kind_there, zq_pq_label_there, zq_pq_label_kind, zq_pq_quota_there, zq_pq_quota_kind, zq_pq_quota_label, zq_pq_place_there, zq_pq_place_kind, zq_pq_place_label, zq_pq_place_quota, zq_pq_depth_there, zq_pq_depth_kind, zq_pq_depth_label, zq_pq_depth_quota, zq_pq_depth_place, zq_pq_clearance_there, zq_pq_clearance_kind, zq_pq_clearance_label, zq_pq_clearance_quota, zq_pq_clearance_place, zq_pq_clearance_depth, zq_addS]
theorem zq_rowF_out {row : Nat → Int32} {o j : Nat} {kd lb qu pl cl : Int32} (h : j < 17 * o ∨ 17 * o + 17 ≤ j) : zq_rowF row o kd lb qu pl cl j = row j := by
  unfold zq_rowF
  rw [zq_upd_ne (by omega), zq_upd_ne (by omega), zq_upd_ne (by omega), zq_upd_ne (by omega), zq_upd_ne (by omega), zq_upd_ne (by omega)]
  unfold zq_rwN; rw [if_neg (by omega)]
theorem zq_rowF_z {row : Nat → Int32} {o k : Nat} {kd lb qu pl cl : Int32} (h : k < 17) (h1 : k = 5 ∨ 7 ≤ k) : zq_rowF row o kd lb qu pl cl (17 * o + k) = 0 := by
  unfold zq_rowF
  rw [zq_upd_ne (by omega), zq_upd_ne (by omega), zq_upd_ne (by omega), zq_upd_ne (by omega), zq_upd_ne (by omega), zq_upd_ne (by omega)]
  unfold zq_rwN; rw [if_pos (by omega)]
theorem zq_rowF_0 {row : Nat → Int32} {o : Nat} {kd lb qu pl cl : Int32} : zq_rowF row o kd lb qu pl cl (17 * o) = 1 := by
  unfold zq_rowF
  rw [zq_upd_ne (by omega), zq_upd_ne (by omega), zq_upd_ne (by omega), zq_upd_ne (by omega), zq_upd_ne (by omega), zq_upd_eq]
theorem zq_rowF_1 {row : Nat → Int32} {o : Nat} {kd lb qu pl cl : Int32} : zq_rowF row o kd lb qu pl cl (17 * o + 1) = kd := by
  unfold zq_rowF
  rw [zq_upd_ne (by omega), zq_upd_ne (by omega), zq_upd_ne (by omega), zq_upd_ne (by omega), zq_upd_eq]
theorem zq_rowF_2 {row : Nat → Int32} {o : Nat} {kd lb qu pl cl : Int32} : zq_rowF row o kd lb qu pl cl (17 * o + 2) = lb := by
  unfold zq_rowF
  rw [zq_upd_ne (by omega), zq_upd_ne (by omega), zq_upd_ne (by omega), zq_upd_eq]
theorem zq_rowF_3 {row : Nat → Int32} {o : Nat} {kd lb qu pl cl : Int32} : zq_rowF row o kd lb qu pl cl (17 * o + 3) = qu := by
  unfold zq_rowF
  rw [zq_upd_ne (by omega), zq_upd_ne (by omega), zq_upd_eq]
theorem zq_rowF_4 {row : Nat → Int32} {o : Nat} {kd lb qu pl cl : Int32} : zq_rowF row o kd lb qu pl cl (17 * o + 4) = pl := by
  unfold zq_rowF
  rw [zq_upd_ne (by omega), zq_upd_eq]
theorem zq_rowF_6 {row : Nat → Int32} {o : Nat} {kd lb qu pl cl : Int32} : zq_rowF row o kd lb qu pl cl (17 * o + 6) = cl := by
  unfold zq_rowF
  rw [zq_upd_eq]
theorem zq_Rel_made {s m g : Nat} {σ τ : SS} {row row' : Nat → Int32} (h : zq_Rel s m g σ row) (hm : m < 60) {d l kd : Nat} (d1 : 1 ≤ d) (d2 : d ≤ m) (hl : l < s) (hk : kd < 4) (qu cl gu en cc : Int32)
    (hsz : p_size τ = p_size σ) (hpk : p_packed τ = p_packed σ) (hct : p_categories τ = p_categories σ) (hU : zq_UEq σ τ) (hmd : p_made τ = nI (m + 1))
    (t1 : p_there τ = upd (p_there σ) (m + 1) 1) (t2 : p_kind τ = upd (p_kind σ) (m + 1) (nI kd)) (t3 : p_label τ = upd (p_label σ) (m + 1) (nI l)) (t4 : p_quota τ = upd (p_quota σ) (m + 1) qu)
    (t5 : p_place τ = upd (p_place σ) (m + 1) (nI d)) (t6 : p_depth τ = upd (p_depth σ) (m + 1) (p_depth σ d + 1))
    (t7 : ∀ o, o ≠ m + 1 → p_clearance τ o = p_clearance σ o) (t8 : ∀ o, o ≠ m + 1 → p_guard τ o = p_guard σ o) (t9 : ∀ o, o ≠ m + 1 → p_entry τ o = p_entry σ o)
    (t10 : ∀ o, o ≠ m + 1 → p_cellCount τ o = p_cellCount σ o) (t11 : p_cells τ = p_cells σ)
    (k7 : ((kd = 0 ∨ kd = 1) ∧ p_clearance τ (m + 1) = -1) ∨ ((kd = 2 ∨ kd = 3) ∧ p_clearance τ (m + 1) = cl ∧ ∃ l, l < s ∧ cl = nI l))
    (k8 : kd = 2 → p_guard τ (m + 1) = gu ∧ (∃ l, l < s ∧ gu = nI l) ∧ p_entry τ (m + 1) = en) (k10 : p_cellCount τ (m + 1) = cc)
    (hr : ∀ j, j ≠ 1549 → (j < 17 * (m + 1) ∨ 17 * (m + 1) + 17 ≤ j) → row' j = row j) (hr49 : row' 1549 = nI (m + 1))
    (r0 : row' (17 * (m + 1)) = 1) (r1 : row' (17 * (m + 1) + 1) = nI kd) (r2 : row' (17 * (m + 1) + 2) = nI l) (r3 : row' (17 * (m + 1) + 3) = qu) (r4 : row' (17 * (m + 1) + 4) = nI d)
    (r5 : kd = 2 → row' (17 * (m + 1) + 5) = gu) (r6 : row' (17 * (m + 1) + 6) = cl) (r7 : kd = 2 → row' (17 * (m + 1) + 7) = en) (r8 : row' (17 * (m + 1) + 8) = cc) (r9 : ∀ i, i < 8 → row' (17 * (m + 1) + 9 + i) = 0) :
    zq_Rel s (m + 1) g τ row' := by
  have en0 : (nI kd = 0) = (kd = 0) := zq_zp_eq (a := kd) (b := 0) (by omega) (by omega)
  have en1 : (nI kd = 1) = (kd = 1) := zq_zp_eq (a := kd) (b := 1) (by omega) (by omega)
  have en2 : (nI kd = 2) = (kd = 2) := zq_zp_eq (a := kd) (b := 2) (by omega) (by omega)
  have en3 : (nI kd = 3) = (kd = 3) := zq_zp_eq (a := kd) (b := 3) (by omega) (by omega)
  obtain ⟨n1, n2, n3⟩ := h.nb (o := m + 1) (by omega) (by omega)
  refine zq_Rel_new h hm hsz hpk hct hU hmd ?_ ?_ hr hr49 ?_
  · intro o' ho
    refine ⟨by rw [t1, zq_upd_ne (by omega)], by rw [t2, zq_upd_ne (by omega)], by rw [t3, zq_upd_ne (by omega)], by rw [t4, zq_upd_ne (by omega)], by rw [t5, zq_upd_ne (by omega)], fun e he => by rw [t6, zq_upd_ne (by omega)], t7 o' (by omega), t8 o' (by omega), t9 o' (by omega), t10 o' (by omega), fun i hi => by rw [t11]⟩
  · intro o' ho ho2
    exact ⟨by rw [t1, zq_upd_ne (by omega)], t10 o' (by omega), fun i hi => by rw [t11]⟩
  · unfold zq_ROb
    rw [r0, r1, r2, r3, r4, r6, r8, t1, t2, t3, t4, t5, t6, zq_upd_eq, zq_upd_eq, zq_upd_eq, zq_upd_eq, zq_upd_eq, zq_upd_eq, en0, en1, en2, en3]
    refine ⟨⟨rfl, Or.inr rfl⟩, ⟨rfl, kd, hk, rfl⟩, ⟨rfl, l, hl, rfl⟩, rfl, ⟨rfl, Or.inr ⟨d, d1, by omega, rfl, by rw [zq_upd_ne (show d ≠ m + 1 by omega)]⟩⟩, ?_, ?_, k10, ?_⟩
    · rcases k7 with k7 | ⟨k7, k7', k7''⟩
      · exact Or.inl k7
      · exact Or.inr ⟨k7, k7', k7''⟩
    · intro e
      rw [r5 e, r7 e]; exact k8 e
    · intro i hi
      rw [t11, r9 i hi]; exact n3 i hi
theorem zq_zp_m1' : ((-1 : Int32) < 0) = True := by decide
theorem zq_zp_opContainer {s m g : Nat} {σ : KS} {ρ : RS} (h : zq_Rel s m g σ.1 (gM_row ρ)) (x1 x2 x3 x4 : Int32) :
    zq_Step σ ρ (f_Ke_container σ x1 x2 x3 x4) (f_Mo_makeContainer ρ x1 x2 x3 x4) (fun _ τ r => zq_RR τ r ∧ zq_UEq σ.1 τ) := by
  obtain ⟨a1, a2, a3, a4, a5⟩ := h.b
  unfold f_Ke_container f_Mo_makeContainer
  rcases zq_zp_isStarless a2 h.sz h.szM (show 1 ≤ s by omega) h.lb x3 with ⟨l, l1, rfl, l2, l3, l4⟩ | ⟨l2, l3⟩
  · rcases zq_zp_btw x4 (A := 1) (B := 200) (a := 1) (b := 200) rfl rfl (by omega) (by omega) with ⟨i, i1, i2, rfl, i3, i4⟩ | ⟨i3, i4⟩
    · simp only [l2, l3, l4, i3, i4, Option.bind_some, zq_zp_10, if_false]
      rcases zq_zp_tc h x1 x2 with ⟨t, d, ⟨t1, t2, rfl⟩, ⟨d1, d2, rfl⟩, k1, k2, n1, p1, p2⟩ | ⟨k, hk, n1, n2⟩
      · rcases zq_zp_may h t1 t2 d1 d2 k1 k2 l1 p1 p2 with ⟨n2, n3, -⟩ | ⟨n2, n3⟩
        · rcases zq_zp_room h t1 t2 d1 d2 (nI l) (nI i) 0 0 0 (Or.inr (Or.inr ⟨by decide, by decide, rfl⟩)) with ⟨n4, n5, n6⟩ | ⟨n4, n5⟩
          · simp only [n1, n2, n3 _ _ _ (show ¬ (0 : Int32) = 3 by decide), n4, n6, zq_zx_ok, Option.bind_some, zq_gt_add h n5 d1 d2]
            refine zq_Step.good _ _ _ rfl rfl ⟨⟨s, m + 1, g, ?_⟩, zq_aS_U _ _ _ _ _ _⟩
            refine zq_Rel_made h n5 (kd := 0) d1 d2 l1 (by omega) (nI i) 0 0 0 0 (zq_aS_size _ _ _ _ _ _) (zq_aS_packed _ _ _ _ _ _) (zq_aS_categories _ _ _ _ _ _) (zq_aS_U _ _ _ _ _ _) (zq_aS_made _ _ _ _ _ _) (zq_aS_there _ _ _ _ _ _) (zq_aS_kind _ _ _ _ _ _) (zq_aS_label _ _ _ _ _ _) (zq_aS_quota _ _ _ _ _ _) (zq_aS_place _ _ _ _ _ _) (zq_aS_depth _ _ _ _ _ _) (fun o ho => by rw [zq_aS_clearance, zq_upd_ne ho]) (fun _ _ => by rw [zq_aS_guard]) (fun _ _ => by rw [zq_aS_entry]) (fun _ _ => by rw [zq_aS_cellCount]) (zq_aS_cells _ _ _ _ _ _)
              (Or.inl ⟨Or.inl rfl, by rw [zq_aS_clearance, zq_upd_eq]⟩) (fun e => absurd e (by omega)) (by rw [zq_aS_cellCount]; exact (h.nb (o := m + 1) (by omega) (by omega)).2.1) (fun j j1 j2 => ?_) ?_ zq_rowF_0 zq_rowF_1 zq_rowF_2 zq_rowF_3 zq_rowF_4 (fun e => absurd e (by omega)) zq_rowF_6 (fun e => absurd e (by omega)) (zq_rowF_z (by omega) (by omega)) (fun i hi => ?_)
            · rw [zq_rowF_out j2, zq_upd_ne j1]
            · rw [zq_rowF_out (by omega), zq_upd_eq]
            · rw [Nat.add_assoc]; exact zq_rowF_z (by omega) (by omega)
          · simp only [n1, n2, n3 _ _ _ (show ¬ (0 : Int32) = 3 by decide), n4, n5, zq_zx_ok, zq_zx_err, Option.bind_some]
            exact zq_Step.err 4 zq_k_4 0 rfl rfl
        · simp only [n1, n2, n3, zq_zx_ok, zq_zx_err, Option.bind_some]
          exact zq_Step.err 3 zq_k_3 0 rfl rfl
      · simp only [n1, n2, zq_zx_err, Option.bind_some]
        exact zq_Step.err k hk 0 rfl rfl
    · simp only [l2, l3, i3, i4, Option.bind_some, zq_zp_10, if_false, if_true]
      exact zq_Step.err 1 zq_k_1 0 rfl rfl
  · rcases l3 with l3 | ⟨l3, l4⟩
    · simp only [l2, l3, Option.bind_some, if_true]
      exact zq_Step.err 1 zq_k_1 0 rfl rfl
    · rcases zq_zp_btw' x4 1 200 with ⟨i1, i2⟩ | ⟨i1, i2⟩
      · simp only [l2, l3, l4, i2, Option.bind_some, zq_zp_10, if_false, if_true]
        exact zq_Step.err 1 zq_k_1 0 rfl rfl
      · simp only [l2, l3, l4, i2, Option.bind_some, zq_zp_10, if_false, if_true]
        exact zq_Step.err 1 zq_k_1 0 rfl rfl
theorem zq_zp_le0 {k : Nat} (hk : k < 2147483648) (h1 : 1 ≤ k) : ¬ (nI k ≤ (0 : Int32)) := by
  have e : (0 : Int32) = nI 0 := rfl
  rw [e, zq_zp_le hk (by omega)]; omega
theorem zq_zp_ne0 {k : Nat} (hk : k < 2147483648) (h1 : 1 ≤ k) : ¬ (nI k = (0 : Int32)) := by
  have e : (0 : Int32) = nI 0 := rfl
  rw [e, zq_zp_eq hk (by omega)]; omega
theorem zq_uq_cellCount {σ X : SS} (x : Nat → Int32) (h : zq_UEq σ X) : zq_UEq σ (q_cellCount X x) := by
  obtain ⟨h1, h2, h3, h4, h5, h6, h7⟩ := h
  exact ⟨(zq_pq_uthere_cellCount X x).trans h1, (zq_pq_password_cellCount X x).trans h2, (zq_pq_firstCategory_cellCount X x).trans h3, (zq_pq_secondCategory_cellCount X x).trans h4, (zq_pq_home_cellCount X x).trans h5, (zq_pq_directory_cellCount X x).trans h6, (zq_pq_gate_cellCount X x).trans h7⟩
theorem zq_uq_clearance {σ X : SS} (x : Nat → Int32) (h : zq_UEq σ X) : zq_UEq σ (q_clearance X x) := by
  obtain ⟨h1, h2, h3, h4, h5, h6, h7⟩ := h
  exact ⟨(zq_pq_uthere_clearance X x).trans h1, (zq_pq_password_clearance X x).trans h2, (zq_pq_firstCategory_clearance X x).trans h3, (zq_pq_secondCategory_clearance X x).trans h4, (zq_pq_home_clearance X x).trans h5, (zq_pq_directory_clearance X x).trans h6, (zq_pq_gate_clearance X x).trans h7⟩
theorem zq_uq_guard {σ X : SS} (x : Nat → Int32) (h : zq_UEq σ X) : zq_UEq σ (q_guard X x) := by
  obtain ⟨h1, h2, h3, h4, h5, h6, h7⟩ := h
  exact ⟨(zq_pq_uthere_guard X x).trans h1, (zq_pq_password_guard X x).trans h2, (zq_pq_firstCategory_guard X x).trans h3, (zq_pq_secondCategory_guard X x).trans h4, (zq_pq_home_guard X x).trans h5, (zq_pq_directory_guard X x).trans h6, (zq_pq_gate_guard X x).trans h7⟩
theorem zq_uq_entry {σ X : SS} (x : Nat → Int32) (h : zq_UEq σ X) : zq_UEq σ (q_entry X x) := by
  obtain ⟨h1, h2, h3, h4, h5, h6, h7⟩ := h
  exact ⟨(zq_pq_uthere_entry X x).trans h1, (zq_pq_password_entry X x).trans h2, (zq_pq_firstCategory_entry X x).trans h3, (zq_pq_secondCategory_entry X x).trans h4, (zq_pq_home_entry X x).trans h5, (zq_pq_directory_entry X x).trans h6, (zq_pq_gate_entry X x).trans h7⟩
theorem zq_uq_there {σ X : SS} (x : Nat → Int32) (h : zq_UEq σ X) : zq_UEq σ (q_there X x) := by
  obtain ⟨h1, h2, h3, h4, h5, h6, h7⟩ := h
  exact ⟨(zq_pq_uthere_there X x).trans h1, (zq_pq_password_there X x).trans h2, (zq_pq_firstCategory_there X x).trans h3, (zq_pq_secondCategory_there X x).trans h4, (zq_pq_home_there X x).trans h5, (zq_pq_directory_there X x).trans h6, (zq_pq_gate_there X x).trans h7⟩
theorem zq_uq_label {σ X : SS} (x : Nat → Int32) (h : zq_UEq σ X) : zq_UEq σ (q_label X x) := by
  obtain ⟨h1, h2, h3, h4, h5, h6, h7⟩ := h
  exact ⟨(zq_pq_uthere_label X x).trans h1, (zq_pq_password_label X x).trans h2, (zq_pq_firstCategory_label X x).trans h3, (zq_pq_secondCategory_label X x).trans h4, (zq_pq_home_label X x).trans h5, (zq_pq_directory_label X x).trans h6, (zq_pq_gate_label X x).trans h7⟩
theorem zq_zp_opSegment {s m g : Nat} {σ : KS} {ρ : RS} (h : zq_Rel s m g σ.1 (gM_row ρ)) (x1 x2 x3 x4 : Int32) :
    zq_Step σ ρ (f_Ke_segment σ x1 x2 x3 x4) (f_Mo_makeSegment ρ x1 x2 x3 x4) (fun _ τ r => zq_RR τ r ∧ zq_UEq σ.1 τ) := by
  obtain ⟨a1, a2, a3, a4, a5⟩ := h.b
  have le00 : (0 : Int32) ≤ 0 := Int32.le_refl _
  unfold f_Ke_segment f_Mo_makeSegment
  rcases zq_zp_isStarless a2 h.sz h.szM (show 1 ≤ s by omega) h.lb x3 with ⟨l, l1, rfl, l2, l3, l4⟩ | ⟨l2, l3⟩
  · rcases zq_zp_btw x4 (A := 1) (B := 8) (a := 1) (b := 8) rfl rfl (by omega) (by omega) with ⟨i, i1, i2, rfl, i3, i4⟩ | ⟨i3, i4⟩
    · simp only [l2, l3, l4, i3, i4, Option.bind_some, zq_zp_10, if_false]
      rcases zq_zp_tc h x1 x2 with ⟨t, d, ⟨t1, t2, rfl⟩, ⟨d1, d2, rfl⟩, k1, k2, n1, p1, p2⟩ | ⟨k, hk, n1, n2⟩
      · rcases zq_zp_may h t1 t2 d1 d2 k1 k2 l1 p1 p2 with ⟨n2, n3, -⟩ | ⟨n2, n3⟩
        · rcases zq_zp_room h t1 t2 d1 d2 (nI l) (1 + nI i) 1 0 0 (Or.inr (Or.inr ⟨by decide, by decide, rfl⟩)) with ⟨n4, n5, n6⟩ | ⟨n4, n5⟩
          · simp only [n1, n2, n3 _ _ _ (show ¬ (1 : Int32) = 3 by decide), n4, n6, zq_zx_ok, Option.bind_some, zq_gt_add h n5 d1 d2, zq_gt_setCount _ (show m + 1 ≤ 60 by omega), if_neg (zq_zp_le0 (show m + 1 < 2147483648 by omega) (show 1 ≤ m + 1 by omega)), zl, zq_zp_ix8, zq_zp_cl (17 * (m + 1) + 8) (show 17 * (m + 1) + 8 < 2147483648 by omega), zq_zp_gF (show 17 * (m + 1) + 8 < 1552 by omega) (show 1552 < 2147483648 by omega), if_false]
            refine zq_Step.good _ _ (upd (zq_rowF (upd (gM_row ρ) 1549 (nI (m + 1))) (m + 1) 1 (nI l) (1 + nI i) (nI d) 0) (17 * (m + 1) + 8) (nI i)) rfl rfl ⟨⟨s, m + 1, g, ?_⟩, ?_⟩
            · refine zq_Rel_made h n5 (kd := 1) d1 d2 l1 (by omega) (1 + nI i) 0 0 0 (nI i) ?_ ?_ ?_ ?_ ?_ ?_ ?_ ?_ ?_ ?_ ?_ (fun o ho => ?_) (fun _ _ => ?_) (fun _ _ => ?_) (fun _ ho => ?_) ?_
                (Or.inl ⟨Or.inr rfl, ?_⟩) (fun e => absurd e (by omega)) ?_ (fun j j1 j2 => ?_) ?_ ?_ ?_ ?_ ?_ ?_ (fun e => absurd e (by omega)) ?_ (fun e => absurd e (by omega)) zq_upd_eq (fun i hi => ?_)
              · rw [zq_pq_size_cellCount, zq_aS_size]
              · rw [zq_pq_packed_cellCount, zq_aS_packed]
              · rw [zq_pq_categories_cellCount, zq_aS_categories]
              · exact zq_uq_cellCount _ (zq_aS_U _ _ _ _ _ _)
              · rw [zq_pq_made_cellCount, zq_aS_made]
              · rw [zq_pq_there_cellCount, zq_aS_there]
              · rw [zq_pq_kind_cellCount, zq_aS_kind]; rfl
              · rw [zq_pq_label_cellCount, zq_aS_label]
              · rw [zq_pq_quota_cellCount, zq_aS_quota]
              · rw [zq_pq_place_cellCount, zq_aS_place]
              · rw [zq_pq_depth_cellCount, zq_aS_depth]
              · rw [zq_pq_clearance_cellCount, zq_aS_clearance, zq_upd_ne ho]
              · rw [zq_pq_guard_cellCount, zq_aS_guard]
              · rw [zq_pq_entry_cellCount, zq_aS_entry]
              · rw [zq_pe_cellCount, zq_aS_cellCount, zq_upd_ne ho]
              · rw [zq_pq_cells_cellCount, zq_aS_cells]
              · rw [zq_pq_clearance_cellCount, zq_aS_clearance, zq_upd_eq]
              · rw [zq_pe_cellCount, zq_upd_eq]
              · rw [zq_upd_ne (by omega), zq_rowF_out j2, zq_upd_ne j1]
              · rw [zq_upd_ne (by omega), zq_rowF_out (by omega), zq_upd_eq]
              · rw [zq_upd_ne (by omega), zq_rowF_0]
              · rw [zq_upd_ne (by omega), zq_rowF_1]; rfl
              · rw [zq_upd_ne (by omega), zq_rowF_2]
              · rw [zq_upd_ne (by omega), zq_rowF_3]
              · rw [zq_upd_ne (by omega), zq_rowF_4]
              · rw [zq_upd_ne (by omega), zq_rowF_6]
              · rw [zq_upd_ne (by omega), Nat.add_assoc]; exact zq_rowF_z (by omega) (by omega)
            · exact zq_uq_cellCount _ (zq_aS_U _ _ _ _ _ _)
          · simp only [n1, n2, n3 _ _ _ (show ¬ (1 : Int32) = 3 by decide), n4, n5, zq_zx_ok, zq_zx_err, Option.bind_some, le00, if_true]
            exact zq_Step.err 4 zq_k_4 0 rfl rfl
        · simp only [n1, n2, n3, zq_zx_ok, zq_zx_err, Option.bind_some, le00, if_true]
          exact zq_Step.err 3 zq_k_3 0 rfl rfl
      · simp only [n1, n2, zq_zx_err, Option.bind_some, le00, if_true]
        exact zq_Step.err k hk 0 rfl rfl
    · simp only [l2, l3, i3, i4, Option.bind_some, zq_zp_10, if_false, if_true]
      exact zq_Step.err 1 zq_k_1 0 rfl rfl
  · rcases l3 with l3 | ⟨l3, l4⟩
    · simp only [l2, l3, Option.bind_some, if_true]
      exact zq_Step.err 1 zq_k_1 0 rfl rfl
    · rcases zq_zp_btw' x4 1 8 with ⟨i1, i2⟩ | ⟨i1, i2⟩
      · simp only [l2, l3, l4, i2, Option.bind_some, zq_zp_10, if_false, if_true]
        exact zq_Step.err 1 zq_k_1 0 rfl rfl
      · simp only [l2, l3, l4, i2, Option.bind_some, zq_zp_10, if_false, if_true]
        exact zq_Step.err 1 zq_k_1 0 rfl rfl
theorem zq_zp_opGate {s m g : Nat} {σ : KS} {ρ : RS} (h : zq_Rel s m g σ.1 (gM_row ρ)) (x1 x2 x3 x4 x5 : Int32) :
    zq_Step σ ρ (f_Ke_gate σ x1 x2 x3 x4 x5) (f_Mo_makeGate ρ x1 x2 x3 x4 x5) (fun _ τ r => zq_RR τ r) := by
  obtain ⟨a1, a2, a3, a4, a5⟩ := h.b
  unfold f_Ke_gate f_Mo_makeGate
  rcases zq_zp_has a2 h.sz h.szM (show 1 ≤ s by omega) x3 with ⟨l, l1, rfl, l2, l3⟩ | ⟨l2, l3⟩
  · rcases zq_zp_isStarless a2 h.sz h.szM (show 1 ≤ s by omega) h.lb x4 with ⟨q, q1, rfl, q2, q3, q4⟩ | ⟨q2, q3⟩
    · simp only [l2, l3, q2, q3, q4, Option.bind_some, zq_zp_10, if_false]
      rcases zq_zp_tc h x1 x2 with ⟨t, d, ⟨t1, t2, rfl⟩, ⟨d1, d2, rfl⟩, k1, k2, n1, p1, p2⟩ | ⟨k, hk, n1, n2⟩
      · obtain ⟨tc, tc1, tc2, tc3⟩ := h.cl t1 t2 (Or.inr k1)
        rcases zq_zp_may h t1 t2 d1 d2 k1 k2 l1 p1 p2 with ⟨n2, n3, -⟩ | ⟨n2, n3⟩
        · rcases zq_zp_room h t1 t2 d1 d2 (nI l) 2 2 0 (gM_row ρ (17 * t + 6)) (Or.inr (Or.inl ⟨rfl, rfl⟩)) with ⟨n4, n5, n6⟩ | ⟨n4, n5⟩
          · have ec : gN_clearance (zq_addS σ.1 (m + 1) 2 d (nI l) 2, σ.2) t = nI tc := by
              show p_clearance (zq_addS σ.1 (m + 1) 2 d (nI l) 2) t = nI tc
              rw [zq_aS_clearance, zq_upd_ne (by omega)]; exact tc2
            simp only [n1, n2, n3 _ _ _ (show ¬ (2 : Int32) = 3 by decide), n4, n6, zq_zx_ok, Option.bind_some, zq_gt_add h n5 d1 d2, zq_gt_clear _ (show t ≤ 60 by omega), ec, zq_gt_setClear _ (show m + 1 ≤ 60 by omega), zq_gt_setGuard _ (show m + 1 ≤ 60 by omega), if_neg (zq_zp_ne0 (show m + 1 < 2147483648 by omega) (show 1 ≤ m + 1 by omega)), zl, zq_zp_ix5, zq_zp_ix7, zq_zp_cl (17 * (m + 1) + 5) (show 17 * (m + 1) + 5 < 2147483648 by omega), zq_zp_cl (17 * (m + 1) + 7) (show 17 * (m + 1) + 7 < 2147483648 by omega), zq_zp_gF (show 17 * (m + 1) + 5 < 1552 by omega) (show 1552 < 2147483648 by omega), zq_zp_gF (show 17 * (m + 1) + 7 < 1552 by omega) (show 1552 < 2147483648 by omega), if_false, tc3]
            refine zq_Step.good _ _ (upd (upd (zq_rowF (upd (gM_row ρ) 1549 (nI (m + 1))) (m + 1) 2 (nI l) 2 (nI d) (nI tc)) (17 * (m + 1) + 5) (nI q)) (17 * (m + 1) + 7) x5) rfl rfl ⟨s, m + 1, g, ?_⟩
            refine zq_Rel_made h n5 (kd := 2) d1 d2 l1 (by omega) 2 (nI tc) (nI q) x5 0 ?_ ?_ ?_ ?_ ?_ ?_ ?_ ?_ ?_ ?_ ?_ (fun o ho => ?_) (fun _ ho => ?_) (fun _ ho => ?_) (fun _ ho => ?_) ?_
                (Or.inr ⟨Or.inl rfl, ?_, tc, tc1, rfl⟩) (fun _ => ⟨?_, ⟨q, q1, rfl⟩, ?_⟩) ?_ (fun j j1 j2 => ?_) ?_ ?_ ?_ ?_ ?_ ?_ (fun _ => ?_) ?_ (fun _ => zq_upd_eq) ?_ (fun i hi => ?_)
            · rw [zq_pq_size_entry, zq_pq_size_guard, zq_pq_size_clearance, zq_aS_size]
            · rw [zq_pq_packed_entry, zq_pq_packed_guard, zq_pq_packed_clearance, zq_aS_packed]
            · rw [zq_pq_categories_entry, zq_pq_categories_guard, zq_pq_categories_clearance, zq_aS_categories]
            · exact zq_uq_entry _ (zq_uq_guard _ (zq_uq_clearance _ (zq_aS_U _ _ _ _ _ _)))
            · rw [zq_pq_made_entry, zq_pq_made_guard, zq_pq_made_clearance, zq_aS_made]
            · rw [zq_pq_there_entry, zq_pq_there_guard, zq_pq_there_clearance, zq_aS_there]
            · rw [zq_pq_kind_entry, zq_pq_kind_guard, zq_pq_kind_clearance, zq_aS_kind]; rfl
            · rw [zq_pq_label_entry, zq_pq_label_guard, zq_pq_label_clearance, zq_aS_label]
            · rw [zq_pq_quota_entry, zq_pq_quota_guard, zq_pq_quota_clearance, zq_aS_quota]
            · rw [zq_pq_place_entry, zq_pq_place_guard, zq_pq_place_clearance, zq_aS_place]
            · rw [zq_pq_depth_entry, zq_pq_depth_guard, zq_pq_depth_clearance, zq_aS_depth]
            · rw [zq_pq_clearance_entry, zq_pq_clearance_guard, zq_pe_clearance, zq_upd_ne ho, zq_aS_clearance, zq_upd_ne ho]
            · rw [zq_pq_guard_entry, zq_pe_guard, zq_upd_ne ho, zq_pq_guard_clearance, zq_aS_guard]
            · rw [zq_pe_entry, zq_upd_ne ho, zq_pq_entry_clearance, zq_aS_entry]
            · rw [zq_pq_cellCount_entry, zq_pq_cellCount_guard, zq_pq_cellCount_clearance, zq_aS_cellCount]
            · rw [zq_pq_cells_entry, zq_pq_cells_guard, zq_pq_cells_clearance, zq_aS_cells]
            · rw [zq_pq_clearance_entry, zq_pq_clearance_guard, zq_pe_clearance, zq_upd_eq]
            · rw [zq_pq_guard_entry, zq_pe_guard, zq_upd_eq]
            · rw [zq_pe_entry, zq_upd_eq]
            · rw [zq_pq_cellCount_entry, zq_pq_cellCount_guard, zq_pq_cellCount_clearance, zq_aS_cellCount]; exact (h.nb (o := m + 1) (by omega) (by omega)).2.1
            · rw [zq_upd_ne (by omega), zq_upd_ne (by omega), zq_rowF_out j2, zq_upd_ne j1]
            · rw [zq_upd_ne (by omega), zq_upd_ne (by omega), zq_rowF_out (by omega), zq_upd_eq]
            · rw [zq_upd_ne (by omega), zq_upd_ne (by omega), zq_rowF_0]
            · rw [zq_upd_ne (by omega), zq_upd_ne (by omega), zq_rowF_1]; rfl
            · rw [zq_upd_ne (by omega), zq_upd_ne (by omega), zq_rowF_2]
            · rw [zq_upd_ne (by omega), zq_upd_ne (by omega), zq_rowF_3]
            · rw [zq_upd_ne (by omega), zq_upd_ne (by omega), zq_rowF_4]
            · rw [zq_upd_ne (by omega), zq_upd_eq]
            · rw [zq_upd_ne (by omega), zq_upd_ne (by omega), zq_rowF_6]
            · rw [zq_upd_ne (by omega), zq_upd_ne (by omega)]; exact zq_rowF_z (by omega) (by omega)
            · rw [zq_upd_ne (by omega), zq_upd_ne (by omega), Nat.add_assoc]; exact zq_rowF_z (by omega) (by omega)
          · simp only [n1, n2, n3 _ _ _ (show ¬ (2 : Int32) = 3 by decide), n4, n5, zq_zx_ok, zq_zx_err, Option.bind_some, if_true]
            exact zq_Step.err 4 zq_k_4 0 rfl rfl
        · simp only [n1, n2, n3, zq_zx_ok, zq_zx_err, Option.bind_some, if_true]
          exact zq_Step.err 3 zq_k_3 0 rfl rfl
      · simp only [n1, n2, zq_zx_err, Option.bind_some, if_true]
        exact zq_Step.err k hk 0 rfl rfl
    · rcases q3 with q3 | ⟨q3, q4⟩
      · simp only [l2, l3, q2, q3, Option.bind_some, zq_zp_10, if_false, if_true]
        exact zq_Step.err 1 zq_k_1 0 rfl rfl
      · simp only [l2, l3, q2, q3, q4, Option.bind_some, zq_zp_10, if_false, if_true]
        exact zq_Step.err 1 zq_k_1 0 rfl rfl
  · simp only [l2, l3, Option.bind_some, if_true]
    exact zq_Step.err 1 zq_k_1 0 rfl rfl
theorem zq_zp_opThread {s m g : Nat} {σ : KS} {ρ : RS} (h : zq_Rel s m g σ.1 (gM_row ρ)) (hc : gM_code ρ = 0) (x1 x2 x3 x4 : Int32) :
    zq_Step σ ρ (f_Ke_thread σ x1 x2 x3 x4) (f_Mo_thread ρ x1 x2 x3 x4) (fun _ τ r => zq_RR τ r) := by
  obtain ⟨a1, a2, a3, a4, a5⟩ := h.b
  have e0 : sM_code ρ 0 = ρ := by rw [← hc]; rfl
  unfold f_Ke_thread f_Mo_thread
  simp only [zl, e0]
  rcases zq_zp_has a2 h.sz h.szM (show 1 ≤ s by omega) x3 with ⟨l, l1, rfl, l2, l3⟩ | ⟨l2, l3⟩
  · rcases zq_zp_isStarless a2 h.sz h.szM (show 1 ≤ s by omega) h.lb x4 with ⟨q, q1, rfl, q2, q3, q4⟩ | ⟨q2, q3⟩
    · simp only [l2, l3, q2, q3, q4, Option.bind_some, zq_zp_10, if_false]
      rcases zq_zp_tc h x1 x2 with ⟨t, d, ⟨t1, t2, rfl⟩, ⟨d1, d2, rfl⟩, k1, k2, n1, p1, p2⟩ | ⟨k, hk, n1, n2⟩
      · obtain ⟨tc, tc1, tc2, tc3⟩ := h.cl t1 t2 (Or.inr k1)
        rcases zq_zp_may h t1 t2 d1 d2 k1 k2 l1 p1 p2 with ⟨n2, -, n3⟩ | ⟨n2, n3⟩
        · simp only [n1, n2, n3, tc2, tc3, zq_zx_ok, Option.bind_some, zq_gt_clear σ (show t ≤ 60 by omega)]
          rcases zq_zp_bU a2 h.lb q1 tc1 with ⟨e1, e2⟩ | ⟨e1, e2⟩
          · rcases zq_zp_bU a2 h.lb l1 q1 with ⟨f1, f2⟩ | ⟨f1, f2⟩
            · rcases zq_zp_room h t1 t2 d1 d2 (nI l) 2 3 (nI q) (nI q) (Or.inl ⟨rfl, rfl⟩) with ⟨n4, n5, n6⟩ | ⟨n4, n5⟩
              · simp only [e1, e2, f1, f2, n4, n6, zq_zx_ok, Option.bind_some, zq_zp_10, if_false, zq_gt_add h n5 d1 d2, zq_gt_setClear _ (show m + 1 ≤ 60 by omega)]
                refine zq_Step.good _ _ _ rfl rfl ⟨s, m + 1, g, ?_⟩
                refine zq_Rel_made h n5 (kd := 3) d1 d2 l1 (by omega) 2 (nI q) 0 0 0 ?_ ?_ ?_ ?_ ?_ ?_ ?_ ?_ ?_ ?_ ?_ (fun o ho => ?_) (fun _ ho => ?_) (fun _ ho => ?_) (fun _ ho => ?_) ?_
                    (Or.inr ⟨Or.inr rfl, ?_, q, q1, rfl⟩) (fun e => absurd e (by omega)) ?_ (fun j j1 j2 => ?_) ?_ zq_rowF_0 zq_rowF_1 zq_rowF_2 zq_rowF_3 zq_rowF_4 (fun e => absurd e (by omega)) zq_rowF_6 (fun e => absurd e (by omega)) (zq_rowF_z (by omega) (by omega)) (fun i hi => ?_)
                · rw [zq_pq_size_clearance, zq_aS_size]
                · rw [zq_pq_packed_clearance, zq_aS_packed]
                · rw [zq_pq_categories_clearance, zq_aS_categories]
                · exact zq_uq_clearance _ (zq_aS_U _ _ _ _ _ _)
                · rw [zq_pq_made_clearance, zq_aS_made]
                · rw [zq_pq_there_clearance, zq_aS_there]
                · rw [zq_pq_kind_clearance, zq_aS_kind]; rfl
                · rw [zq_pq_label_clearance, zq_aS_label]
                · rw [zq_pq_quota_clearance, zq_aS_quota]
                · rw [zq_pq_place_clearance, zq_aS_place]
                · rw [zq_pq_depth_clearance, zq_aS_depth]
                · rw [zq_pe_clearance, zq_upd_ne ho, zq_aS_clearance, zq_upd_ne ho]
                · rw [zq_pq_guard_clearance, zq_aS_guard]
                · rw [zq_pq_entry_clearance, zq_aS_entry]
                · rw [zq_pq_cellCount_clearance, zq_aS_cellCount]
                · rw [zq_pq_cells_clearance, zq_aS_cells]
                · rw [zq_pe_clearance, zq_upd_eq]
                · rw [zq_pq_cellCount_clearance, zq_aS_cellCount]; exact (h.nb (o := m + 1) (by omega) (by omega)).2.1
                · rw [zq_rowF_out j2, zq_upd_ne j1]
                · rw [zq_rowF_out (by omega), zq_upd_eq]
                · rw [Nat.add_assoc]; exact zq_rowF_z (by omega) (by omega)
              · simp only [e1, e2, f1, f2, n4, n5, zq_zx_err, Option.bind_some, zq_zp_10, if_false]
                exact zq_Step.err 4 zq_k_4 0 rfl rfl
            · simp only [e1, e2, f1, f2, Option.bind_some, zq_zp_10, if_false, if_true]
              exact zq_Step.err 3 zq_k_3 0 rfl rfl
          · simp only [e1, e2, Option.bind_some, if_true]
            exact zq_Step.err 3 zq_k_3 0 rfl rfl
        · simp only [n1, n2, n3, zq_zx_ok, zq_zx_err, Option.bind_some]
          exact zq_Step.err 3 zq_k_3 0 rfl rfl
      · simp only [n1, n2, zq_zx_err, Option.bind_some]
        exact zq_Step.err k hk 0 rfl rfl
    · rcases q3 with q3 | ⟨q3, q4⟩
      · simp only [l2, l3, q2, q3, Option.bind_some, zq_zp_10, if_false, if_true]
        exact zq_Step.err 1 zq_k_1 0 rfl rfl
      · simp only [l2, l3, q2, q3, q4, Option.bind_some, zq_zp_10, if_false, if_true]
        exact zq_Step.err 1 zq_k_1 0 rfl rfl
  · simp only [l2, l3, Option.bind_some, if_true]
    exact zq_Step.err 1 zq_k_1 0 rfl rfl
