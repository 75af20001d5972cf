theorem zq_pq_packed_firstCategory (σ : SS) (x : Nat → Int32) : p_packed (q_firstCategory σ x) = p_packed σ := rfl
theorem zq_pq_size_firstCategory (σ : SS) (x : Nat → Int32) : p_size (q_firstCategory σ x) = p_size σ := rfl
theorem zq_pq_there_firstCategory (σ : SS) (x : Nat → Int32) : p_there (q_firstCategory σ x) = p_there σ := rfl
theorem zq_pq_kind_firstCategory (σ : SS) (x : Nat → Int32) : p_kind (q_firstCategory σ x) = p_kind σ := rfl
theorem zq_pq_label_firstCategory (σ : SS) (x : Nat → Int32) : p_label (q_firstCategory σ x) = p_label σ := rfl
theorem zq_pq_quota_firstCategory (σ : SS) (x : Nat → Int32) : p_quota (q_firstCategory σ x) = p_quota σ := rfl
theorem zq_pq_place_firstCategory (σ : SS) (x : Nat → Int32) : p_place (q_firstCategory σ x) = p_place σ := rfl
theorem zq_pq_depth_firstCategory (σ : SS) (x : Nat → Int32) : p_depth (q_firstCategory σ x) = p_depth σ := rfl
theorem zq_pq_clearance_firstCategory (σ : SS) (x : Nat → Int32) : p_clearance (q_firstCategory σ x) = p_clearance σ := rfl
theorem zq_pq_guard_firstCategory (σ : SS) (x : Nat → Int32) : p_guard (q_firstCategory σ x) = p_guard σ := rfl
theorem zq_pq_entry_firstCategory (σ : SS) (x : Nat → Int32) : p_entry (q_firstCategory σ x) = p_entry σ := rfl
theorem zq_pq_cellCount_firstCategory (σ : SS) (x : Nat → Int32) : p_cellCount (q_firstCategory σ x) = p_cellCount σ := rfl
theorem zq_pq_cells_firstCategory (σ : SS) (x : Nat → Int32) : p_cells (q_firstCategory σ x) = p_cells σ := rfl
theorem zq_pq_made_firstCategory (σ : SS) (x : Nat → Int32) : p_made (q_firstCategory σ x) = p_made σ := rfl
theorem zq_pq_uthere_firstCategory (σ : SS) (x : Nat → Int32) : p_uthere (q_firstCategory σ x) = p_uthere σ := rfl
theorem zq_pq_password_firstCategory (σ : SS) (x : Nat → Int32) : p_password (q_firstCategory σ x) = p_password σ := rfl
theorem zq_pe_firstCategory (σ : SS) (x : Nat → Int32) : p_firstCategory (q_firstCategory σ x) = x := rfl
theorem zq_pq_secondCategory_firstCategory (σ : SS) (x : Nat → Int32) : p_secondCategory (q_firstCategory σ x) = p_secondCategory σ := rfl
theorem zq_pq_home_firstCategory (σ : SS) (x : Nat → Int32) : p_home (q_firstCategory σ x) = p_home σ := rfl
theorem zq_pq_directory_firstCategory (σ : SS) (x : Nat → Int32) : p_directory (q_firstCategory σ x) = p_directory σ := rfl
theorem zq_pq_gate_firstCategory (σ : SS) (x : Nat → Int32) : p_gate (q_firstCategory σ x) = p_gate σ := rfl
theorem zq_pq_categories_firstCategory (σ : SS) (x : Nat → Int32) : p_categories (q_firstCategory σ x) = p_categories σ := rfl
theorem zq_pq_packed_secondCategory (σ : SS) (x : Nat → Int32) : p_packed (q_secondCategory σ x) = p_packed σ := rfl
theorem zq_pq_size_secondCategory (σ : SS) (x : Nat → Int32) : p_size (q_secondCategory σ x) = p_size σ := rfl
theorem zq_pq_there_secondCategory (σ : SS) (x : Nat → Int32) : p_there (q_secondCategory σ x) = p_there σ := rfl
theorem zq_pq_kind_secondCategory (σ : SS) (x : Nat → Int32) : p_kind (q_secondCategory σ x) = p_kind σ := rfl
theorem zq_pq_label_secondCategory (σ : SS) (x : Nat → Int32) : p_label (q_secondCategory σ x) = p_label σ := rfl
theorem zq_pq_quota_secondCategory (σ : SS) (x : Nat → Int32) : p_quota (q_secondCategory σ x) = p_quota σ := rfl
theorem zq_pq_place_secondCategory (σ : SS) (x : Nat → Int32) : p_place (q_secondCategory σ x) = p_place σ := rfl
theorem zq_pq_depth_secondCategory (σ : SS) (x : Nat → Int32) : p_depth (q_secondCategory σ x) = p_depth σ := rfl
theorem zq_pq_clearance_secondCategory (σ : SS) (x : Nat → Int32) : p_clearance (q_secondCategory σ x) = p_clearance σ := rfl
theorem zq_pq_guard_secondCategory (σ : SS) (x : Nat → Int32) : p_guard (q_secondCategory σ x) = p_guard σ := rfl
theorem zq_pq_entry_secondCategory (σ : SS) (x : Nat → Int32) : p_entry (q_secondCategory σ x) = p_entry σ := rfl
theorem zq_pq_cellCount_secondCategory (σ : SS) (x : Nat → Int32) : p_cellCount (q_secondCategory σ x) = p_cellCount σ := rfl
theorem zq_pq_cells_secondCategory (σ : SS) (x : Nat → Int32) : p_cells (q_secondCategory σ x) = p_cells σ := rfl
theorem zq_pq_made_secondCategory (σ : SS) (x : Nat → Int32) : p_made (q_secondCategory σ x) = p_made σ := rfl
theorem zq_pq_uthere_secondCategory (σ : SS) (x : Nat → Int32) : p_uthere (q_secondCategory σ x) = p_uthere σ := rfl
theorem zq_pq_password_secondCategory (σ : SS) (x : Nat → Int32) : p_password (q_secondCategory σ x) = p_password σ := rfl
theorem zq_pq_firstCategory_secondCategory (σ : SS) (x : Nat → Int32) : p_firstCategory (q_secondCategory σ x) = p_firstCategory σ := rfl
theorem zq_pe_secondCategory (σ : SS) (x : Nat → Int32) : p_secondCategory (q_secondCategory σ x) = x := rfl
theorem zq_pq_home_secondCategory (σ : SS) (x : Nat → Int32) : p_home (q_secondCategory σ x) = p_home σ := rfl
theorem zq_pq_directory_secondCategory (σ : SS) (x : Nat → Int32) : p_directory (q_secondCategory σ x) = p_directory σ := rfl
theorem zq_pq_gate_secondCategory (σ : SS) (x : Nat → Int32) : p_gate (q_secondCategory σ x) = p_gate σ := rfl
theorem zq_pq_categories_secondCategory (σ : SS) (x : Nat → Int32) : p_categories (q_secondCategory σ x) = p_categories σ := rfl
theorem zq_pq_packed_home (σ : SS) (x : Nat → Int32) : p_packed (q_home σ x) = p_packed σ := rfl
theorem zq_pq_size_home (σ : SS) (x : Nat → Int32) : p_size (q_home σ x) = p_size σ := rfl
theorem zq_pq_there_home (σ : SS) (x : Nat → Int32) : p_there (q_home σ x) = p_there σ := rfl
theorem zq_pq_kind_home (σ : SS) (x : Nat → Int32) : p_kind (q_home σ x) = p_kind σ := rfl
theorem zq_pq_label_home (σ : SS) (x : Nat → Int32) : p_label (q_home σ x) = p_label σ := rfl
theorem zq_pq_quota_home (σ : SS) (x : Nat → Int32) : p_quota (q_home σ x) = p_quota σ := rfl
theorem zq_pq_place_home (σ : SS) (x : Nat → Int32) : p_place (q_home σ x) = p_place σ := rfl
theorem zq_pq_depth_home (σ : SS) (x : Nat → Int32) : p_depth (q_home σ x) = p_depth σ := rfl
theorem zq_pq_clearance_home (σ : SS) (x : Nat → Int32) : p_clearance (q_home σ x) = p_clearance σ := rfl
theorem zq_pq_guard_home (σ : SS) (x : Nat → Int32) : p_guard (q_home σ x) = p_guard σ := rfl
theorem zq_pq_entry_home (σ : SS) (x : Nat → Int32) : p_entry (q_home σ x) = p_entry σ := rfl
theorem zq_pq_cellCount_home (σ : SS) (x : Nat → Int32) : p_cellCount (q_home σ x) = p_cellCount σ := rfl
theorem zq_pq_cells_home (σ : SS) (x : Nat → Int32) : p_cells (q_home σ x) = p_cells σ := rfl
theorem zq_pq_made_home (σ : SS) (x : Nat → Int32) : p_made (q_home σ x) = p_made σ := rfl
theorem zq_pq_uthere_home (σ : SS) (x : Nat → Int32) : p_uthere (q_home σ x) = p_uthere σ := rfl
theorem zq_pq_password_home (σ : SS) (x : Nat → Int32) : p_password (q_home σ x) = p_password σ := rfl
theorem zq_pq_firstCategory_home (σ : SS) (x : Nat → Int32) : p_firstCategory (q_home σ x) = p_firstCategory σ := rfl
theorem zq_pq_secondCategory_home (σ : SS) (x : Nat → Int32) : p_secondCategory (q_home σ x) = p_secondCategory σ := rfl
theorem zq_pe_home (σ : SS) (x : Nat → Int32) : p_home (q_home σ x) = x := rfl
theorem zq_pq_directory_home (σ : SS) (x : Nat → Int32) : p_directory (q_home σ x) = p_directory σ := rfl
theorem zq_pq_gate_home (σ : SS) (x : Nat → Int32) : p_gate (q_home σ x) = p_gate σ := rfl
theorem zq_pq_categories_home (σ : SS) (x : Nat → Int32) : p_categories (q_home σ x) = p_categories σ := rfl
theorem zq_pq_packed_directory (σ : SS) (x : Nat → Int32) : p_packed (q_directory σ x) = p_packed σ := rfl
theorem zq_pq_size_directory (σ : SS) (x : Nat → Int32) : p_size (q_directory σ x) = p_size σ := rfl
theorem zq_pq_there_directory (σ : SS) (x : Nat → Int32) : p_there (q_directory σ x) = p_there σ := rfl
theorem zq_pq_kind_directory (σ : SS) (x : Nat → Int32) : p_kind (q_directory σ x) = p_kind σ := rfl
theorem zq_pq_label_directory (σ : SS) (x : Nat → Int32) : p_label (q_directory σ x) = p_label σ := rfl
theorem zq_pq_quota_directory (σ : SS) (x : Nat → Int32) : p_quota (q_directory σ x) = p_quota σ := rfl
theorem zq_pq_place_directory (σ : SS) (x : Nat → Int32) : p_place (q_directory σ x) = p_place σ := rfl
theorem zq_pq_depth_directory (σ : SS) (x : Nat → Int32) : p_depth (q_directory σ x) = p_depth σ := rfl
theorem zq_pq_clearance_directory (σ : SS) (x : Nat → Int32) : p_clearance (q_directory σ x) = p_clearance σ := rfl
theorem zq_pq_guard_directory (σ : SS) (x : Nat → Int32) : p_guard (q_directory σ x) = p_guard σ := rfl
theorem zq_pq_entry_directory (σ : SS) (x : Nat → Int32) : p_entry (q_directory σ x) = p_entry σ := rfl
theorem zq_pq_cellCount_directory (σ : SS) (x : Nat → Int32) : p_cellCount (q_directory σ x) = p_cellCount σ := rfl
theorem zq_pq_cells_directory (σ : SS) (x : Nat → Int32) : p_cells (q_directory σ x) = p_cells σ := rfl
theorem zq_pq_made_directory (σ : SS) (x : Nat → Int32) : p_made (q_directory σ x) = p_made σ := rfl
theorem zq_pq_uthere_directory (σ : SS) (x : Nat → Int32) : p_uthere (q_directory σ x) = p_uthere σ := rfl
theorem zq_pq_password_directory (σ : SS) (x : Nat → Int32) : p_password (q_directory σ x) = p_password σ := rfl
theorem zq_pq_firstCategory_directory (σ : SS) (x : Nat → Int32) : p_firstCategory (q_directory σ x) = p_firstCategory σ := rfl
theorem zq_pq_secondCategory_directory (σ : SS) (x : Nat → Int32) : p_secondCategory (q_directory σ x) = p_secondCategory σ := rfl
theorem zq_pq_home_directory (σ : SS) (x : Nat → Int32) : p_home (q_directory σ x) = p_home σ := rfl
theorem zq_pe_directory (σ : SS) (x : Nat → Int32) : p_directory (q_directory σ x) = x := rfl
theorem zq_pq_gate_directory (σ : SS) (x : Nat → Int32) : p_gate (q_directory σ x) = p_gate σ := rfl
theorem zq_pq_categories_directory (σ : SS) (x : Nat → Int32) : p_categories (q_directory σ x) = p_categories σ := rfl
theorem zq_pq_packed_gate (σ : SS) (x : Nat → Int32) : p_packed (q_gate σ x) = p_packed σ := rfl
theorem zq_pq_size_gate (σ : SS) (x : Nat → Int32) : p_size (q_gate σ x) = p_size σ := rfl
theorem zq_pq_there_gate (σ : SS) (x : Nat → Int32) : p_there (q_gate σ x) = p_there σ := rfl
theorem zq_pq_kind_gate (σ : SS) (x : Nat → Int32) : p_kind (q_gate σ x) = p_kind σ := rfl
theorem zq_pq_label_gate (σ : SS) (x : Nat → Int32) : p_label (q_gate σ x) = p_label σ := rfl
theorem zq_pq_quota_gate (σ : SS) (x : Nat → Int32) : p_quota (q_gate σ x) = p_quota σ := rfl
theorem zq_pq_place_gate (σ : SS) (x : Nat → Int32) : p_place (q_gate σ x) = p_place σ := rfl
theorem zq_pq_depth_gate (σ : SS) (x : Nat → Int32) : p_depth (q_gate σ x) = p_depth σ := rfl
theorem zq_pq_clearance_gate (σ : SS) (x : Nat → Int32) : p_clearance (q_gate σ x) = p_clearance σ := rfl
theorem zq_pq_guard_gate (σ : SS) (x : Nat → Int32) : p_guard (q_gate σ x) = p_guard σ := rfl
theorem zq_pq_entry_gate (σ : SS) (x : Nat → Int32) : p_entry (q_gate σ x) = p_entry σ := rfl
theorem zq_pq_cellCount_gate (σ : SS) (x : Nat → Int32) : p_cellCount (q_gate σ x) = p_cellCount σ := rfl
theorem zq_pq_cells_gate (σ : SS) (x : Nat → Int32) : p_cells (q_gate σ x) = p_cells σ := rfl
theorem zq_pq_made_gate (σ : SS) (x : Nat → Int32) : p_made (q_gate σ x) = p_made σ := rfl
theorem zq_pq_uthere_gate (σ : SS) (x : Nat → Int32) : p_uthere (q_gate σ x) = p_uthere σ := rfl
theorem zq_pq_password_gate (σ : SS) (x : Nat → Int32) : p_password (q_gate σ x) = p_password σ := rfl
theorem zq_pq_firstCategory_gate (σ : SS) (x : Nat → Int32) : p_firstCategory (q_gate σ x) = p_firstCategory σ := rfl
theorem zq_pq_secondCategory_gate (σ : SS) (x : Nat → Int32) : p_secondCategory (q_gate σ x) = p_secondCategory σ := rfl
theorem zq_pq_home_gate (σ : SS) (x : Nat → Int32) : p_home (q_gate σ x) = p_home σ := rfl
theorem zq_pq_directory_gate (σ : SS) (x : Nat → Int32) : p_directory (q_gate σ x) = p_directory σ := rfl
theorem zq_pe_gate (σ : SS) (x : Nat → Int32) : p_gate (q_gate σ x) = x := rfl
theorem zq_pq_categories_gate (σ : SS) (x : Nat → Int32) : p_categories (q_gate σ x) = p_categories σ := rfl
theorem zq_pq_packed_uthere (σ : SS) (x : Nat → Int32) : p_packed (q_uthere σ x) = p_packed σ := rfl
theorem zq_pq_size_uthere (σ : SS) (x : Nat → Int32) : p_size (q_uthere σ x) = p_size σ := rfl
theorem zq_pq_there_uthere (σ : SS) (x : Nat → Int32) : p_there (q_uthere σ x) = p_there σ := rfl
theorem zq_pq_kind_uthere (σ : SS) (x : Nat → Int32) : p_kind (q_uthere σ x) = p_kind σ := rfl
theorem zq_pq_label_uthere (σ : SS) (x : Nat → Int32) : p_label (q_uthere σ x) = p_label σ := rfl
theorem zq_pq_quota_uthere (σ : SS) (x : Nat → Int32) : p_quota (q_uthere σ x) = p_quota σ := rfl
theorem zq_pq_place_uthere (σ : SS) (x : Nat → Int32) : p_place (q_uthere σ x) = p_place σ := rfl
theorem zq_pq_depth_uthere (σ : SS) (x : Nat → Int32) : p_depth (q_uthere σ x) = p_depth σ := rfl
theorem zq_pq_clearance_uthere (σ : SS) (x : Nat → Int32) : p_clearance (q_uthere σ x) = p_clearance σ := rfl
theorem zq_pq_guard_uthere (σ : SS) (x : Nat → Int32) : p_guard (q_uthere σ x) = p_guard σ := rfl
theorem zq_pq_entry_uthere (σ : SS) (x : Nat → Int32) : p_entry (q_uthere σ x) = p_entry σ := rfl
theorem zq_pq_cellCount_uthere (σ : SS) (x : Nat → Int32) : p_cellCount (q_uthere σ x) = p_cellCount σ := rfl
theorem zq_pq_cells_uthere (σ : SS) (x : Nat → Int32) : p_cells (q_uthere σ x) = p_cells σ := rfl
theorem zq_pq_made_uthere (σ : SS) (x : Nat → Int32) : p_made (q_uthere σ x) = p_made σ := rfl
theorem zq_pe_uthere (σ : SS) (x : Nat → Int32) : p_uthere (q_uthere σ x) = x := rfl
theorem zq_pq_password_uthere (σ : SS) (x : Nat → Int32) : p_password (q_uthere σ x) = p_password σ := rfl
theorem zq_pq_firstCategory_uthere (σ : SS) (x : Nat → Int32) : p_firstCategory (q_uthere σ x) = p_firstCategory σ := rfl
theorem zq_pq_secondCategory_uthere (σ : SS) (x : Nat → Int32) : p_secondCategory (q_uthere σ x) = p_secondCategory σ := rfl
theorem zq_pq_home_uthere (σ : SS) (x : Nat → Int32) : p_home (q_uthere σ x) = p_home σ := rfl
theorem zq_pq_directory_uthere (σ : SS) (x : Nat → Int32) : p_directory (q_uthere σ x) = p_directory σ := rfl
theorem zq_pq_gate_uthere (σ : SS) (x : Nat → Int32) : p_gate (q_uthere σ x) = p_gate σ := rfl
theorem zq_pq_categories_uthere (σ : SS) (x : Nat → Int32) : p_categories (q_uthere σ x) = p_categories σ := rfl
theorem zq_pq_packed_password (σ : SS) (x : Nat → Int32) : p_packed (q_password σ x) = p_packed σ := rfl
theorem zq_pq_size_password (σ : SS) (x : Nat → Int32) : p_size (q_password σ x) = p_size σ := rfl
theorem zq_pq_there_password (σ : SS) (x : Nat → Int32) : p_there (q_password σ x) = p_there σ := rfl
theorem zq_pq_kind_password (σ : SS) (x : Nat → Int32) : p_kind (q_password σ x) = p_kind σ := rfl
theorem zq_pq_label_password (σ : SS) (x : Nat → Int32) : p_label (q_password σ x) = p_label σ := rfl
theorem zq_pq_quota_password (σ : SS) (x : Nat → Int32) : p_quota (q_password σ x) = p_quota σ := rfl
theorem zq_pq_place_password (σ : SS) (x : Nat → Int32) : p_place (q_password σ x) = p_place σ := rfl
theorem zq_pq_depth_password (σ : SS) (x : Nat → Int32) : p_depth (q_password σ x) = p_depth σ := rfl
theorem zq_pq_clearance_password (σ : SS) (x : Nat → Int32) : p_clearance (q_password σ x) = p_clearance σ := rfl
theorem zq_pq_guard_password (σ : SS) (x : Nat → Int32) : p_guard (q_password σ x) = p_guard σ := rfl
theorem zq_pq_entry_password (σ : SS) (x : Nat → Int32) : p_entry (q_password σ x) = p_entry σ := rfl
theorem zq_pq_cellCount_password (σ : SS) (x : Nat → Int32) : p_cellCount (q_password σ x) = p_cellCount σ := rfl
theorem zq_pq_cells_password (σ : SS) (x : Nat → Int32) : p_cells (q_password σ x) = p_cells σ := rfl
theorem zq_pq_made_password (σ : SS) (x : Nat → Int32) : p_made (q_password σ x) = p_made σ := rfl
theorem zq_pq_uthere_password (σ : SS) (x : Nat → Int32) : p_uthere (q_password σ x) = p_uthere σ := rfl
theorem zq_pe_password (σ : SS) (x : Nat → Int32) : p_password (q_password σ x) = x := rfl
theorem zq_pq_firstCategory_password (σ : SS) (x : Nat → Int32) : p_firstCategory (q_password σ x) = p_firstCategory σ := rfl
theorem zq_pq_secondCategory_password (σ : SS) (x : Nat → Int32) : p_secondCategory (q_password σ x) = p_secondCategory σ := rfl
theorem zq_pq_home_password (σ : SS) (x : Nat → Int32) : p_home (q_password σ x) = p_home σ := rfl
theorem zq_pq_directory_password (σ : SS) (x : Nat → Int32) : p_directory (q_password σ x) = p_directory σ := rfl
theorem zq_pq_gate_password (σ : SS) (x : Nat → Int32) : p_gate (q_password σ x) = p_gate σ := rfl
theorem zq_pq_categories_password (σ : SS) (x : Nat → Int32) : p_categories (q_password σ x) = p_categories σ := rfl
def zq_usrS (σ : SS) (u : Nat) (pw a b hm dr gt : Int32) : SS :=
  q_password (q_uthere (q_gate (q_directory (q_home (q_secondCategory (q_firstCategory σ (upd (p_firstCategory σ) u a)) (upd (p_secondCategory σ) u b)) (upd (p_home σ) u hm)) (upd (p_directory σ) u dr)) (upd (p_gate σ) u gt)) (upd (p_uthere σ) u 1)) (upd (p_password σ) u pw)
theorem zq_uS_packed (σ : SS) (u : Nat) (pw a b hm dr gt : Int32) : p_packed (zq_usrS σ u pw a b hm dr gt) = p_packed σ := by
  unfold zq_usrS; rw [zq_pq_packed_password, zq_pq_packed_uthere, zq_pq_packed_gate, zq_pq_packed_directory, zq_pq_packed_home, zq_pq_packed_secondCategory, zq_pq_packed_firstCategory]
theorem zq_uS_size (σ : SS) (u : Nat) (pw a b hm dr gt : Int32) : p_size (zq_usrS σ u pw a b hm dr gt) = p_size σ := by
  unfold zq_usrS; rw [zq_pq_size_password, zq_pq_size_uthere, zq_pq_size_gate, zq_pq_size_directory, zq_pq_size_home, zq_pq_size_secondCategory, zq_pq_size_firstCategory]
theorem zq_uS_there (σ : SS) (u : Nat) (pw a b hm dr gt : Int32) : p_there (zq_usrS σ u pw a b hm dr gt) = p_there σ := by
  unfold zq_usrS; rw [zq_pq_there_password, zq_pq_there_uthere, zq_pq_there_gate, zq_pq_there_directory, zq_pq_there_home, zq_pq_there_secondCategory, zq_pq_there_firstCategory]
theorem zq_uS_kind (σ : SS) (u : Nat) (pw a b hm dr gt : Int32) : p_kind (zq_usrS σ u pw a b hm dr gt) = p_kind σ := by
  unfold zq_usrS; rw [zq_pq_kind_password, zq_pq_kind_uthere, zq_pq_kind_gate, zq_pq_kind_directory, zq_pq_kind_home, zq_pq_kind_secondCategory, zq_pq_kind_firstCategory]
theorem zq_uS_label (σ : SS) (u : Nat) (pw a b hm dr gt : Int32) : p_label (zq_usrS σ u pw a b hm dr gt) = p_label σ := by
  unfold zq_usrS; rw [zq_pq_label_password, zq_pq_label_uthere, zq_pq_label_gate, zq_pq_label_directory, zq_pq_label_home, zq_pq_label_secondCategory, zq_pq_label_firstCategory]
theorem zq_uS_quota (σ : SS) (u : Nat) (pw a b hm dr gt : Int32) : p_quota (zq_usrS σ u pw a b hm dr gt) = p_quota σ := by
  unfold zq_usrS; rw [zq_pq_quota_password, zq_pq_quota_uthere, zq_pq_quota_gate, zq_pq_quota_directory, zq_pq_quota_home, zq_pq_quota_secondCategory, zq_pq_quota_firstCategory]
theorem zq_uS_place (σ : SS) (u : Nat) (pw a b hm dr gt : Int32) : p_place (zq_usrS σ u pw a b hm dr gt) = p_place σ := by
  unfold zq_usrS; rw [zq_pq_place_password, zq_pq_place_uthere, zq_pq_place_gate, zq_pq_place_directory, zq_pq_place_home, zq_pq_place_secondCategory, zq_pq_place_firstCategory]
theorem zq_uS_depth (σ : SS) (u : Nat) (pw a b hm dr gt : Int32) : p_depth (zq_usrS σ u pw a b hm dr gt) = p_depth σ := by
  unfold zq_usrS; rw [zq_pq_depth_password, zq_pq_depth_uthere, zq_pq_depth_gate, zq_pq_depth_directory, zq_pq_depth_home, zq_pq_depth_secondCategory, zq_pq_depth_firstCategory]
theorem zq_uS_clearance (σ : SS) (u : Nat) (pw a b hm dr gt : Int32) : p_clearance (zq_usrS σ u pw a b hm dr gt) = p_clearance σ := by
  unfold zq_usrS; rw [zq_pq_clearance_password, zq_pq_clearance_uthere, zq_pq_clearance_gate, zq_pq_clearance_directory, zq_pq_clearance_home, zq_pq_clearance_secondCategory, zq_pq_clearance_firstCategory]
theorem zq_uS_guard (σ : SS) (u : Nat) (pw a b hm dr gt : Int32) : p_guard (zq_usrS σ u pw a b hm dr gt) = p_guard σ := by
  unfold zq_usrS; rw [zq_pq_guard_password, zq_pq_guard_uthere, zq_pq_guard_gate, zq_pq_guard_directory, zq_pq_guard_home, zq_pq_guard_secondCategory, zq_pq_guard_firstCategory]
theorem zq_uS_entry (σ : SS) (u : Nat) (pw a b hm dr gt : Int32) : p_entry (zq_usrS σ u pw a b hm dr gt) = p_entry σ := by
  unfold zq_usrS; rw [zq_pq_entry_password, zq_pq_entry_uthere, zq_pq_entry_gate, zq_pq_entry_directory, zq_pq_entry_home, zq_pq_entry_secondCategory, zq_pq_entry_firstCategory]
theorem zq_uS_cellCount (σ : SS) (u : Nat) (pw a b hm dr gt : Int32) : p_cellCount (zq_usrS σ u pw a b hm dr gt) = p_cellCount σ := by
  unfold zq_usrS; rw [zq_pq_cellCount_password, zq_pq_cellCount_uthere, zq_pq_cellCount_gate, zq_pq_cellCount_directory, zq_pq_cellCount_home, zq_pq_cellCount_secondCategory, zq_pq_cellCount_firstCategory]
theorem zq_uS_cells (σ : SS) (u : Nat) (pw a b hm dr gt : Int32) : p_cells (zq_usrS σ u pw a b hm dr gt) = p_cells σ := by
  unfold zq_usrS; rw [zq_pq_cells_password, zq_pq_cells_uthere, zq_pq_cells_gate, zq_pq_cells_directory, zq_pq_cells_home, zq_pq_cells_secondCategory, zq_pq_cells_firstCategory]
theorem zq_uS_made (σ : SS) (u : Nat) (pw a b hm dr gt : Int32) : p_made (zq_usrS σ u pw a b hm dr gt) = p_made σ := by
  unfold zq_usrS; rw [zq_pq_made_password, zq_pq_made_uthere, zq_pq_made_gate, zq_pq_made_directory, zq_pq_made_home, zq_pq_made_secondCategory, zq_pq_made_firstCategory]
theorem zq_uS_uthere (σ : SS) (u : Nat) (pw a b hm dr gt : Int32) : p_uthere (zq_usrS σ u pw a b hm dr gt) = upd (p_uthere σ) u 1 := by
  unfold zq_usrS; rw [zq_pq_uthere_password, zq_pe_uthere]
theorem zq_uS_password (σ : SS) (u : Nat) (pw a b hm dr gt : Int32) : p_password (zq_usrS σ u pw a b hm dr gt) = upd (p_password σ) u pw := by
  unfold zq_usrS; rw [zq_pe_password]
theorem zq_uS_firstCategory (σ : SS) (u : Nat) (pw a b hm dr gt : Int32) : p_firstCategory (zq_usrS σ u pw a b hm dr gt) = upd (p_firstCategory σ) u a := by
  unfold zq_usrS; rw [zq_pq_firstCategory_password, zq_pq_firstCategory_uthere, zq_pq_firstCategory_gate, zq_pq_firstCategory_directory, zq_pq_firstCategory_home, zq_pq_firstCategory_secondCategory, zq_pe_firstCategory]
theorem zq_uS_secondCategory (σ : SS) (u : Nat) (pw a b hm dr gt : Int32) : p_secondCategory (zq_usrS σ u pw a b hm dr gt) = upd (p_secondCategory σ) u b := by
  unfold zq_usrS; rw [zq_pq_secondCategory_password, zq_pq_secondCategory_uthere, zq_pq_secondCategory_gate, zq_pq_secondCategory_directory, zq_pq_secondCategory_home, zq_pe_secondCategory]
theorem zq_uS_home (σ : SS) (u : Nat) (pw a b hm dr gt : Int32) : p_home (zq_usrS σ u pw a b hm dr gt) = upd (p_home σ) u hm := by
  unfold zq_usrS; rw [zq_pq_home_password, zq_pq_home_uthere, zq_pq_home_gate, zq_pq_home_directory, zq_pe_home]
theorem zq_uS_directory (σ : SS) (u : Nat) (pw a b hm dr gt : Int32) : p_directory (zq_usrS σ u pw a b hm dr gt) = upd (p_directory σ) u dr := by
  unfold zq_usrS; rw [zq_pq_directory_password, zq_pq_directory_uthere, zq_pq_directory_gate, zq_pe_directory]
theorem zq_uS_gate (σ : SS) (u : Nat) (pw a b hm dr gt : Int32) : p_gate (zq_usrS σ u pw a b hm dr gt) = upd (p_gate σ) u gt := by
  unfold zq_usrS; rw [zq_pq_gate_password, zq_pq_gate_uthere, zq_pe_gate]
theorem zq_uS_categories (σ : SS) (u : Nat) (pw a b hm dr gt : Int32) : p_categories (zq_usrS σ u pw a b hm dr gt) = p_categories σ := by
  unfold zq_usrS; rw [zq_pq_categories_password, zq_pq_categories_uthere, zq_pq_categories_gate, zq_pq_categories_directory, zq_pq_categories_home, zq_pq_categories_secondCategory, zq_pq_categories_firstCategory]
theorem zq_gt_setUser (σ : KS) {u : Nat} (hu : u < 4) (pw a b hm dr gt : Int32) :
    ((f_Us_setCategories σ (nI u) a b).bind fun v23 => (f_Us_setObjects v23 (nI u) hm dr gt).bind fun v24 => (f_Us_add v24 (nI u) pw).bind fun v25 => some ((.ok hm, v25) : Except Nat Int32 × KS)) = some (.ok hm, (zq_usrS σ.1 u pw a b hm dr gt, σ.2)) := by
  unfold f_Us_setCategories f_Us_setObjects f_Us_add
  simp only [zq_zp_cl u (show u < 2147483648 by omega), zq_zp_gF (show u < 4 by omega) (show 4 < 2147483648 by omega), if_false, zl, Option.bind_some, zq_zp_nar1, zq_usrS, sN_firstCategory, sN_secondCategory, sN_home, sN_directory, sN_gate, sN_uthere, sN_password, gN_firstCategory, gN_secondCategory, gN_home, gN_directory, gN_gate, gN_uthere, gN_password, zq_pq_secondCategory_firstCategory, zq_pq_home_firstCategory, zq_pq_home_secondCategory, zq_pq_directory_firstCategory, zq_pq_directory_secondCategory, zq_pq_directory_home, zq_pq_gate_firstCategory, zq_pq_gate_secondCategory, zq_pq_gate_home, zq_pq_gate_directory, zq_pq_uthere_firstCategory, zq_pq_uthere_secondCategory, zq_pq_uthere_home, zq_pq_uthere_directory, zq_pq_uthere_gate, zq_pq_password_firstCategory, zq_pq_password_secondCategory, zq_pq_password_home, zq_pq_password_directory, zq_pq_password_gate, zq_pq_password_uthere]
theorem zq_Rel_user {s m g : Nat} {σ : SS} {row row' : Nat → Int32} (h : zq_Rel s m g σ row) {u a b : Nat} (hu : u < 4) (ha : a < 8) (hb : b < 8) (pw hm dr gt : Int32)
    (hr : ∀ j, (j < 1517 + 8 * u ∨ 1517 + 8 * u + 7 ≤ j) → row' j = row j)
    (r0 : row' (1517 + 8 * u) = 1) (r1 : row' (1517 + 8 * u + 1) = pw) (r2 : row' (1517 + 8 * u + 2) = nI a) (r3 : row' (1517 + 8 * u + 3) = nI b) (r4 : row' (1517 + 8 * u + 4) = hm) (r5 : row' (1517 + 8 * u + 5) = dr) (r6 : row' (1517 + 8 * u + 6) = gt) :
    zq_Rel s m g (zq_usrS σ u pw (nI a) (nI b) hm dr gt) row' := by
  obtain ⟨⟨a1, a2, a3, a4, a5⟩, ⟨b1, b2⟩, ⟨c1, c2⟩, ⟨d1, d2⟩, hL, hO, hN, hU⟩ := h
  unfold zq_Rel
  rw [zq_uS_size, zq_uS_made, zq_uS_categories, zq_uS_packed]
  refine ⟨⟨a1, a2, a3, a4, a5⟩, ⟨b1, ?_⟩, ⟨c1, ?_⟩, ⟨d1, ?_⟩, ?_, ?_, ?_, ?_⟩
  · rw [hr _ (by omega)]; exact b2
  · rw [hr _ (by omega)]; exact c2
  · rw [hr _ (by omega)]; exact d2
  · exact zq_RLb_of (fun j h1 h2 => hr j (by omega)) hL
  · intro o h1 h2
    refine zq_ROb_of (Nat.le_refl s) (fun j hj => hr _ (by omega)) ?_ (hO o h1 h2)
    unfold zq_TEq
    rw [zq_uS_there, zq_uS_kind, zq_uS_label, zq_uS_quota, zq_uS_place, zq_uS_depth, zq_uS_clearance, zq_uS_guard, zq_uS_entry, zq_uS_cellCount, zq_uS_cells]
    exact ⟨rfl, rfl, rfl, rfl, rfl, fun _ _ => rfl, rfl, rfl, rfl, rfl, fun _ _ => rfl⟩
  · intro o h1 h2
    unfold zq_RNb
    rw [zq_uS_there, zq_uS_cellCount, zq_uS_cells]
    exact hN o h1 h2
  · intro v hv
    unfold zq_RUs
    rw [zq_uS_uthere, zq_uS_password, zq_uS_firstCategory, zq_uS_secondCategory, zq_uS_home, zq_uS_directory, zq_uS_gate]
    by_cases e : v = u
    · subst e
      rw [r0, r1, r2, r3, r4, r5, r6, zq_upd_eq, zq_upd_eq, zq_upd_eq, zq_upd_eq, zq_upd_eq, zq_upd_eq, zq_upd_eq]
      exact ⟨⟨rfl, Or.inr rfl⟩, rfl, rfl, rfl, rfl, rfl, rfl, ⟨a, ha, rfl⟩, ⟨b, hb, rfl⟩⟩
    · rw [zq_upd_ne e, zq_upd_ne e, zq_upd_ne e, zq_upd_ne e, zq_upd_ne e, zq_upd_ne e, zq_upd_ne e, hr (1517 + 8 * v) (by omega), hr (1517 + 8 * v + 1) (by omega), hr (1517 + 8 * v + 2) (by omega), hr (1517 + 8 * v + 3) (by omega), hr (1517 + 8 * v + 4) (by omega), hr (1517 + 8 * v + 5) (by omega), hr (1517 + 8 * v + 6) (by omega)]
      exact hU v hv
def zq_StepL (σ : KS) (ρ : RS) (x : Option (Except Nat Int32 × KS)) (y : Option (Int32 × RS)) : Prop :=
  (∃ v τ r, x = some (.ok v, (τ, σ.2)) ∧ y = some (v, sM_row ρ r) ∧ zq_RR τ r) ∨ (∃ k w τ r, zq_KK k ∧ x = some (.error k, (τ, σ.2)) ∧ y = some (w, sM_code (sM_row ρ r) (nI k)) ∧ zq_RR τ r)
theorem zq_Step.L {σ : KS} {ρ : RS} {x : Option (Except Nat Int32 × KS)} {y : Option (Int32 × RS)} {Q : Int32 → SS → (Nat → Int32) → Prop} (h : zq_Step σ ρ x y Q) (hR : zq_RR σ.1 (gM_row ρ)) (hq : ∀ v τ r, Q v τ r → zq_RR τ r) : zq_StepL σ ρ x y := by
  rcases h with ⟨v, τ, r, h1, h2, h3⟩ | ⟨k, w, hk, h1, h2⟩
  · exact Or.inl ⟨v, τ, r, h1, h2, hq v τ r h3⟩
  · exact Or.inr ⟨k, w, σ.1, gM_row ρ, hk, h1, h2, hR⟩
theorem zq_StepL.err {σ : KS} {ρ : RS} {x : Option (Except Nat Int32 × KS)} {y : Option (Int32 × RS)} (k : Nat) (hk : zq_KK k) (w : Int32) (τ : SS) (r : Nat → Int32) (hR : zq_RR τ r) (hx : x = some (.error k, (τ, σ.2))) (hy : y = some (w, sM_code (sM_row ρ r) (nI k))) : zq_StepL σ ρ x y := Or.inr ⟨k, w, τ, r, hk, hx, hy, hR⟩
theorem zq_zp_kk {k : Nat} (h : zq_KK k) : (nI k = (0 : Int32)) = False := by
  apply eq_false
  rcases h with rfl | rfl | rfl | rfl <;> decide
theorem zq_zp_code (ρ : RS) (r : Nat → Int32) : gM_code (sM_row ρ r) = gM_code ρ := rfl
theorem zq_zp_code' (ρ : RS) (k : Int32) : gM_code (sM_code ρ k) = k := rfl
theorem zq_zp_rr (ρ : RS) (a b : Nat → Int32) : sM_row (sM_row ρ a) b = sM_row ρ b := rfl
theorem zq_zp_rg (ρ : RS) (a : Nat → Int32) : gM_row (sM_row ρ a) = a := rfl
theorem zq_zp_opBoth {s m g : Nat} {σ : KS} {ρ : RS} (h : zq_Rel s m g σ.1 (gM_row ρ)) (hc : gM_code ρ = 0) {l a b p q : Nat} {L A B P Q : Int32} (eL : L = nI l) (eA : A = nI a) (eB : B = nI b) (eP : P = nI p) (eQ : Q = nI q) (hl : l < s) (ha : a < 8) (hb : b < 8) (hp : p ≤ 4) (hq : q ≤ 4) :
    (∃ v u n τ r s', f_Ke_label σ L A P = some (.ok v, u) ∧ f_Ke_label u v B Q = some (.ok (nI n), (τ, σ.2)) ∧ f_Mo_both ρ L A B P Q = some (nI n, sM_row ρ r) ∧ n < s' ∧ s ≤ s' ∧ zq_Rel s' m g τ r ∧ zq_LEq σ.1 τ) ∨
    (∃ k w τ r, zq_KK k ∧ zq_RR τ r ∧ (f_Ke_label σ L A P = some (.error k, (τ, σ.2)) ∨ ∃ v u, f_Ke_label σ L A P = some (.ok v, u) ∧ f_Ke_label u v B Q = some (.error k, (τ, σ.2))) ∧ f_Mo_both ρ L A B P Q = some (w, sM_code (sM_row ρ r) (nI k))) := by
  subst eL; subst eA; subst eB; subst eP; subst eQ
  unfold f_Mo_both
  rcases zq_zp_opMade h hl ha hp with ⟨v, τ, r, h1, h2, s1, n1, rfl, h3, h4, h5, h6⟩ | ⟨k, w, hk, h1, h2⟩
  · have h5' : zq_Rel s1 m g ((τ, σ.2) : KS).1 (gM_row (sM_row ρ r)) := h5
    rcases zq_zp_opMade h5' h3 hb hq with ⟨v', τ', r', g1, g2, s2, n2, rfl, g3, g4, g5, g6⟩ | ⟨k, w, hk, g1, g2⟩
    · left
      refine ⟨nI n1, (τ, σ.2), n2, τ', r', s2, h1, g1, ?_, g3, by omega, g5, h6.trans g6⟩
      simp only [h2, g2, Option.bind_some, zq_zp_code, hc, if_true]; rfl
    · right
      refine ⟨k, w, τ, r, hk, ⟨_, _, _, h5⟩, Or.inr ⟨nI n1, (τ, σ.2), h1, g1⟩, ?_⟩
      simp only [h2, g2, Option.bind_some, zq_zp_code, hc, if_true]
  · right
    refine ⟨k, 0, σ.1, gM_row ρ, hk, ⟨_, _, _, h⟩, Or.inl h1, ?_⟩
    simp only [h2, Option.bind_some, zq_zp_code', zq_zp_kk hk, if_false]; rfl
theorem zq_UEq.trans {a b c : SS} (h1 : zq_UEq a b) (h2 : zq_UEq b c) : zq_UEq a c := by
  obtain ⟨x1, x2, x3, x4, x5, x6, x7⟩ := h1
  obtain ⟨y1, y2, y3, y4, y5, y6, y7⟩ := h2
  exact ⟨y1.trans x1, y2.trans x2, y3.trans x3, y4.trans x4, y5.trans x5, y6.trans x6, y7.trans x7⟩
theorem zq_gt_uthere {s m g : Nat} {σ : KS} {ρ : RS} (h : zq_Rel s m g σ.1 (gM_row ρ)) {u : Nat} (hu : u < 4) :
    (f_Us_isThere σ (nI u) = some 1 ∧ f_Mo_of ρ (nI u) 0 = some 1) ∨ (f_Us_isThere σ (nI u) = some 0 ∧ f_Mo_of ρ (nI u) 0 = some 0) := by
  obtain ⟨⟨t1, t2⟩, -⟩ := h.us hu
  have e1 : f_Mo_of ρ (nI u) 0 = some (gM_row ρ (1517 + 8 * u)) := zq_zp_of ρ u 0 hu (by omega)
  have t1' : gN_uthere σ u = gM_row ρ (1517 + 8 * u) := t1
  unfold f_Us_isThere
  rw [e1]
  simp only [zq_zp_cl u (show u < 2147483648 by omega), zq_zp_gF (show u < 4 by omega) (show 4 < 2147483648 by omega), if_false, t1']
  rcases t2 with t2 | t2
  · right; rw [t2]; simp only [zq_zp_nar0, if_true, and_self]
  · left; rw [t2]; simp only [zq_zp_nar1, if_true, and_self]
theorem zq_gt_pass (σ : KS) {u : Nat} (hu : u < 4) : f_Us_passwordOf σ (nI u) = some (gN_password σ u) := zq_zp_guard (N := 4) rfl hu (by omega) (fun k => some (gN_password σ k))
theorem zq_gt_first (σ : KS) {u : Nat} (hu : u < 4) : f_Us_firstCategoryOf σ (nI u) = some (gN_firstCategory σ u) := zq_zp_guard (N := 4) rfl hu (by omega) (fun k => some (gN_firstCategory σ k))
theorem zq_gt_second (σ : KS) {u : Nat} (hu : u < 4) : f_Us_secondCategoryOf σ (nI u) = some (gN_secondCategory σ u) := zq_zp_guard (N := 4) rfl hu (by omega) (fun k => some (gN_secondCategory σ k))
theorem zq_gt_gateOf (σ : KS) {u : Nat} (hu : u < 4) : f_Us_gateOf σ (nI u) = some (gN_gate σ u) := zq_zp_guard (N := 4) rfl hu (by omega) (fun k => some (gN_gate σ k))
theorem zq_gt_homeOf (σ : KS) {u : Nat} (hu : u < 4) : f_Us_homeOf σ (nI u) = some (gN_home σ u) := zq_zp_guard (N := 4) rfl hu (by omega) (fun k => some (gN_home σ k))
theorem zq_gt_dirOf (σ : KS) {u : Nat} (hu : u < 4) : f_Us_directoryOf σ (nI u) = some (gN_directory σ u) := zq_zp_guard (N := 4) rfl hu (by omega) (fun k => some (gN_directory σ k))
theorem zq_zp_of1 (ρ : RS) {u : Nat} (hu : u < 4) : f_Mo_of ρ (nI u) 1 = some (gM_row ρ (1517 + 8 * u + 1)) := zq_zp_of ρ u 1 hu (by omega)
theorem zq_zp_of2 (ρ : RS) {u : Nat} (hu : u < 4) : f_Mo_of ρ (nI u) 2 = some (gM_row ρ (1517 + 8 * u + 2)) := zq_zp_of ρ u 2 hu (by omega)
theorem zq_zp_of3 (ρ : RS) {u : Nat} (hu : u < 4) : f_Mo_of ρ (nI u) 3 = some (gM_row ρ (1517 + 8 * u + 3)) := zq_zp_of ρ u 3 hu (by omega)
theorem zq_zp_of4 (ρ : RS) {u : Nat} (hu : u < 4) : f_Mo_of ρ (nI u) 4 = some (gM_row ρ (1517 + 8 * u + 4)) := zq_zp_of ρ u 4 hu (by omega)
theorem zq_zp_of5 (ρ : RS) {u : Nat} (hu : u < 4) : f_Mo_of ρ (nI u) 5 = some (gM_row ρ (1517 + 8 * u + 5)) := zq_zp_of ρ u 5 hu (by omega)
theorem zq_zp_of6 (ρ : RS) {u : Nat} (hu : u < 4) : f_Mo_of ρ (nI u) 6 = some (gM_row ρ (1517 + 8 * u + 6)) := zq_zp_of ρ u 6 hu (by omega)
theorem zq_zp_01 : ((0 : Int32) = 1) = False := by decide
theorem zq_zp_iu (u f : Nat) : 1517 + 8 * nI u + nI f = nI (1517 + 8 * u + f) := by rw [← zq_zp_add, ← zq_zp_add, ← zq_zp_mul]; rfl
theorem zq_zp_iu0 (u : Nat) : 1517 + 8 * nI u = nI (1517 + 8 * u) := by rw [← zq_zp_add, ← zq_zp_mul]; rfl
theorem zq_zp_iu' (u f : Nat) : nI (1517 + 8 * u) + nI f = nI (1517 + 8 * u + f) := zq_zp_add _ _
theorem zq_zp_opUser {s m g : Nat} {σ : KS} {ρ : RS} (h : zq_Rel s m g σ.1 (gM_row ρ)) (hc : gM_code ρ = 0) (x1 x2 x3 : Int32) :
    zq_StepL σ ρ (f_Ke_user σ x1 x2 x3) (f_Mo_user ρ x1 x2 x3) := by
  have e0 : sM_code ρ 0 = ρ := by rw [← hc]; rfl
  unfold f_Ke_user f_Mo_user
  simp only [zl, e0]
  rcases zq_zp_btw x2 (A := 0) (B := 3) (a := 0) (b := 3) rfl rfl (by omega) (by omega) with ⟨u, -, i2, rfl, i3, i4⟩ | ⟨i3, i4⟩
  · have hu : u < 4 := by omega
    rcases zq_gt_uthere h hu with ⟨u1, u2⟩ | ⟨u1, u2⟩
    · simp only [i3, i4, u1, u2, Option.bind_some, zq_zp_10, if_false, if_true]
      exact zq_StepL.err 1 zq_k_1 0 σ.1 (gM_row ρ) ⟨_, _, _, h⟩ rfl rfl
    · simp only [i3, i4, u1, u2, Option.bind_some, zq_zp_10, zq_zp_01, if_false, if_true]
      rcases zq_zp_opCategory h hc x1 with ⟨_, τ1, r1, h1, g1, ⟨s1, m1, q1, R1⟩, U1, a, ha, rfl⟩ | ⟨k, w, hk, h1, g1⟩
      · have c1 : gM_code (sM_row ρ r1) = 0 := hc
        have R1' : zq_Rel s1 m1 q1 ((τ1, σ.2) : KS).1 (gM_row (sM_row ρ r1)) := R1
        simp only [h1, g1, zq_zx_ok, Option.bind_some, c1, if_true]
        rcases zq_zp_opCategory R1' c1 x1 with ⟨_, τ2, r2, h2, g2, ⟨s2, m2, q2, R2⟩, U2, b, hb, rfl⟩ | ⟨k, w, hk, h2, g2⟩
        · have c2 : gM_code (sM_row ρ r2) = 0 := hc
          have R2' : zq_Rel s2 m2 q2 ((τ2, σ.2) : KS).1 (gM_row (sM_row ρ r2)) := R2
          simp only [h2, g2, zq_zx_ok, Option.bind_some, zq_zp_rr, c2, if_true]
          obtain ⟨b1, b2, b3, b4, b5⟩ := R2.b
          rcases zq_zp_opBoth R2' c2 (L := 0) (P := 3) (Q := 0) (l := 0) (p := 3) (q := 0) rfl rfl rfl rfl rfl (show 0 < s2 by omega) ha hb (by omega) (by omega) with ⟨v3, u3, n, τ4, r4, s4, h3, h4, g4, n1, n2, R4, E4⟩ | ⟨k, w, τ4, r4, hk, R4, hx, g4⟩
          · have c4 : gM_code (sM_row ρ r4) = 0 := hc
            have R4' : zq_Rel s4 m2 q2 ((τ4, σ.2) : KS).1 (gM_row (sM_row ρ r4)) := R4
            obtain ⟨-, -, -, -, -, -, U4⟩ := E4.th
            simp only [h3, h4, g4, zq_zx_ok, Option.bind_some, zq_zp_rr, c4, if_true]
            rcases zq_zp_opContainer R4' x1 1 (nI n) 40 with ⟨hm, τ5, r5, h5, g5, ⟨s5, m5, q5, R5⟩, U5⟩ | ⟨k, w, hk, h5, g5⟩
            · have c5 : gM_code (sM_row ρ r5) = 0 := hc
              have R5' : zq_Rel s5 m5 q5 ((τ5, σ.2) : KS).1 (gM_row (sM_row ρ r5)) := R5
              simp only [h5, g5, zq_zx_ok, Option.bind_some, zq_zp_rr, c5, if_true]
              rcases zq_zp_opSegment R5' x1 hm (nI n) 4 with ⟨dr, τ6, r6, h6, g6, ⟨s6, m6, q6, R6⟩, U6⟩ | ⟨k, w, hk, h6, g6⟩
              · have c6 : gM_code (sM_row ρ r6) = 0 := hc
                have R6' : zq_Rel s6 m6 q6 ((τ6, σ.2) : KS).1 (gM_row (sM_row ρ r6)) := R6
                simp only [h6, g6, zq_zx_ok, Option.bind_some, zq_zp_rr, c6, if_true]
                obtain ⟨d1, d2, d3, d4, d5⟩ := R6.b
                rcases zq_zp_opBoth R6' c6 (L := 0) (P := 4) (Q := 4) (l := 0) (p := 4) (q := 4) rfl rfl rfl rfl rfl (show 0 < s6 by omega) ha hb (by omega) (by omega) with ⟨v7, u7, n', τ8, r8, s8, h7, h8, g8, n1', n2', R8, E8⟩ | ⟨k, w, τ8, r8, hk, R8, hx, g8⟩
                · have c8 : gM_code (sM_row ρ r8) = 0 := hc
                  have R8' : zq_Rel s8 m6 q6 ((τ8, σ.2) : KS).1 (gM_row (sM_row ρ r8)) := R8
                  simp only [h7, h8, g8, zq_zx_ok, Option.bind_some, zq_zp_rr, c8, if_true]
                  rcases zq_zp_opGate R8' x1 1 (nI n') 1 (nI u) with ⟨gt, τ9, r9, h9, g9, s9, m9, q9, R9⟩ | ⟨k, w, hk, h9, g9⟩
                  · have c9 : gM_code (sM_row ρ r9) = 0 := hc
                    simp only [h9, g9, zq_zx_ok, Option.bind_some, zq_zp_rr, zq_zp_rg, c9, if_true]
                    have j1 : nI (1517 + 8 * u) + 1 = nI (1517 + 8 * u + 1) := zq_zp_iu' u 1
                    have j2 : nI (1517 + 8 * u) + 2 = nI (1517 + 8 * u + 2) := zq_zp_iu' u 2
                    have j3 : nI (1517 + 8 * u) + 3 = nI (1517 + 8 * u + 3) := zq_zp_iu' u 3
                    have j4 : nI (1517 + 8 * u) + 4 = nI (1517 + 8 * u + 4) := zq_zp_iu' u 4
                    have j5 : nI (1517 + 8 * u) + 5 = nI (1517 + 8 * u + 5) := zq_zp_iu' u 5
                    have j6 : nI (1517 + 8 * u) + 6 = nI (1517 + 8 * u + 6) := zq_zp_iu' u 6
                    simp only [zq_zp_iu0, j1, j2, j3, j4, j5, j6, zq_zp_cl (1517 + 8 * u) (show 1517 + 8 * u < 2147483648 by omega), zq_zp_cl (1517 + 8 * u + 1) (show 1517 + 8 * u + 1 < 2147483648 by omega), zq_zp_cl (1517 + 8 * u + 2) (show 1517 + 8 * u + 2 < 2147483648 by omega), zq_zp_cl (1517 + 8 * u + 3) (show 1517 + 8 * u + 3 < 2147483648 by omega), zq_zp_cl (1517 + 8 * u + 4) (show 1517 + 8 * u + 4 < 2147483648 by omega), zq_zp_cl (1517 + 8 * u + 5) (show 1517 + 8 * u + 5 < 2147483648 by omega), zq_zp_cl (1517 + 8 * u + 6) (show 1517 + 8 * u + 6 < 2147483648 by omega), zq_zp_gF (show 1517 + 8 * u < 1552 by omega) (show 1552 < 2147483648 by omega), zq_zp_gF (show 1517 + 8 * u + 1 < 1552 by omega) (show 1552 < 2147483648 by omega), zq_zp_gF (show 1517 + 8 * u + 2 < 1552 by omega) (show 1552 < 2147483648 by omega), zq_zp_gF (show 1517 + 8 * u + 3 < 1552 by omega) (show 1552 < 2147483648 by omega), zq_zp_gF (show 1517 + 8 * u + 4 < 1552 by omega) (show 1552 < 2147483648 by omega), zq_zp_gF (show 1517 + 8 * u + 5 < 1552 by omega) (show 1552 < 2147483648 by omega), zq_zp_gF (show 1517 + 8 * u + 6 < 1552 by omega) (show 1552 < 2147483648 by omega), if_false]
                    refine Or.inl ⟨hm, _, _, zq_gt_setUser (τ9, σ.2) hu x3 (nI a) (nI b) hm dr gt, rfl, s9, m9, q9, ?_⟩
                    refine zq_Rel_user R9 hu ha hb x3 hm dr gt (fun j hj => ?_) ?_ ?_ ?_ ?_ ?_ ?_ zq_upd_eq
                    · rw [zq_upd_ne (by omega), zq_upd_ne (by omega), zq_upd_ne (by omega), zq_upd_ne (by omega), zq_upd_ne (by omega), zq_upd_ne (by omega), zq_upd_ne (by omega)]
                    · rw [zq_upd_ne (by omega), zq_upd_ne (by omega), zq_upd_ne (by omega), zq_upd_ne (by omega), zq_upd_ne (by omega), zq_upd_ne (by omega), zq_upd_eq]
                    · rw [zq_upd_ne (by omega), zq_upd_ne (by omega), zq_upd_ne (by omega), zq_upd_ne (by omega), zq_upd_ne (by omega), zq_upd_eq]
                    · rw [zq_upd_ne (by omega), zq_upd_ne (by omega), zq_upd_ne (by omega), zq_upd_ne (by omega), zq_upd_eq]
                    · rw [zq_upd_ne (by omega), zq_upd_ne (by omega), zq_upd_ne (by omega), zq_upd_eq]
                    · rw [zq_upd_ne (by omega), zq_upd_ne (by omega), zq_upd_eq]
                    · rw [zq_upd_ne (by omega), zq_upd_eq]
                  · simp only [h9, g9, zq_zx_err, Option.bind_some, zq_zp_code', zq_zp_kk hk, if_false]
                    exact zq_StepL.err k hk 0 τ8 r8 ⟨_, _, _, R8⟩ rfl rfl
                · rcases hx with hx | ⟨v7, u7, hx, hy⟩
                  · simp only [hx, g8, zq_zx_err, Option.bind_some, zq_zp_code', zq_zp_kk hk, if_false, zq_zp_rr]
                    exact zq_StepL.err k hk 0 τ8 r8 R8 rfl rfl
                  · simp only [hx, hy, g8, zq_zx_ok, zq_zx_err, Option.bind_some, zq_zp_code', zq_zp_kk hk, if_false, zq_zp_rr]
                    exact zq_StepL.err k hk 0 τ8 r8 R8 rfl rfl
              · simp only [h6, g6, zq_zx_err, Option.bind_some, zq_zp_code', zq_zp_kk hk, if_false]
                exact zq_StepL.err k hk 0 τ5 r5 ⟨_, _, _, R5⟩ rfl rfl
            · simp only [h5, g5, zq_zx_err, Option.bind_some, zq_zp_code', zq_zp_kk hk, if_false]
              exact zq_StepL.err k hk 0 τ4 r4 ⟨_, _, _, R4⟩ rfl rfl
          · rcases hx with hx | ⟨v7, u7, hx, hy⟩
            · simp only [hx, g4, zq_zx_err, Option.bind_some, zq_zp_code', zq_zp_kk hk, if_false, zq_zp_rr]
              exact zq_StepL.err k hk 0 τ4 r4 R4 rfl rfl
            · simp only [hx, hy, g4, zq_zx_ok, zq_zx_err, Option.bind_some, zq_zp_code', zq_zp_kk hk, if_false, zq_zp_rr]
              exact zq_StepL.err k hk 0 τ4 r4 R4 rfl rfl
        · simp only [h2, g2, zq_zx_err, Option.bind_some, zq_zp_code', zq_zp_kk hk, if_false]
          exact zq_StepL.err k hk 0 τ1 r1 ⟨_, _, _, R1⟩ rfl rfl
      · simp only [h1, g1, zq_zx_err, Option.bind_some, zq_zp_code', zq_zp_kk hk, if_false]
        exact zq_StepL.err k hk 0 σ.1 (gM_row ρ) ⟨_, _, _, h⟩ rfl rfl
  · simp only [i3, i4, Option.bind_some, if_true]
    exact zq_StepL.err 1 zq_k_1 0 σ.1 (gM_row ρ) ⟨_, _, _, h⟩ rfl rfl
theorem zq_zx_id {κ : Type} (x : Option (Except Nat Int32 × κ)) : (zx x fun v u => some (.ok v, u)) = x := by
  match x with
  | none => rfl
  | some (.ok v, u) => rfl
  | some (.error k, u) => rfl
theorem zq_bd_id {α β : Type} (x : Option (α × β)) : (x.bind fun v => some (v.1, v.2)) = x := by
  match x with
  | none => rfl
  | some (a, b) => rfl
theorem zq_zp_opLogin {s m g : Nat} {σ : KS} {ρ : RS} (h : zq_Rel s m g σ.1 (gM_row ρ)) (hc : gM_code ρ = 0) (x1 x2 x3 : Int32) :
    zq_StepL σ ρ (f_Ke_login σ x1 x2 x3) (f_Mo_login ρ x1 x2 x3) := by
  have e0 : sM_code ρ 0 = ρ := by rw [← hc]; rfl
  obtain ⟨a1, a2, a3, a4, a5⟩ := h.b
  unfold f_Ke_login f_Mo_login
  simp only [zl, e0, zq_zx_id, zq_bd_id]
  rcases zq_zp_btw x2 (A := 0) (B := 3) (a := 0) (b := 3) rfl rfl (by omega) (by omega) with ⟨u, -, i2, rfl, i3, i4⟩ | ⟨i3, i4⟩
  · have hu : u < 4 := by omega
    obtain ⟨-, y1, y2, y3, y4, y5, y6, ⟨a, ha, ya⟩, ⟨b, hb, yb⟩⟩ := h.us hu
    have y1' : gN_password σ u = gM_row ρ (1517 + 8 * u + 1) := y1
    have y2' : gN_firstCategory σ u = nI a := y2.trans ya
    have y3' : gN_secondCategory σ u = nI b := y3.trans yb
    rcases zq_gt_uthere h hu with ⟨u1, u2⟩ | ⟨u1, u2⟩
    · simp only [i3, i4, u1, u2, Option.bind_some, zq_zp_10, if_false, zq_gt_pass σ hu, y1', zq_zp_of1 ρ hu]
      by_cases hp : gM_row ρ (1517 + 8 * u + 1) = x3
      · simp only [hp, if_true]
        rcases zq_zp_thread h hc x1 with ⟨t, t1, t2, rfl, t3, t4, t5⟩ | ⟨k, hk, t4, t5⟩
        · obtain ⟨tl, tl1, tl2, tl3⟩ := h.la t1 t2
          simp only [t4, t5, zq_zx_ok, Option.bind_some, zq_zp_10, if_false, zq_gt_first σ hu, zq_gt_second σ hu, y2', y3', zq_zp_of2 ρ hu, zq_zp_of3 ρ hu, ya, yb, zq_gt_label σ (show t ≤ 60 by omega), tl2, zq_zp_at2 ρ t (show t ≤ 60 by omega), tl3]
          rcases zq_zp_opBoth h hc (P := 4) (Q := 4) (p := 4) (q := 4) rfl rfl rfl rfl rfl tl1 ha hb (by omega) (by omega) with ⟨v3, u3, n, τ4, r4, s4, h3, h4, g4, n1, n2, R4, E4⟩ | ⟨k, w, τ4, r4, hk, R4, hx, g4⟩
          · have c4 : gM_code (sM_row ρ r4) = 0 := hc
            have R4' : zq_Rel s4 m g ((τ4, σ.2) : KS).1 (gM_row (sM_row ρ r4)) := R4
            obtain ⟨-, E4k, -, E4c, -, -, U4⟩ := E4.th
            have k4 : gM_row (sM_row ρ r4) (17 * t + 1) = 3 := by
              rw [← R4'.kd t1 t2]
              show p_kind τ4 t = 3
              rw [E4k]; exact (h.kd t1 t2).trans t3
            obtain ⟨tc, tc1, tc2, tc3⟩ := R4'.cl t1 t2 (Or.inr k4)
            simp only [h3, h4, g4, zq_zx_ok, Option.bind_some, c4, if_true, zq_gt_clear _ (show t ≤ 60 by omega), tc2, zq_zp_at6 _ t (show t ≤ 60 by omega), tc3]
            rcases zq_zp_opBoth R4' c4 (P := 3) (Q := 3) (p := 3) (q := 3) rfl rfl rfl rfl rfl tc1 ha hb (by omega) (by omega) with ⟨v5, u5, n', τ6, r6, s6, h5, h6, g6, n1', n2', R6, E6⟩ | ⟨k, w, τ6, r6, hk, R6, hx, g6⟩
            · have c6 : gM_code (sM_row ρ r6) = 0 := hc
              have R6' : zq_Rel s6 m g ((τ6, σ.2) : KS).1 (gM_row (sM_row ρ r6)) := R6
              obtain ⟨-, -, -, -, -, -, U6⟩ := E6.th
              have gg : gN_gate (τ6, σ.2) u = gM_row (sM_row ρ r6) (1517 + 8 * u + 6) := (R6.us hu).2.2.2.2.2.2.1
              simp only [h5, h6, g6, zq_zx_ok, Option.bind_some, zq_zp_rr, c6, if_true, zq_gt_gateOf _ hu, zq_zp_of6 _ hu, gg]
              have St := zq_zp_opEnter R6' c6 (nI t) 1 (gM_row (sM_row ρ r6) (1517 + 8 * u + 6)) (nI n) (nI n')
              rcases St with ⟨v, τ, r, q1, q2, q3⟩ | ⟨k, w, hk, q1, q2⟩
              · rw [q1, q2]
                exact Or.inl ⟨v, τ, r, rfl, rfl, q3⟩
              · rw [q1, q2]
                exact zq_StepL.err k hk w τ6 r6 ⟨_, _, _, R6⟩ rfl rfl
            · rcases hx with hx | ⟨v7, u7, hx, hy⟩
              · simp only [hx, g6, zq_zx_err, Option.bind_some, zq_zp_code', zq_zp_kk hk, if_false, zq_zp_rr]
                exact zq_StepL.err k hk 0 τ6 r6 R6 rfl rfl
              · simp only [hx, hy, g6, zq_zx_ok, zq_zx_err, Option.bind_some, zq_zp_code', zq_zp_kk hk, if_false, zq_zp_rr]
                exact zq_StepL.err k hk 0 τ6 r6 R6 rfl rfl
          · rcases hx with hx | ⟨v7, u7, hx, hy⟩
            · simp only [hx, g4, zq_zx_err, Option.bind_some, zq_zp_code', zq_zp_kk hk, if_false, zq_zp_rr]
              exact zq_StepL.err k hk 0 τ4 r4 R4 rfl rfl
            · simp only [hx, hy, g4, zq_zx_ok, zq_zx_err, Option.bind_some, zq_zp_code', zq_zp_kk hk, if_false, zq_zp_rr]
              exact zq_StepL.err k hk 0 τ4 r4 R4 rfl rfl
        · simp only [t4, t5, zq_zx_err, Option.bind_some, if_true]
          exact zq_StepL.err k hk 0 σ.1 (gM_row ρ) ⟨_, _, _, h⟩ rfl rfl
      · simp only [hp, if_false]
        exact zq_StepL.err 3 zq_k_3 0 σ.1 (gM_row ρ) ⟨_, _, _, h⟩ rfl rfl
    · simp only [i3, i4, u1, u2, Option.bind_some, zq_zp_10, if_false, if_true]
      exact zq_StepL.err 2 zq_k_2 0 σ.1 (gM_row ρ) ⟨_, _, _, h⟩ rfl rfl
  · simp only [i3, i4, Option.bind_some, if_true]
    exact zq_StepL.err 1 zq_k_1 0 σ.1 (gM_row ρ) ⟨_, _, _, h⟩ rfl rfl
theorem zq_zp_fileEnd {s m g : Nat} {σ σ0 : KS} {ρ ρ0 : RS} (h : zq_Rel s m g σ.1 (gM_row ρ)) (hc : gM_code ρ = 0) (hk2 : σ.2 = σ0.2) (hρ : ∃ r0, ρ = sM_row ρ0 r0) {u d : Nat} (hu : u < 4) (d1 : 1 ≤ d) (d2 : d ≤ m) (x1 x3 x4 dr : Int32) (hd : gN_directory σ u = dr) :
    zq_StepL σ0 ρ0 ((f_Tg_labelOf σ (nI d)).bind fun v13 => zx (f_Ke_segment σ x1 (nI d) v13 x4) fun v14 u15 => zx (f_Ke_write u15 x1 (nI d) dr x3 v14) fun v16 u17 => some (.ok v14, u17))
      ((f_Mo_at ρ (nI d) 2).bind fun v17 => (f_Mo_makeSegment ρ x1 (nI d) v17 x4).bind fun v18 => if (gM_code v18.2) = 0 then ((f_Mo_of v18.2 (nI u) 5).bind fun v20 => (f_Mo_cell v18.2 x1 (nI d) v20 x3 1 v18.1).bind fun v21 => some (v18.1, v21.2)) else (some (v18.1, v18.2))) := by
  obtain ⟨a1, a2, a3, a4, a5⟩ := h.b
  obtain ⟨r0, rfl⟩ := hρ
  obtain ⟨l, l1, l2, l3⟩ := h.la d1 d2
  simp only [zq_gt_label σ (show d ≤ 60 by omega), l2, zq_zp_at2 _ d (show d ≤ 60 by omega), l3, Option.bind_some]
  rcases zq_zp_opSegment h x1 (nI d) (nI l) x4 with ⟨v, τ1, r1, h1, g1, ⟨s1, m1, q1, R1⟩, U1⟩ | ⟨k, w, hk, h1, g1⟩
  · have R1' : zq_Rel s1 m1 q1 ((τ1, σ.2) : KS).1 (gM_row (sM_row (sM_row ρ0 r0) r1)) := R1
    have c1 : gM_code (sM_row (sM_row ρ0 r0) r1) = 0 := hc
    have ed : gM_row (sM_row (sM_row ρ0 r0) r1) (1517 + 8 * u + 5) = dr := by
      have := (R1.us hu).2.2.2.2.2.1
      rw [U1.2.2.2.2.2.1] at this
      exact this.symm.trans hd
    simp only [h1, g1, zq_zx_ok, Option.bind_some, c1, if_true, zq_zp_of5 _ hu, ed]
    rcases zq_zp_opWrite R1' c1 x1 (nI d) dr x3 v (show ¬ (1 : Int32) = 0 by decide) with ⟨v2, τ2, r2, h2, g2, R2⟩ | ⟨k, w, hk, h2, g2⟩
    · simp only [h2, g2, zq_zx_ok, Option.bind_some]
      exact Or.inl ⟨v, τ2, r2, by rw [← hk2], rfl, R2⟩
    · simp only [h2, g2, zq_zx_err, Option.bind_some]
      exact zq_StepL.err k hk v τ1 r1 ⟨_, _, _, R1⟩ (by rw [← hk2]) rfl
  · simp only [h1, g1, zq_zx_err, Option.bind_some, zq_zp_code', zq_zp_kk hk, if_false]
    exact zq_StepL.err k hk w σ.1 r0 ⟨_, _, _, h⟩ (by rw [← hk2]) rfl
theorem zq_zp_opFile {s m g : Nat} {σ : KS} {ρ : RS} (h : zq_Rel s m g σ.1 (gM_row ρ)) (hc : gM_code ρ = 0) (x1 x2 x3 x4 : Int32) :
    zq_StepL σ ρ (f_Ke_file σ x1 x2 x3 x4) (f_Mo_file ρ x1 x2 x3 x4) := by
  have e0 : sM_code ρ 0 = ρ := by rw [← hc]; rfl
  obtain ⟨a1, a2, a3, a4, a5⟩ := h.b
  unfold f_Ke_file f_Mo_file
  simp only [zl, e0]
  rcases zq_zp_btw x2 (A := 0) (B := 3) (a := 0) (b := 3) rfl rfl (by omega) (by omega) with ⟨u, -, i2, rfl, i3, i4⟩ | ⟨i3, i4⟩
  · have hu : u < 4 := by omega
    rcases zq_zp_btw' x3 0 3 with ⟨j1, j2⟩ | ⟨j1, j2⟩
    · rcases zq_zp_btw' x4 1 8 with ⟨w1, w2⟩ | ⟨w1, w2⟩
      · obtain ⟨-, y1, y2, y3, y4, y5, y6, -, -⟩ := h.us hu
        have y4' : gN_home σ u = gM_row ρ (1517 + 8 * u + 4) := y4
        have y5' : gN_directory σ u = gM_row ρ (1517 + 8 * u + 5) := y5
        rcases zq_gt_uthere h hu with ⟨u1, u2⟩ | ⟨u1, u2⟩
        · simp only [i3, i4, j1, j2, w1, w2, u1, u2, Option.bind_some, zq_zp_10, if_false, zq_gt_homeOf σ hu, zq_gt_dirOf σ hu, y4', y5', zq_zp_of4 ρ hu, zq_zp_of5 ρ hu]
          rcases zq_zp_opRead h hc x1 (gM_row ρ (1517 + 8 * u + 4)) (gM_row ρ (1517 + 8 * u + 5)) x3 0 with ⟨v, τ, r, h1, g1, rfl, rfl, d, d1, d2, ed⟩ | ⟨k, w, hk, h1, g1⟩
          · have cr : gM_code (sM_row ρ (gM_row ρ)) = 0 := hc
            simp only [h1, g1, zq_zx_ok, Option.bind_some, cr, if_true]
            by_cases hv : v = 0
            · simp only [hv, if_true]
              rw [ed]
              exact zq_zp_fileEnd (σ := (σ.1, σ.2)) (ρ := sM_row ρ (gM_row ρ)) h cr rfl ⟨_, rfl⟩ hu d1 d2 x1 x3 x4 _ y5'
            · simp only [hv, if_false]
              have St := zq_zp_opDrop (σ := (σ.1, σ.2)) (ρ := sM_row ρ (gM_row ρ)) h cr x1 (gM_row ρ (1517 + 8 * u + 4)) v
              rcases St with ⟨v2, τ2, r2, h2, g2, R2, f, rfl⟩ | ⟨k, w, hk, h2, g2⟩
              · have c2 : gM_code (sM_row ρ r2) = 0 := hc
                simp only [h2, g2, zq_zx_ok, Option.bind_some, zq_zp_rr, c2, if_true]
                rw [ed]
                exact zq_zp_fileEnd (σ := (q_there σ.1 f, σ.2)) (ρ := sM_row ρ r2) R2 c2 rfl ⟨_, rfl⟩ hu d1 d2 x1 x3 x4 _ y5'
              · simp only [h2, g2, zq_zx_err, Option.bind_some, zq_zp_code', zq_zp_kk hk, if_false]
                exact zq_StepL.err k hk 0 σ.1 (gM_row ρ) ⟨_, _, _, h⟩ rfl rfl
          · simp only [h1, g1, zq_zx_err, Option.bind_some, zq_zp_code', zq_zp_kk hk, if_false]
            exact zq_StepL.err k hk 0 σ.1 (gM_row ρ) ⟨_, _, _, h⟩ rfl rfl
        · simp only [i3, i4, j1, j2, w1, w2, u1, u2, Option.bind_some, zq_zp_10, if_false, if_true]
          exact zq_StepL.err 2 zq_k_2 0 σ.1 (gM_row ρ) ⟨_, _, _, h⟩ rfl rfl
      · simp only [i3, i4, j1, j2, w1, w2, Option.bind_some, zq_zp_10, if_false, if_true]
        exact zq_StepL.err 1 zq_k_1 0 σ.1 (gM_row ρ) ⟨_, _, _, h⟩ rfl rfl
    · simp only [i3, i4, j1, j2, Option.bind_some, zq_zp_10, if_false, if_true]
      exact zq_StepL.err 1 zq_k_1 0 σ.1 (gM_row ρ) ⟨_, _, _, h⟩ rfl rfl
  · simp only [i3, i4, Option.bind_some, if_true]
    exact zq_StepL.err 1 zq_k_1 0 σ.1 (gM_row ρ) ⟨_, _, _, h⟩ rfl rfl
theorem zq_zp_opAccess {s m g : Nat} {σ : KS} {ρ : RS} (h : zq_Rel s m g σ.1 (gM_row ρ)) (hc : gM_code ρ = 0) (x1 x2 x3 x4 x5 x6 : Int32) :
    zq_StepL σ ρ (f_Ke_access σ x1 x2 x3 x4 x5 x6) (f_Mo_access ρ x1 x2 x3 x4 x5 x6) ∨ ∃ k, zq_KK k ∧ f_Ke_access σ x1 x2 x3 x4 x5 x6 = some (.error k, σ) ∧ f_Mo_access ρ x1 x2 x3 x4 x5 x6 = some (0, sM_code ρ 1) := by
  have e0 : sM_code ρ 0 = ρ := by rw [← hc]; rfl
  obtain ⟨a1, a2, a3, a4, a5⟩ := h.b
  unfold f_Ke_access f_Mo_access
  simp only [zl, e0, zq_zx_id, zq_bd_id]
  rcases zq_zp_btw x2 (A := 0) (B := 3) (a := 0) (b := 3) rfl rfl (by omega) (by omega) with ⟨u, -, i2, rfl, i3, i4⟩ | ⟨i3, i4⟩
  · have hu : u < 4 := by omega
    rcases zq_zp_btw' x3 0 3 with ⟨j1, j2⟩ | ⟨j1, j2⟩
    · obtain ⟨-, y1, y2, y3, y4, y5, y6, -, -⟩ := h.us hu
      have y4' : gN_home σ u = gM_row ρ (1517 + 8 * u + 4) := y4
      have y5' : gN_directory σ u = gM_row ρ (1517 + 8 * u + 5) := y5
      rcases zq_zp_btw' x4 0 7 with ⟨w1, w2⟩ | ⟨w1, w2⟩
      · left
        rcases zq_gt_uthere h hu with ⟨u1, u2⟩ | ⟨u1, u2⟩
        · simp only [i3, i4, j1, j2, w2, u1, u2, Option.bind_some, zq_zp_10, if_false, zq_gt_homeOf σ hu, zq_gt_dirOf σ hu, y4', y5', zq_zp_of4 ρ hu, zq_zp_of5 ρ hu]
          rcases zq_zp_opRead h hc x1 (gM_row ρ (1517 + 8 * u + 4)) (gM_row ρ (1517 + 8 * u + 5)) x3 0 with ⟨v, τ, r, h1, g1, rfl, rfl, d, d1, d2, ed⟩ | ⟨k, w, hk, h1, g1⟩
          · have cr : gM_code (sM_row ρ (gM_row ρ)) = 0 := hc
            simp only [h1, g1, zq_zx_ok, Option.bind_some, cr, if_true]
            by_cases hv : v = 0
            · simp only [hv, if_true]
              exact zq_StepL.err 2 zq_k_2 0 σ.1 (gM_row ρ) ⟨_, _, _, h⟩ rfl rfl
            · simp only [hv, if_false]
              by_cases h5 : x5 = 0
              · simp only [h5, if_true]
                exact (zq_zp_opRead (σ := (σ.1, σ.2)) (ρ := sM_row ρ (gM_row ρ)) h cr x1 (gM_row ρ (1517 + 8 * u + 4)) v x4 x6).L ⟨_, _, _, h⟩ (fun _ τ r q => by rw [q.1, q.2.1]; exact ⟨_, _, _, h⟩)
              · simp only [h5, if_false]
                exact (zq_zp_opWrite (σ := (σ.1, σ.2)) (ρ := sM_row ρ (gM_row ρ)) h cr x1 (gM_row ρ (1517 + 8 * u + 4)) v x4 x6 h5).L ⟨_, _, _, h⟩ (fun _ τ r q => q)
          · simp only [h1, g1, zq_zx_err, Option.bind_some, zq_zp_code', zq_zp_kk hk, if_false]
            exact zq_StepL.err k hk 0 σ.1 (gM_row ρ) ⟨_, _, _, h⟩ rfl rfl
        · simp only [i3, i4, j1, j2, w2, u1, u2, Option.bind_some, zq_zp_10, if_false, if_true]
          exact zq_StepL.err 2 zq_k_2 0 σ.1 (gM_row ρ) ⟨_, _, _, h⟩ rfl rfl
      · right
        have rd : ∀ y1 y2 y3, f_Ke_read σ y1 y2 y3 x4 = some (.error 1, σ) := by
          intro y1 y2 y3
          unfold f_Ke_read f_Ke_needCell
          simp only [w1, Option.bind_some, if_true, zq_zx_err]
        have wr : ∀ y1 y2 y3, f_Ke_write σ y1 y2 y3 x4 x6 = some (.error 1, σ) := by
          intro y1 y2 y3
          unfold f_Ke_write f_Ke_needCell
          simp only [w1, Option.bind_some, if_true, zq_zx_err]
        rcases zq_gt_uthere h hu with ⟨u1, u2⟩ | ⟨u1, u2⟩
        · simp only [i3, i4, j1, j2, w2, u1, Option.bind_some, zq_zp_10, if_false, if_true, zq_gt_homeOf σ hu, zq_gt_dirOf σ hu, y4', y5']
          rcases zq_zp_opRead h hc x1 (gM_row ρ (1517 + 8 * u + 4)) (gM_row ρ (1517 + 8 * u + 5)) x3 0 with ⟨v, τ, r, h1, g1, rfl, rfl, d, d1, d2, ed⟩ | ⟨k, w, hk, h1, g1⟩
          · simp only [h1, zq_zx_ok]
            by_cases hv : v = 0
            · simp only [hv, if_true]
              exact ⟨2, zq_k_2, rfl, rfl⟩
            · simp only [hv, if_false]
              by_cases h5 : x5 = 0
              · simp only [h5, if_true]
                exact ⟨1, zq_k_1, rd _ _ _, rfl⟩
              · simp only [h5, if_false]
                exact ⟨1, zq_k_1, wr _ _ _, rfl⟩
          · simp only [h1, zq_zx_err]
            exact ⟨k, hk, rfl, rfl⟩
        · simp only [i3, i4, j1, j2, w2, u1, Option.bind_some, zq_zp_10, if_false, if_true]
          exact ⟨2, zq_k_2, rfl, rfl⟩
    · left
      simp only [i3, i4, j1, j2, Option.bind_some, zq_zp_10, if_false, if_true]
      exact zq_StepL.err 1 zq_k_1 0 σ.1 (gM_row ρ) ⟨_, _, _, h⟩ rfl rfl
  · left
    simp only [i3, i4, Option.bind_some, if_true]
    exact zq_StepL.err 1 zq_k_1 0 σ.1 (gM_row ρ) ⟨_, _, _, h⟩ rfl rfl
