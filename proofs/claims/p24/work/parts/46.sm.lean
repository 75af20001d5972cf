theorem zq_sm_II : sm_all zq_II := by
  intro σ ρ h
  refine ⟨fun x1 x2 x3 => (zq_ss_label h x1 x2 x3).u, fun x1 x2 => (zq_ss_level h x1 x2).u, fun x1 x2 x3 => (zq_ss_fits h x1 x2 x3).u, fun x1 => (zq_ss_category h x1).u, fun x1 x2 x3 x4 => (zq_ss_container h x1 x2 x3 x4).u, fun x1 x2 x3 x4 => (zq_ss_segment h x1 x2 x3 x4).u, fun x1 x2 x3 x4 x5 => (zq_ss_gate h x1 x2 x3 x4 x5).u, fun x1 x2 x3 x4 => (zq_ss_thread h x1 x2 x3 x4).u, fun x1 x2 x3 x4 => (zq_ss_read h x1 x2 x3 x4).u, fun x1 x2 x3 x4 x5 => (zq_ss_write h x1 x2 x3 x4 x5).u, fun x1 x2 x3 x4 => (zq_ss_move h x1 x2 x3 x4).u, fun x1 x2 x3 => (zq_ss_drop h x1 x2 x3).u, fun x1 x2 => (zq_ss_become h x1 x2).u, fun x1 x2 => (zq_ss_lower h x1 x2).u, fun x1 x2 x3 x4 x5 => (zq_ss_enter h x1 x2 x3 x4 x5).u, fun x1 x2 x3 => (zq_ss_user h x1 x2 x3).u, fun x1 x2 x3 => (zq_ss_login h x1 x2 x3).u, fun x1 x2 x3 x4 => (zq_ss_file h x1 x2 x3 x4).u, fun x1 x2 x3 x4 x5 x6 => zq_ss_access h x1 x2 x3 x4 x5 x6, ?_, ?_, fun x1 x2 => (zq_ss_object h x1 x2).u, fun x1 x2 => zq_ss_in h x1 x2, fun x1 => ?_⟩
  · obtain ⟨v, z, q1, q2, q4, -, q3⟩ := zq_ss_snapshot h
    exact ⟨v, z, q1, q2, q3⟩
  · obtain ⟨v, z, q1, q2, q4, -, q3⟩ := zq_ss_crash h
    exact ⟨v, z, q1, q2, q3⟩
  · obtain ⟨v, z, q1, q2, q4, -, q3⟩ := zq_ss_count h x1
    exact ⟨v, z, q1, q2, q3⟩
