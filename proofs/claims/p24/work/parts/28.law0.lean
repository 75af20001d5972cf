/-! the law's world: class, out, reference; either side may come first -/
theorem kp_P {D : va_G} {w w' : va_W} {H : Heap} (hp : w.Perm w') (h : va_P D vwCl w H) : va_P D vwCl w' H := by
  intro k q hk
  have hm : q ∈ w := hp.mem_iff.mpr (List.mem_of_getElem? hk)
  obtain ⟨i, hi⟩ := List.getElem?_of_mem hm
  exact h i q hi
theorem kp_nd {A9 : Nat → Prop} {w : va_W} (h : va_D A9 w) : (w.map Prod.fst).Nodup := by
  rw [List.nodup_iff_pairwise_ne, List.pairwise_iff_getElem]
  intro i j hi hj hij e
  rw [List.length_map] at hi hj
  rw [List.getElem_map, List.getElem_map] at e
  have := h.1 i j w[i] w[j] (List.getElem?_eq_getElem hi) (List.getElem?_eq_getElem hj) e
  omega
theorem kp_D {A9 : Nat → Prop} {w w' : va_W} (hp : w.Perm w') (h : va_D A9 w) : va_D A9 w' := by
  have hn : (w'.map Prod.fst).Nodup := (hp.map Prod.fst).nodup_iff.mp (kp_nd h)
  refine ⟨fun i j p q hi hj e => ?_, fun k q hk => ?_⟩
  · obtain ⟨hi1, hi2⟩ := List.getElem?_eq_some_iff.mp hi
    obtain ⟨hj1, hj2⟩ := List.getElem?_eq_some_iff.mp hj
    rw [List.nodup_iff_pairwise_ne, List.pairwise_iff_getElem] at hn
    rcases Nat.lt_trichotomy i j with h1 | h1 | h1
    · exact absurd (by rw [List.getElem_map, List.getElem_map, hi2, hj2]; exact e) (hn i j (by rw [List.length_map]; exact hi1) (by rw [List.length_map]; exact hj1) h1)
    · exact h1
    · exact absurd (by rw [List.getElem_map, List.getElem_map, hi2, hj2]; exact e.symm) (hn j i (by rw [List.length_map]; exact hj1) (by rw [List.length_map]; exact hi1) h1)
  · have hm : q ∈ w := hp.mem_iff.mpr (List.mem_of_getElem? hk)
    obtain ⟨i, hi⟩ := List.getElem?_of_mem hm
    exact h.2 i q hi
/-- class first, and reference first -/
abbrev kp_C (A : Nat → Nat) (σ : KS) (ρ : RS) (f : Nat → Int64) : va_W := GW A σ (ka_oc A f :: MW A ρ [])
abbrev kp_R (A : Nat → Nat) (σ : KS) (ρ : RS) (f : Nat → Int64) : va_W := MW A ρ (GW A σ [ka_oc A f])
theorem kp_perm (A : Nat → Nat) (σ : KS) (ρ : RS) (f : Nat → Int64) : (kp_C A σ ρ f).Perm (kp_R A σ ρ f) := by
  show (GL A σ ++ (ka_oc A f :: (ML A ρ ++ []))).Perm (ML A ρ ++ (GL A σ ++ [ka_oc A f]))
  rw [List.append_nil]
  have h1 : (GL A σ ++ (ka_oc A f :: ML A ρ)) = (GL A σ ++ [ka_oc A f]) ++ ML A ρ := by simp
  rw [h1]
  exact List.perm_append_comm
