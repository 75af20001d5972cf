abbrev SS : Type := (Nat → Int32) × Int32 × (Nat → Int32) × (Nat → Int32) × (Nat → Int32) × (Nat → Int32) × (Nat → Int32) × (Nat → Int32) × (Nat → Int32) × (Nat → Int32) × (Nat → Int32) × (Nat → Int32) × (Nat → Int32) × Int32 × (Nat → Int32) × (Nat → Int32) × (Nat → Int32) × (Nat → Int32) × (Nat → Int32) × (Nat → Int32) × (Nat → Int32) × Int32
def p_packed (σ : SS) : Nat → Int32 := σ.1
def q_packed (σ : SS) (x : Nat → Int32) : SS := (x, σ.2.1, σ.2.2.1, σ.2.2.2.1, σ.2.2.2.2.1, σ.2.2.2.2.2.1, σ.2.2.2.2.2.2.1, σ.2.2.2.2.2.2.2.1, σ.2.2.2.2.2.2.2.2.1, σ.2.2.2.2.2.2.2.2.2.1, σ.2.2.2.2.2.2.2.2.2.2.1, σ.2.2.2.2.2.2.2.2.2.2.2.1, σ.2.2.2.2.2.2.2.2.2.2.2.2.1, σ.2.2.2.2.2.2.2.2.2.2.2.2.2.1, σ.2.2.2.2.2.2.2.2.2.2.2.2.2.2.1, σ.2.2.2.2.2.2.2.2.2.2.2.2.2.2.2.1, σ.2.2.2.2.2.2.2.2.2.2.2.2.2.2.2.2.1, σ.2.2.2.2.2.2.2.2.2.2.2.2.2.2.2.2.2.1, σ.2.2.2.2.2.2.2.2.2.2.2.2.2.2.2.2.2.2.1, σ.2.2.2.2.2.2.2.2.2.2.2.2.2.2.2.2.2.2.2.1, σ.2.2.2.2.2.2.2.2.2.2.2.2.2.2.2.2.2.2.2.2.1, σ.2.2.2.2.2.2.2.2.2.2.2.2.2.2.2.2.2.2.2.2.2)
def p_size (σ : SS) : Int32 := σ.2.1
def q_size (σ : SS) (x : Int32) : SS := (σ.1, x, σ.2.2.1, σ.2.2.2.1, σ.2.2.2.2.1, σ.2.2.2.2.2.1, σ.2.2.2.2.2.2.1, σ.2.2.2.2.2.2.2.1, σ.2.2.2.2.2.2.2.2.1, σ.2.2.2.2.2.2.2.2.2.1, σ.2.2.2.2.2.2.2.2.2.2.1, σ.2.2.2.2.2.2.2.2.2.2.2.1, σ.2.2.2.2.2.2.2.2.2.2.2.2.1, σ.2.2.2.2.2.2.2.2.2.2.2.2.2.1, σ.2.2.2.2.2.2.2.2.2.2.2.2.2.2.1, σ.2.2.2.2.2.2.2.2.2.2.2.2.2.2.2.1, σ.2.2.2.2.2.2.2.2.2.2.2.2.2.2.2.2.1, σ.2.2.2.2.2.2.2.2.2.2.2.2.2.2.2.2.2.1, σ.2.2.2.2.2.2.2.2.2.2.2.2.2.2.2.2.2.2.1, σ.2.2.2.2.2.2.2.2.2.2.2.2.2.2.2.2.2.2.2.1, σ.2.2.2.2.2.2.2.2.2.2.2.2.2.2.2.2.2.2.2.2.1, σ.2.2.2.2.2.2.2.2.2.2.2.2.2.2.2.2.2.2.2.2.2)
def p_there (σ : SS) : Nat → Int32 := σ.2.2.1
def q_there (σ : SS) (x : Nat → Int32) : SS := (σ.1, σ.2.1, x, σ.2.2.2.1, σ.2.2.2.2.1, σ.2.2.2.2.2.1, σ.2.2.2.2.2.2.1, σ.2.2.2.2.2.2.2.1, σ.2.2.2.2.2.2.2.2.1, σ.2.2.2.2.2.2.2.2.2.1, σ.2.2.2.2.2.2.2.2.2.2.1, σ.2.2.2.2.2.2.2.2.2.2.2.1, σ.2.2.2.2.2.2.2.2.2.2.2.2.1, σ.2.2.2.2.2.2.2.2.2.2.2.2.2.1, σ.2.2.2.2.2.2.2.2.2.2.2.2.2.2.1, σ.2.2.2.2.2.2.2.2.2.2.2.2.2.2.2.1, σ.2.2.2.2.2.2.2.2.2.2.2.2.2.2.2.2.1, σ.2.2.2.2.2.2.2.2.2.2.2.2.2.2.2.2.2.1, σ.2.2.2.2.2.2.2.2.2.2.2.2.2.2.2.2.2.2.1, σ.2.2.2.2.2.2.2.2.2.2.2.2.2.2.2.2.2.2.2.1, σ.2.2.2.2.2.2.2.2.2.2.2.2.2.2.2.2.2.2.2.2.1, σ.2.2.2.2.2.2.2.2.2.2.2.2.2.2.2.2.2.2.2.2.2)
def p_kind (σ : SS) : Nat → Int32 := σ.2.2.2.1
def q_kind (σ : SS) (x : Nat → Int32) : SS := (σ.1, σ.2.1, σ.2.2.1, x, σ.2.2.2.2.1, σ.2.2.2.2.2.1, σ.2.2.2.2.2.2.1, σ.2.2.2.2.2.2.2.1, σ.2.2.2.2.2.2.2.2.1, σ.2.2.2.2.2.2.2.2.2.1, σ.2.2.2.2.2.2.2.2.2.2.1, σ.2.2.2.2.2.2.2.2.2.2.2.1, σ.2.2.2.2.2.2.2.2.2.2.2.2.1, σ.2.2.2.2.2.2.2.2.2.2.2.2.2.1, σ.2.2.2.2.2.2.2.2.2.2.2.2.2.2.1, σ.2.2.2.2.2.2.2.2.2.2.2.2.2.2.2.1, σ.2.2.2.2.2.2.2.2.2.2.2.2.2.2.2.2.1, σ.2.2.2.2.2.2.2.2.2.2.2.2.2.2.2.2.2.1, σ.2.2.2.2.2.2.2.2.2.2.2.2.2.2.2.2.2.2.1, σ.2.2.2.2.2.2.2.2.2.2.2.2.2.2.2.2.2.2.2.1, σ.2.2.2.2.2.2.2.2.2.2.2.2.2.2.2.2.2.2.2.2.1, σ.2.2.2.2.2.2.2.2.2.2.2.2.2.2.2.2.2.2.2.2.2)
def p_label (σ : SS) : Nat → Int32 := σ.2.2.2.2.1
def q_label (σ : SS) (x : Nat → Int32) : SS := (σ.1, σ.2.1, σ.2.2.1, σ.2.2.2.1, x, σ.2.2.2.2.2.1, σ.2.2.2.2.2.2.1, σ.2.2.2.2.2.2.2.1, σ.2.2.2.2.2.2.2.2.1, σ.2.2.2.2.2.2.2.2.2.1, σ.2.2.2.2.2.2.2.2.2.2.1, σ.2.2.2.2.2.2.2.2.2.2.2.1, σ.2.2.2.2.2.2.2.2.2.2.2.2.1, σ.2.2.2.2.2.2.2.2.2.2.2.2.2.1, σ.2.2.2.2.2.2.2.2.2.2.2.2.2.2.1, σ.2.2.2.2.2.2.2.2.2.2.2.2.2.2.2.1, σ.2.2.2.2.2.2.2.2.2.2.2.2.2.2.2.2.1, σ.2.2.2.2.2.2.2.2.2.2.2.2.2.2.2.2.2.1, σ.2.2.2.2.2.2.2.2.2.2.2.2.2.2.2.2.2.2.1, σ.2.2.2.2.2.2.2.2.2.2.2.2.2.2.2.2.2.2.2.1, σ.2.2.2.2.2.2.2.2.2.2.2.2.2.2.2.2.2.2.2.2.1, σ.2.2.2.2.2.2.2.2.2.2.2.2.2.2.2.2.2.2.2.2.2)
def p_quota (σ : SS) : Nat → Int32 := σ.2.2.2.2.2.1
def q_quota (σ : SS) (x : Nat → Int32) : SS := (σ.1, σ.2.1, σ.2.2.1, σ.2.2.2.1, σ.2.2.2.2.1, x, σ.2.2.2.2.2.2.1, σ.2.2.2.2.2.2.2.1, σ.2.2.2.2.2.2.2.2.1, σ.2.2.2.2.2.2.2.2.2.1, σ.2.2.2.2.2.2.2.2.2.2.1, σ.2.2.2.2.2.2.2.2.2.2.2.1, σ.2.2.2.2.2.2.2.2.2.2.2.2.1, σ.2.2.2.2.2.2.2.2.2.2.2.2.2.1, σ.2.2.2.2.2.2.2.2.2.2.2.2.2.2.1, σ.2.2.2.2.2.2.2.2.2.2.2.2.2.2.2.1, σ.2.2.2.2.2.2.2.2.2.2.2.2.2.2.2.2.1, σ.2.2.2.2.2.2.2.2.2.2.2.2.2.2.2.2.2.1, σ.2.2.2.2.2.2.2.2.2.2.2.2.2.2.2.2.2.2.1, σ.2.2.2.2.2.2.2.2.2.2.2.2.2.2.2.2.2.2.2.1, σ.2.2.2.2.2.2.2.2.2.2.2.2.2.2.2.2.2.2.2.2.1, σ.2.2.2.2.2.2.2.2.2.2.2.2.2.2.2.2.2.2.2.2.2)
def p_place (σ : SS) : Nat → Int32 := σ.2.2.2.2.2.2.1
def q_place (σ : SS) (x : Nat → Int32) : SS := (σ.1, σ.2.1, σ.2.2.1, σ.2.2.2.1, σ.2.2.2.2.1, σ.2.2.2.2.2.1, x, σ.2.2.2.2.2.2.2.1, σ.2.2.2.2.2.2.2.2.1, σ.2.2.2.2.2.2.2.2.2.1, σ.2.2.2.2.2.2.2.2.2.2.1, σ.2.2.2.2.2.2.2.2.2.2.2.1, σ.2.2.2.2.2.2.2.2.2.2.2.2.1, σ.2.2.2.2.2.2.2.2.2.2.2.2.2.1, σ.2.2.2.2.2.2.2.2.2.2.2.2.2.2.1, σ.2.2.2.2.2.2.2.2.2.2.2.2.2.2.2.1, σ.2.2.2.2.2.2.2.2.2.2.2.2.2.2.2.2.1, σ.2.2.2.2.2.2.2.2.2.2.2.2.2.2.2.2.2.1, σ.2.2.2.2.2.2.2.2.2.2.2.2.2.2.2.2.2.2.1, σ.2.2.2.2.2.2.2.2.2.2.2.2.2.2.2.2.2.2.2.1, σ.2.2.2.2.2.2.2.2.2.2.2.2.2.2.2.2.2.2.2.2.1, σ.2.2.2.2.2.2.2.2.2.2.2.2.2.2.2.2.2.2.2.2.2)
def p_depth (σ : SS) : Nat → Int32 := σ.2.2.2.2.2.2.2.1
def q_depth (σ : SS) (x : Nat → Int32) : SS := (σ.1, σ.2.1, σ.2.2.1, σ.2.2.2.1, σ.2.2.2.2.1, σ.2.2.2.2.2.1, σ.2.2.2.2.2.2.1, x, σ.2.2.2.2.2.2.2.2.1, σ.2.2.2.2.2.2.2.2.2.1, σ.2.2.2.2.2.2.2.2.2.2.1, σ.2.2.2.2.2.2.2.2.2.2.2.1, σ.2.2.2.2.2.2.2.2.2.2.2.2.1, σ.2.2.2.2.2.2.2.2.2.2.2.2.2.1, σ.2.2.2.2.2.2.2.2.2.2.2.2.2.2.1, σ.2.2.2.2.2.2.2.2.2.2.2.2.2.2.2.1, σ.2.2.2.2.2.2.2.2.2.2.2.2.2.2.2.2.1, σ.2.2.2.2.2.2.2.2.2.2.2.2.2.2.2.2.2.1, σ.2.2.2.2.2.2.2.2.2.2.2.2.2.2.2.2.2.2.1, σ.2.2.2.2.2.2.2.2.2.2.2.2.2.2.2.2.2.2.2.1, σ.2.2.2.2.2.2.2.2.2.2.2.2.2.2.2.2.2.2.2.2.1, σ.2.2.2.2.2.2.2.2.2.2.2.2.2.2.2.2.2.2.2.2.2)
def p_clearance (σ : SS) : Nat → Int32 := σ.2.2.2.2.2.2.2.2.1
def q_clearance (σ : SS) (x : Nat → Int32) : SS := (σ.1, σ.2.1, σ.2.2.1, σ.2.2.2.1, σ.2.2.2.2.1, σ.2.2.2.2.2.1, σ.2.2.2.2.2.2.1, σ.2.2.2.2.2.2.2.1, x, σ.2.2.2.2.2.2.2.2.2.1, σ.2.2.2.2.2.2.2.2.2.2.1, σ.2.2.2.2.2.2.2.2.2.2.2.1, σ.2.2.2.2.2.2.2.2.2.2.2.2.1, σ.2.2.2.2.2.2.2.2.2.2.2.2.2.1, σ.2.2.2.2.2.2.2.2.2.2.2.2.2.2.1, σ.2.2.2.2.2.2.2.2.2.2.2.2.2.2.2.1, σ.2.2.2.2.2.2.2.2.2.2.2.2.2.2.2.2.1, σ.2.2.2.2.2.2.2.2.2.2.2.2.2.2.2.2.2.1, σ.2.2.2.2.2.2.2.2.2.2.2.2.2.2.2.2.2.2.1, σ.2.2.2.2.2.2.2.2.2.2.2.2.2.2.2.2.2.2.2.1, σ.2.2.2.2.2.2.2.2.2.2.2.2.2.2.2.2.2.2.2.2.1, σ.2.2.2.2.2.2.2.2.2.2.2.2.2.2.2.2.2.2.2.2.2)
def p_guard (σ : SS) : Nat → Int32 := σ.2.2.2.2.2.2.2.2.2.1
def q_guard (σ : SS) (x : Nat → Int32) : SS := (σ.1, σ.2.1, σ.2.2.1, σ.2.2.2.1, σ.2.2.2.2.1, σ.2.2.2.2.2.1, σ.2.2.2.2.2.2.1, σ.2.2.2.2.2.2.2.1, σ.2.2.2.2.2.2.2.2.1, x, σ.2.2.2.2.2.2.2.2.2.2.1, σ.2.2.2.2.2.2.2.2.2.2.2.1, σ.2.2.2.2.2.2.2.2.2.2.2.2.1, σ.2.2.2.2.2.2.2.2.2.2.2.2.2.1, σ.2.2.2.2.2.2.2.2.2.2.2.2.2.2.1, σ.2.2.2.2.2.2.2.2.2.2.2.2.2.2.2.1, σ.2.2.2.2.2.2.2.2.2.2.2.2.2.2.2.2.1, σ.2.2.2.2.2.2.2.2.2.2.2.2.2.2.2.2.2.1, σ.2.2.2.2.2.2.2.2.2.2.2.2.2.2.2.2.2.2.1, σ.2.2.2.2.2.2.2.2.2.2.2.2.2.2.2.2.2.2.2.1, σ.2.2.2.2.2.2.2.2.2.2.2.2.2.2.2.2.2.2.2.2.1, σ.2.2.2.2.2.2.2.2.2.2.2.2.2.2.2.2.2.2.2.2.2)
def p_entry (σ : SS) : Nat → Int32 := σ.2.2.2.2.2.2.2.2.2.2.1
def q_entry (σ : SS) (x : Nat → Int32) : SS := (σ.1, σ.2.1, σ.2.2.1, σ.2.2.2.1, σ.2.2.2.2.1, σ.2.2.2.2.2.1, σ.2.2.2.2.2.2.1, σ.2.2.2.2.2.2.2.1, σ.2.2.2.2.2.2.2.2.1, σ.2.2.2.2.2.2.2.2.2.1, x, σ.2.2.2.2.2.2.2.2.2.2.2.1, σ.2.2.2.2.2.2.2.2.2.2.2.2.1, σ.2.2.2.2.2.2.2.2.2.2.2.2.2.1, σ.2.2.2.2.2.2.2.2.2.2.2.2.2.2.1, σ.2.2.2.2.2.2.2.2.2.2.2.2.2.2.2.1, σ.2.2.2.2.2.2.2.2.2.2.2.2.2.2.2.2.1, σ.2.2.2.2.2.2.2.2.2.2.2.2.2.2.2.2.2.1, σ.2.2.2.2.2.2.2.2.2.2.2.2.2.2.2.2.2.2.1, σ.2.2.2.2.2.2.2.2.2.2.2.2.2.2.2.2.2.2.2.1, σ.2.2.2.2.2.2.2.2.2.2.2.2.2.2.2.2.2.2.2.2.1, σ.2.2.2.2.2.2.2.2.2.2.2.2.2.2.2.2.2.2.2.2.2)
def p_cellCount (σ : SS) : Nat → Int32 := σ.2.2.2.2.2.2.2.2.2.2.2.1
def q_cellCount (σ : SS) (x : Nat → Int32) : SS := (σ.1, σ.2.1, σ.2.2.1, σ.2.2.2.1, σ.2.2.2.2.1, σ.2.2.2.2.2.1, σ.2.2.2.2.2.2.1, σ.2.2.2.2.2.2.2.1, σ.2.2.2.2.2.2.2.2.1, σ.2.2.2.2.2.2.2.2.2.1, σ.2.2.2.2.2.2.2.2.2.2.1, x, σ.2.2.2.2.2.2.2.2.2.2.2.2.1, σ.2.2.2.2.2.2.2.2.2.2.2.2.2.1, σ.2.2.2.2.2.2.2.2.2.2.2.2.2.2.1, σ.2.2.2.2.2.2.2.2.2.2.2.2.2.2.2.1, σ.2.2.2.2.2.2.2.2.2.2.2.2.2.2.2.2.1, σ.2.2.2.2.2.2.2.2.2.2.2.2.2.2.2.2.2.1, σ.2.2.2.2.2.2.2.2.2.2.2.2.2.2.2.2.2.2.1, σ.2.2.2.2.2.2.2.2.2.2.2.2.2.2.2.2.2.2.2.1, σ.2.2.2.2.2.2.2.2.2.2.2.2.2.2.2.2.2.2.2.2.1, σ.2.2.2.2.2.2.2.2.2.2.2.2.2.2.2.2.2.2.2.2.2)
def p_cells (σ : SS) : Nat → Int32 := σ.2.2.2.2.2.2.2.2.2.2.2.2.1
def q_cells (σ : SS) (x : Nat → Int32) : SS := (σ.1, σ.2.1, σ.2.2.1, σ.2.2.2.1, σ.2.2.2.2.1, σ.2.2.2.2.2.1, σ.2.2.2.2.2.2.1, σ.2.2.2.2.2.2.2.1, σ.2.2.2.2.2.2.2.2.1, σ.2.2.2.2.2.2.2.2.2.1, σ.2.2.2.2.2.2.2.2.2.2.1, σ.2.2.2.2.2.2.2.2.2.2.2.1, x, σ.2.2.2.2.2.2.2.2.2.2.2.2.2.1, σ.2.2.2.2.2.2.2.2.2.2.2.2.2.2.1, σ.2.2.2.2.2.2.2.2.2.2.2.2.2.2.2.1, σ.2.2.2.2.2.2.2.2.2.2.2.2.2.2.2.2.1, σ.2.2.2.2.2.2.2.2.2.2.2.2.2.2.2.2.2.1, σ.2.2.2.2.2.2.2.2.2.2.2.2.2.2.2.2.2.2.1, σ.2.2.2.2.2.2.2.2.2.2.2.2.2.2.2.2.2.2.2.1, σ.2.2.2.2.2.2.2.2.2.2.2.2.2.2.2.2.2.2.2.2.1, σ.2.2.2.2.2.2.2.2.2.2.2.2.2.2.2.2.2.2.2.2.2)
def p_made (σ : SS) : Int32 := σ.2.2.2.2.2.2.2.2.2.2.2.2.2.1
def q_made (σ : SS) (x : Int32) : SS := (σ.1, σ.2.1, σ.2.2.1, σ.2.2.2.1, σ.2.2.2.2.1, σ.2.2.2.2.2.1, σ.2.2.2.2.2.2.1, σ.2.2.2.2.2.2.2.1, σ.2.2.2.2.2.2.2.2.1, σ.2.2.2.2.2.2.2.2.2.1, σ.2.2.2.2.2.2.2.2.2.2.1, σ.2.2.2.2.2.2.2.2.2.2.2.1, σ.2.2.2.2.2.2.2.2.2.2.2.2.1, x, σ.2.2.2.2.2.2.2.2.2.2.2.2.2.2.1, σ.2.2.2.2.2.2.2.2.2.2.2.2.2.2.2.1, σ.2.2.2.2.2.2.2.2.2.2.2.2.2.2.2.2.1, σ.2.2.2.2.2.2.2.2.2.2.2.2.2.2.2.2.2.1, σ.2.2.2.2.2.2.2.2.2.2.2.2.2.2.2.2.2.2.1, σ.2.2.2.2.2.2.2.2.2.2.2.2.2.2.2.2.2.2.2.1, σ.2.2.2.2.2.2.2.2.2.2.2.2.2.2.2.2.2.2.2.2.1, σ.2.2.2.2.2.2.2.2.2.2.2.2.2.2.2.2.2.2.2.2.2)
def p_uthere (σ : SS) : Nat → Int32 := σ.2.2.2.2.2.2.2.2.2.2.2.2.2.2.1
def q_uthere (σ : SS) (x : Nat → Int32) : SS := (σ.1, σ.2.1, σ.2.2.1, σ.2.2.2.1, σ.2.2.2.2.1, σ.2.2.2.2.2.1, σ.2.2.2.2.2.2.1, σ.2.2.2.2.2.2.2.1, σ.2.2.2.2.2.2.2.2.1, σ.2.2.2.2.2.2.2.2.2.1, σ.2.2.2.2.2.2.2.2.2.2.1, σ.2.2.2.2.2.2.2.2.2.2.2.1, σ.2.2.2.2.2.2.2.2.2.2.2.2.1, σ.2.2.2.2.2.2.2.2.2.2.2.2.2.1, x, σ.2.2.2.2.2.2.2.2.2.2.2.2.2.2.2.1, σ.2.2.2.2.2.2.2.2.2.2.2.2.2.2.2.2.1, σ.2.2.2.2.2.2.2.2.2.2.2.2.2.2.2.2.2.1, σ.2.2.2.2.2.2.2.2.2.2.2.2.2.2.2.2.2.2.1, σ.2.2.2.2.2.2.2.2.2.2.2.2.2.2.2.2.2.2.2.1, σ.2.2.2.2.2.2.2.2.2.2.2.2.2.2.2.2.2.2.2.2.1, σ.2.2.2.2.2.2.2.2.2.2.2.2.2.2.2.2.2.2.2.2.2)
def p_password (σ : SS) : Nat → Int32 := σ.2.2.2.2.2.2.2.2.2.2.2.2.2.2.2.1
def q_password (σ : SS) (x : Nat → Int32) : SS := (σ.1, σ.2.1, σ.2.2.1, σ.2.2.2.1, σ.2.2.2.2.1, σ.2.2.2.2.2.1, σ.2.2.2.2.2.2.1, σ.2.2.2.2.2.2.2.1, σ.2.2.2.2.2.2.2.2.1, σ.2.2.2.2.2.2.2.2.2.1, σ.2.2.2.2.2.2.2.2.2.2.1, σ.2.2.2.2.2.2.2.2.2.2.2.1, σ.2.2.2.2.2.2.2.2.2.2.2.2.1, σ.2.2.2.2.2.2.2.2.2.2.2.2.2.1, σ.2.2.2.2.2.2.2.2.2.2.2.2.2.2.1, x, σ.2.2.2.2.2.2.2.2.2.2.2.2.2.2.2.2.1, σ.2.2.2.2.2.2.2.2.2.2.2.2.2.2.2.2.2.1, σ.2.2.2.2.2.2.2.2.2.2.2.2.2.2.2.2.2.2.1, σ.2.2.2.2.2.2.2.2.2.2.2.2.2.2.2.2.2.2.2.1, σ.2.2.2.2.2.2.2.2.2.2.2.2.2.2.2.2.2.2.2.2.1, σ.2.2.2.2.2.2.2.2.2.2.2.2.2.2.2.2.2.2.2.2.2)
def p_firstCategory (σ : SS) : Nat → Int32 := σ.2.2.2.2.2.2.2.2.2.2.2.2.2.2.2.2.1
def q_firstCategory (σ : SS) (x : Nat → Int32) : SS := (σ.1, σ.2.1, σ.2.2.1, σ.2.2.2.1, σ.2.2.2.2.1, σ.2.2.2.2.2.1, σ.2.2.2.2.2.2.1, σ.2.2.2.2.2.2.2.1, σ.2.2.2.2.2.2.2.2.1, σ.2.2.2.2.2.2.2.2.2.1, σ.2.2.2.2.2.2.2.2.2.2.1, σ.2.2.2.2.2.2.2.2.2.2.2.1, σ.2.2.2.2.2.2.2.2.2.2.2.2.1, σ.2.2.2.2.2.2.2.2.2.2.2.2.2.1, σ.2.2.2.2.2.2.2.2.2.2.2.2.2.2.1, σ.2.2.2.2.2.2.2.2.2.2.2.2.2.2.2.1, x, σ.2.2.2.2.2.2.2.2.2.2.2.2.2.2.2.2.2.1, σ.2.2.2.2.2.2.2.2.2.2.2.2.2.2.2.2.2.2.1, σ.2.2.2.2.2.2.2.2.2.2.2.2.2.2.2.2.2.2.2.1, σ.2.2.2.2.2.2.2.2.2.2.2.2.2.2.2.2.2.2.2.2.1, σ.2.2.2.2.2.2.2.2.2.2.2.2.2.2.2.2.2.2.2.2.2)
def p_secondCategory (σ : SS) : Nat → Int32 := σ.2.2.2.2.2.2.2.2.2.2.2.2.2.2.2.2.2.1
def q_secondCategory (σ : SS) (x : Nat → Int32) : SS := (σ.1, σ.2.1, σ.2.2.1, σ.2.2.2.1, σ.2.2.2.2.1, σ.2.2.2.2.2.1, σ.2.2.2.2.2.2.1, σ.2.2.2.2.2.2.2.1, σ.2.2.2.2.2.2.2.2.1, σ.2.2.2.2.2.2.2.2.2.1, σ.2.2.2.2.2.2.2.2.2.2.1, σ.2.2.2.2.2.2.2.2.2.2.2.1, σ.2.2.2.2.2.2.2.2.2.2.2.2.1, σ.2.2.2.2.2.2.2.2.2.2.2.2.2.1, σ.2.2.2.2.2.2.2.2.2.2.2.2.2.2.1, σ.2.2.2.2.2.2.2.2.2.2.2.2.2.2.2.1, σ.2.2.2.2.2.2.2.2.2.2.2.2.2.2.2.2.1, x, σ.2.2.2.2.2.2.2.2.2.2.2.2.2.2.2.2.2.2.1, σ.2.2.2.2.2.2.2.2.2.2.2.2.2.2.2.2.2.2.2.1, σ.2.2.2.2.2.2.2.2.2.2.2.2.2.2.2.2.2.2.2.2.1, σ.2.2.2.2.2.2.2.2.2.2.2.2.2.2.2.2.2.2.2.2.2)
def p_home (σ : SS) : Nat → Int32 := σ.2.2.2.2.2.2.2.2.2.2.2.2.2.2.2.2.2.2.1
def q_home (σ : SS) (x : Nat → Int32) : SS := (σ.1, σ.2.1, σ.2.2.1, σ.2.2.2.1, σ.2.2.2.2.1, σ.2.2.2.2.2.1, σ.2.2.2.2.2.2.1, σ.2.2.2.2.2.2.2.1, σ.2.2.2.2.2.2.2.2.1, σ.2.2.2.2.2.2.2.2.2.1, σ.2.2.2.2.2.2.2.2.2.2.1, σ.2.2.2.2.2.2.2.2.2.2.2.1, σ.2.2.2.2.2.2.2.2.2.2.2.2.1, σ.2.2.2.2.2.2.2.2.2.2.2.2.2.1, σ.2.2.2.2.2.2.2.2.2.2.2.2.2.2.1, σ.2.2.2.2.2.2.2.2.2.2.2.2.2.2.2.1, σ.2.2.2.2.2.2.2.2.2.2.2.2.2.2.2.2.1, σ.2.2.2.2.2.2.2.2.2.2.2.2.2.2.2.2.2.1, x, σ.2.2.2.2.2.2.2.2.2.2.2.2.2.2.2.2.2.2.2.1, σ.2.2.2.2.2.2.2.2.2.2.2.2.2.2.2.2.2.2.2.2.1, σ.2.2.2.2.2.2.2.2.2.2.2.2.2.2.2.2.2.2.2.2.2)
def p_directory (σ : SS) : Nat → Int32 := σ.2.2.2.2.2.2.2.2.2.2.2.2.2.2.2.2.2.2.2.1
def q_directory (σ : SS) (x : Nat → Int32) : SS := (σ.1, σ.2.1, σ.2.2.1, σ.2.2.2.1, σ.2.2.2.2.1, σ.2.2.2.2.2.1, σ.2.2.2.2.2.2.1, σ.2.2.2.2.2.2.2.1, σ.2.2.2.2.2.2.2.2.1, σ.2.2.2.2.2.2.2.2.2.1, σ.2.2.2.2.2.2.2.2.2.2.1, σ.2.2.2.2.2.2.2.2.2.2.2.1, σ.2.2.2.2.2.2.2.2.2.2.2.2.1, σ.2.2.2.2.2.2.2.2.2.2.2.2.2.1, σ.2.2.2.2.2.2.2.2.2.2.2.2.2.2.1, σ.2.2.2.2.2.2.2.2.2.2.2.2.2.2.2.1, σ.2.2.2.2.2.2.2.2.2.2.2.2.2.2.2.2.1, σ.2.2.2.2.2.2.2.2.2.2.2.2.2.2.2.2.2.1, σ.2.2.2.2.2.2.2.2.2.2.2.2.2.2.2.2.2.2.1, x, σ.2.2.2.2.2.2.2.2.2.2.2.2.2.2.2.2.2.2.2.2.1, σ.2.2.2.2.2.2.2.2.2.2.2.2.2.2.2.2.2.2.2.2.2)
def p_gate (σ : SS) : Nat → Int32 := σ.2.2.2.2.2.2.2.2.2.2.2.2.2.2.2.2.2.2.2.2.1
def q_gate (σ : SS) (x : Nat → Int32) : SS := (σ.1, σ.2.1, σ.2.2.1, σ.2.2.2.1, σ.2.2.2.2.1, σ.2.2.2.2.2.1, σ.2.2.2.2.2.2.1, σ.2.2.2.2.2.2.2.1, σ.2.2.2.2.2.2.2.2.1, σ.2.2.2.2.2.2.2.2.2.1, σ.2.2.2.2.2.2.2.2.2.2.1, σ.2.2.2.2.2.2.2.2.2.2.2.1, σ.2.2.2.2.2.2.2.2.2.2.2.2.1, σ.2.2.2.2.2.2.2.2.2.2.2.2.2.1, σ.2.2.2.2.2.2.2.2.2.2.2.2.2.2.1, σ.2.2.2.2.2.2.2.2.2.2.2.2.2.2.2.1, σ.2.2.2.2.2.2.2.2.2.2.2.2.2.2.2.2.1, σ.2.2.2.2.2.2.2.2.2.2.2.2.2.2.2.2.2.1, σ.2.2.2.2.2.2.2.2.2.2.2.2.2.2.2.2.2.2.1, σ.2.2.2.2.2.2.2.2.2.2.2.2.2.2.2.2.2.2.2.1, x, σ.2.2.2.2.2.2.2.2.2.2.2.2.2.2.2.2.2.2.2.2.2)
def p_categories (σ : SS) : Int32 := σ.2.2.2.2.2.2.2.2.2.2.2.2.2.2.2.2.2.2.2.2.2
def q_categories (σ : SS) (x : Int32) : SS := (σ.1, σ.2.1, σ.2.2.1, σ.2.2.2.1, σ.2.2.2.2.1, σ.2.2.2.2.2.1, σ.2.2.2.2.2.2.1, σ.2.2.2.2.2.2.2.1, σ.2.2.2.2.2.2.2.2.1, σ.2.2.2.2.2.2.2.2.2.1, σ.2.2.2.2.2.2.2.2.2.2.1, σ.2.2.2.2.2.2.2.2.2.2.2.1, σ.2.2.2.2.2.2.2.2.2.2.2.2.1, σ.2.2.2.2.2.2.2.2.2.2.2.2.2.1, σ.2.2.2.2.2.2.2.2.2.2.2.2.2.2.1, σ.2.2.2.2.2.2.2.2.2.2.2.2.2.2.2.1, σ.2.2.2.2.2.2.2.2.2.2.2.2.2.2.2.2.1, σ.2.2.2.2.2.2.2.2.2.2.2.2.2.2.2.2.2.1, σ.2.2.2.2.2.2.2.2.2.2.2.2.2.2.2.2.2.2.1, σ.2.2.2.2.2.2.2.2.2.2.2.2.2.2.2.2.2.2.2.1, σ.2.2.2.2.2.2.2.2.2.2.2.2.2.2.2.2.2.2.2.2.1, x)
abbrev KS : Type := SS × SS
def gN_packed (σ : KS) : Nat → Int32 := p_packed σ.1
def sN_packed (σ : KS) (x : Nat → Int32) : KS := (q_packed σ.1 x, σ.2)
def gK_packed (σ : KS) : Nat → Int32 := p_packed σ.2
def sK_packed (σ : KS) (x : Nat → Int32) : KS := (σ.1, q_packed σ.2 x)
def gN_size (σ : KS) : Int32 := p_size σ.1
def sN_size (σ : KS) (x : Int32) : KS := (q_size σ.1 x, σ.2)
def gK_size (σ : KS) : Int32 := p_size σ.2
def sK_size (σ : KS) (x : Int32) : KS := (σ.1, q_size σ.2 x)
def gN_there (σ : KS) : Nat → Int32 := p_there σ.1
def sN_there (σ : KS) (x : Nat → Int32) : KS := (q_there σ.1 x, σ.2)
def gK_there (σ : KS) : Nat → Int32 := p_there σ.2
def sK_there (σ : KS) (x : Nat → Int32) : KS := (σ.1, q_there σ.2 x)
def gN_kind (σ : KS) : Nat → Int32 := p_kind σ.1
def sN_kind (σ : KS) (x : Nat → Int32) : KS := (q_kind σ.1 x, σ.2)
def gK_kind (σ : KS) : Nat → Int32 := p_kind σ.2
def sK_kind (σ : KS) (x : Nat → Int32) : KS := (σ.1, q_kind σ.2 x)
def gN_label (σ : KS) : Nat → Int32 := p_label σ.1
def sN_label (σ : KS) (x : Nat → Int32) : KS := (q_label σ.1 x, σ.2)
def gK_label (σ : KS) : Nat → Int32 := p_label σ.2
def sK_label (σ : KS) (x : Nat → Int32) : KS := (σ.1, q_label σ.2 x)
def gN_quota (σ : KS) : Nat → Int32 := p_quota σ.1
def sN_quota (σ : KS) (x : Nat → Int32) : KS := (q_quota σ.1 x, σ.2)
def gK_quota (σ : KS) : Nat → Int32 := p_quota σ.2
def sK_quota (σ : KS) (x : Nat → Int32) : KS := (σ.1, q_quota σ.2 x)
def gN_place (σ : KS) : Nat → Int32 := p_place σ.1
def sN_place (σ : KS) (x : Nat → Int32) : KS := (q_place σ.1 x, σ.2)
def gK_place (σ : KS) : Nat → Int32 := p_place σ.2
def sK_place (σ : KS) (x : Nat → Int32) : KS := (σ.1, q_place σ.2 x)
def gN_depth (σ : KS) : Nat → Int32 := p_depth σ.1
def sN_depth (σ : KS) (x : Nat → Int32) : KS := (q_depth σ.1 x, σ.2)
def gK_depth (σ : KS) : Nat → Int32 := p_depth σ.2
def sK_depth (σ : KS) (x : Nat → Int32) : KS := (σ.1, q_depth σ.2 x)
def gN_clearance (σ : KS) : Nat → Int32 := p_clearance σ.1
def sN_clearance (σ : KS) (x : Nat → Int32) : KS := (q_clearance σ.1 x, σ.2)
def gK_clearance (σ : KS) : Nat → Int32 := p_clearance σ.2
def sK_clearance (σ : KS) (x : Nat → Int32) : KS := (σ.1, q_clearance σ.2 x)
def gN_guard (σ : KS) : Nat → Int32 := p_guard σ.1
def sN_guard (σ : KS) (x : Nat → Int32) : KS := (q_guard σ.1 x, σ.2)
def gK_guard (σ : KS) : Nat → Int32 := p_guard σ.2
def sK_guard (σ : KS) (x : Nat → Int32) : KS := (σ.1, q_guard σ.2 x)
def gN_entry (σ : KS) : Nat → Int32 := p_entry σ.1
def sN_entry (σ : KS) (x : Nat → Int32) : KS := (q_entry σ.1 x, σ.2)
def gK_entry (σ : KS) : Nat → Int32 := p_entry σ.2
def sK_entry (σ : KS) (x : Nat → Int32) : KS := (σ.1, q_entry σ.2 x)
def gN_cellCount (σ : KS) : Nat → Int32 := p_cellCount σ.1
def sN_cellCount (σ : KS) (x : Nat → Int32) : KS := (q_cellCount σ.1 x, σ.2)
def gK_cellCount (σ : KS) : Nat → Int32 := p_cellCount σ.2
def sK_cellCount (σ : KS) (x : Nat → Int32) : KS := (σ.1, q_cellCount σ.2 x)
def gN_cells (σ : KS) : Nat → Int32 := p_cells σ.1
def sN_cells (σ : KS) (x : Nat → Int32) : KS := (q_cells σ.1 x, σ.2)
def gK_cells (σ : KS) : Nat → Int32 := p_cells σ.2
def sK_cells (σ : KS) (x : Nat → Int32) : KS := (σ.1, q_cells σ.2 x)
def gN_made (σ : KS) : Int32 := p_made σ.1
def sN_made (σ : KS) (x : Int32) : KS := (q_made σ.1 x, σ.2)
def gK_made (σ : KS) : Int32 := p_made σ.2
def sK_made (σ : KS) (x : Int32) : KS := (σ.1, q_made σ.2 x)
def gN_uthere (σ : KS) : Nat → Int32 := p_uthere σ.1
def sN_uthere (σ : KS) (x : Nat → Int32) : KS := (q_uthere σ.1 x, σ.2)
def gK_uthere (σ : KS) : Nat → Int32 := p_uthere σ.2
def sK_uthere (σ : KS) (x : Nat → Int32) : KS := (σ.1, q_uthere σ.2 x)
def gN_password (σ : KS) : Nat → Int32 := p_password σ.1
def sN_password (σ : KS) (x : Nat → Int32) : KS := (q_password σ.1 x, σ.2)
def gK_password (σ : KS) : Nat → Int32 := p_password σ.2
def sK_password (σ : KS) (x : Nat → Int32) : KS := (σ.1, q_password σ.2 x)
def gN_firstCategory (σ : KS) : Nat → Int32 := p_firstCategory σ.1
def sN_firstCategory (σ : KS) (x : Nat → Int32) : KS := (q_firstCategory σ.1 x, σ.2)
def gK_firstCategory (σ : KS) : Nat → Int32 := p_firstCategory σ.2
def sK_firstCategory (σ : KS) (x : Nat → Int32) : KS := (σ.1, q_firstCategory σ.2 x)
def gN_secondCategory (σ : KS) : Nat → Int32 := p_secondCategory σ.1
def sN_secondCategory (σ : KS) (x : Nat → Int32) : KS := (q_secondCategory σ.1 x, σ.2)
def gK_secondCategory (σ : KS) : Nat → Int32 := p_secondCategory σ.2
def sK_secondCategory (σ : KS) (x : Nat → Int32) : KS := (σ.1, q_secondCategory σ.2 x)
def gN_home (σ : KS) : Nat → Int32 := p_home σ.1
def sN_home (σ : KS) (x : Nat → Int32) : KS := (q_home σ.1 x, σ.2)
def gK_home (σ : KS) : Nat → Int32 := p_home σ.2
def sK_home (σ : KS) (x : Nat → Int32) : KS := (σ.1, q_home σ.2 x)
def gN_directory (σ : KS) : Nat → Int32 := p_directory σ.1
def sN_directory (σ : KS) (x : Nat → Int32) : KS := (q_directory σ.1 x, σ.2)
def gK_directory (σ : KS) : Nat → Int32 := p_directory σ.2
def sK_directory (σ : KS) (x : Nat → Int32) : KS := (σ.1, q_directory σ.2 x)
def gN_gate (σ : KS) : Nat → Int32 := p_gate σ.1
def sN_gate (σ : KS) (x : Nat → Int32) : KS := (q_gate σ.1 x, σ.2)
def gK_gate (σ : KS) : Nat → Int32 := p_gate σ.2
def sK_gate (σ : KS) (x : Nat → Int32) : KS := (σ.1, q_gate σ.2 x)
def gN_categories (σ : KS) : Int32 := p_categories σ.1
def sN_categories (σ : KS) (x : Int32) : KS := (q_categories σ.1 x, σ.2)
def gK_categories (σ : KS) : Int32 := p_categories σ.2
def sK_categories (σ : KS) (x : Int32) : KS := (σ.1, q_categories σ.2 x)
def GL (A : Nat → Nat) (σ : KS) : va_W := [(A 0, .inr (4, [.ref (A 1), .ref (A 24), .ref (A 2), .ref (A 4), .ref (A 16)])),
  (A 1, .inr (1, [.ref (A 2), .ref (A 4), .ref (A 16), .int (gN_categories σ)])),
  (A 2, .inr (0, [.ref (A 3), .int (gN_size σ)])),
  (A 3, .inl (A 900, 60, .inl (gN_packed σ))),
  (A 4, .inr (2, [.ref (A 5), .ref (A 6), .ref (A 7), .ref (A 8), .ref (A 9), .ref (A 10), .ref (A 11), .ref (A 12), .ref (A 13), .ref (A 14), .ref (A 15), .int (gN_made σ)])),
  (A 5, .inl (A 901, 61, .inl (gN_there σ))),
  (A 6, .inl (A 900, 61, .inl (gN_kind σ))),
  (A 7, .inl (A 900, 61, .inl (gN_label σ))),
  (A 8, .inl (A 900, 61, .inl (gN_quota σ))),
  (A 9, .inl (A 900, 61, .inl (gN_place σ))),
  (A 10, .inl (A 900, 61, .inl (gN_depth σ))),
  (A 11, .inl (A 900, 61, .inl (gN_clearance σ))),
  (A 12, .inl (A 900, 61, .inl (gN_guard σ))),
  (A 13, .inl (A 900, 61, .inl (gN_entry σ))),
  (A 14, .inl (A 900, 61, .inl (gN_cellCount σ))),
  (A 15, .inl (A 900, 488, .inl (gN_cells σ))),
  (A 16, .inr (3, [.ref (A 17), .ref (A 18), .ref (A 19), .ref (A 20), .ref (A 21), .ref (A 22), .ref (A 23)])),
  (A 17, .inl (A 901, 4, .inl (gN_uthere σ))),
  (A 18, .inl (A 900, 4, .inl (gN_password σ))),
  (A 19, .inl (A 900, 4, .inl (gN_firstCategory σ))),
  (A 20, .inl (A 900, 4, .inl (gN_secondCategory σ))),
  (A 21, .inl (A 900, 4, .inl (gN_home σ))),
  (A 22, .inl (A 900, 4, .inl (gN_directory σ))),
  (A 23, .inl (A 900, 4, .inl (gN_gate σ))),
  (A 24, .inr (1, [.ref (A 25), .ref (A 27), .ref (A 39), .int (gK_categories σ)])),
  (A 25, .inr (0, [.ref (A 26), .int (gK_size σ)])),
  (A 26, .inl (A 900, 60, .inl (gK_packed σ))),
  (A 27, .inr (2, [.ref (A 28), .ref (A 29), .ref (A 30), .ref (A 31), .ref (A 32), .ref (A 33), .ref (A 34), .ref (A 35), .ref (A 36), .ref (A 37), .ref (A 38), .int (gK_made σ)])),
  (A 28, .inl (A 901, 61, .inl (gK_there σ))),
  (A 29, .inl (A 900, 61, .inl (gK_kind σ))),
  (A 30, .inl (A 900, 61, .inl (gK_label σ))),
  (A 31, .inl (A 900, 61, .inl (gK_quota σ))),
  (A 32, .inl (A 900, 61, .inl (gK_place σ))),
  (A 33, .inl (A 900, 61, .inl (gK_depth σ))),
  (A 34, .inl (A 900, 61, .inl (gK_clearance σ))),
  (A 35, .inl (A 900, 61, .inl (gK_guard σ))),
  (A 36, .inl (A 900, 61, .inl (gK_entry σ))),
  (A 37, .inl (A 900, 61, .inl (gK_cellCount σ))),
  (A 38, .inl (A 900, 488, .inl (gK_cells σ))),
  (A 39, .inr (3, [.ref (A 40), .ref (A 41), .ref (A 42), .ref (A 43), .ref (A 44), .ref (A 45), .ref (A 46)])),
  (A 40, .inl (A 901, 4, .inl (gK_uthere σ))),
  (A 41, .inl (A 900, 4, .inl (gK_password σ))),
  (A 42, .inl (A 900, 4, .inl (gK_firstCategory σ))),
  (A 43, .inl (A 900, 4, .inl (gK_secondCategory σ))),
  (A 44, .inl (A 900, 4, .inl (gK_home σ))),
  (A 45, .inl (A 900, 4, .inl (gK_directory σ))),
  (A 46, .inl (A 900, 4, .inl (gK_gate σ)))]
def GW (A : Nat → Nat) (σ : KS) (r : va_W) : va_W := GL A σ ++ r
set_option maxRecDepth 100000 in
theorem ka_h1_IllegalArgumentException : ∀ w ∈ (vx_at0 R_Ke 270 "java/lang/IllegalArgumentException" ["java/lang/RuntimeException", "java/lang/Exception"]).filter goodWord, w ∈ T0 := by decide +kernel
set_option maxRecDepth 100000 in
theorem ka_h2_IllegalArgumentException : ∀ w ∈ (vx_at0 R_Ke 270 "java/lang/IllegalArgumentException" ["java/lang/RuntimeException", "java/lang/Exception"]).filter (fun w => !goodWord w), w ∈ ka_NB := by decide +kernel
theorem ka_hat_IllegalArgumentException {args : Array Value} {s : State} (hts : ∀ w ∈ T0, w.before args s = true) (hN : ka_N s) : ∀ w ∈ vx_at0 R_Ke 270 "java/lang/IllegalArgumentException" ["java/lang/RuntimeException", "java/lang/Exception"], w.before args s = true := vx_hat (fun w h => hts w (ka_h1_IllegalArgumentException w h)) ka_h2_IllegalArgumentException hN.use
set_option maxRecDepth 100000 in
theorem ka_hg_IllegalArgumentException : ∀ w ∈ Cond.classLink R_Ke 268 "java/lang/IllegalArgumentException" :: Cond.initialized "java/lang/IllegalArgumentException" :: vx_at0 R_Ke 270 "java/lang/IllegalArgumentException" ["java/lang/RuntimeException", "java/lang/Exception"], vx_ot w = true := by decide +kernel
set_option maxRecDepth 100000 in
theorem ka_h1_NoSuchElementException : ∀ w ∈ (vx_at0 R_Ke 273 "java/util/NoSuchElementException" ["java/lang/RuntimeException", "java/lang/Exception"]).filter goodWord, w ∈ T0 := by decide +kernel
set_option maxRecDepth 100000 in
theorem ka_h2_NoSuchElementException : ∀ w ∈ (vx_at0 R_Ke 273 "java/util/NoSuchElementException" ["java/lang/RuntimeException", "java/lang/Exception"]).filter (fun w => !goodWord w), w ∈ ka_NB := by decide +kernel
theorem ka_hat_NoSuchElementException {args : Array Value} {s : State} (hts : ∀ w ∈ T0, w.before args s = true) (hN : ka_N s) : ∀ w ∈ vx_at0 R_Ke 273 "java/util/NoSuchElementException" ["java/lang/RuntimeException", "java/lang/Exception"], w.before args s = true := vx_hat (fun w h => hts w (ka_h1_NoSuchElementException w h)) ka_h2_NoSuchElementException hN.use
set_option maxRecDepth 100000 in
theorem ka_hg_NoSuchElementException : ∀ w ∈ Cond.classLink R_Ke 271 "java/util/NoSuchElementException" :: Cond.initialized "java/util/NoSuchElementException" :: vx_at0 R_Ke 273 "java/util/NoSuchElementException" ["java/lang/RuntimeException", "java/lang/Exception"], vx_ot w = true := by decide +kernel
set_option maxRecDepth 100000 in
theorem ka_h1_UnsupportedOperationException : ∀ w ∈ (vx_at0 R_Ke 276 "java/lang/UnsupportedOperationException" ["java/lang/RuntimeException", "java/lang/Exception"]).filter goodWord, w ∈ T0 := by decide +kernel
set_option maxRecDepth 100000 in
theorem ka_h2_UnsupportedOperationException : ∀ w ∈ (vx_at0 R_Ke 276 "java/lang/UnsupportedOperationException" ["java/lang/RuntimeException", "java/lang/Exception"]).filter (fun w => !goodWord w), w ∈ ka_NB := by decide +kernel
theorem ka_hat_UnsupportedOperationException {args : Array Value} {s : State} (hts : ∀ w ∈ T0, w.before args s = true) (hN : ka_N s) : ∀ w ∈ vx_at0 R_Ke 276 "java/lang/UnsupportedOperationException" ["java/lang/RuntimeException", "java/lang/Exception"], w.before args s = true := vx_hat (fun w h => hts w (ka_h1_UnsupportedOperationException w h)) ka_h2_UnsupportedOperationException hN.use
set_option maxRecDepth 100000 in
theorem ka_hg_UnsupportedOperationException : ∀ w ∈ Cond.classLink R_Ke 274 "java/lang/UnsupportedOperationException" :: Cond.initialized "java/lang/UnsupportedOperationException" :: vx_at0 R_Ke 276 "java/lang/UnsupportedOperationException" ["java/lang/RuntimeException", "java/lang/Exception"], vx_ot w = true := by decide +kernel
set_option maxRecDepth 100000 in
theorem ka_h1_IllegalStateException : ∀ w ∈ (vx_at0 R_Ke 279 "java/lang/IllegalStateException" ["java/lang/RuntimeException", "java/lang/Exception"]).filter goodWord, w ∈ T0 := by decide +kernel
set_option maxRecDepth 100000 in
theorem ka_h2_IllegalStateException : ∀ w ∈ (vx_at0 R_Ke 279 "java/lang/IllegalStateException" ["java/lang/RuntimeException", "java/lang/Exception"]).filter (fun w => !goodWord w), w ∈ ka_NB := by decide +kernel
theorem ka_hat_IllegalStateException {args : Array Value} {s : State} (hts : ∀ w ∈ T0, w.before args s = true) (hN : ka_N s) : ∀ w ∈ vx_at0 R_Ke 279 "java/lang/IllegalStateException" ["java/lang/RuntimeException", "java/lang/Exception"], w.before args s = true := vx_hat (fun w h => hts w (ka_h1_IllegalStateException w h)) ka_h2_IllegalStateException hN.use
set_option maxRecDepth 100000 in
theorem ka_hg_IllegalStateException : ∀ w ∈ Cond.classLink R_Ke 277 "java/lang/IllegalStateException" :: Cond.initialized "java/lang/IllegalStateException" :: vx_at0 R_Ke 279 "java/lang/IllegalStateException" ["java/lang/RuntimeException", "java/lang/Exception"], vx_ot w = true := by decide +kernel
