/-- the words that stay: every method of mine asks for its own code and for these -/
def T0 : List Cond := lw_tbl.filter goodWord
theorem T0_good : ∀ w ∈ T0, goodWord w = true := fun w h => (List.mem_filter.mp h).2
theorem T0_in : ∀ w ∈ T0, w ∈ lw_tbl := fun w h => (List.mem_filter.mp h).1
theorem tw_t {w : Cond} (i : Nat) (h : tables_1[i]? = some w) (g : goodWord w = true) : w ∈ T0 := List.mem_filter.mpr ⟨List.mem_append_right _ (List.mem_of_getElem? h), g⟩
theorem tw_1 {w : Cond} (i : Nat) (h : tables_1_1[i]? = some w) (g : goodWord w = true) : w ∈ T0 := List.mem_filter.mpr ⟨List.mem_append_right _ (List.mem_append_left _ (List.mem_of_getElem? h)), g⟩
theorem tw_2 {w : Cond} (i : Nat) (h : tables_1_2[i]? = some w) (g : goodWord w = true) : w ∈ T0 := List.mem_filter.mpr ⟨List.mem_append_right _ (List.mem_append_right _ (List.mem_append_left _ (List.mem_of_getElem? h))), g⟩
theorem tw_3 {w : Cond} (i : Nat) (h : tables_1_3[i]? = some w) (g : goodWord w = true) : w ∈ T0 := List.mem_filter.mpr ⟨List.mem_append_right _ (List.mem_append_right _ (List.mem_append_right _ (List.mem_append_left _ (List.mem_of_getElem? h)))), g⟩
theorem tw_4 {w : Cond} (i : Nat) (h : tables_1_4[i]? = some w) (g : goodWord w = true) : w ∈ T0 := List.mem_filter.mpr ⟨List.mem_append_right _ (List.mem_append_right _ (List.mem_append_right _ (List.mem_append_right _ (List.mem_append_left _ (List.mem_of_getElem? h))))), g⟩
theorem tw_5 {w : Cond} (i : Nat) (h : tables_1_5[i]? = some w) (g : goodWord w = true) : w ∈ T0 := List.mem_filter.mpr ⟨List.mem_append_right _ (List.mem_append_right _ (List.mem_append_right _ (List.mem_append_right _ (List.mem_append_right _ ((List.mem_of_getElem? h)))))), g⟩
theorem tw_s {w : Cond} (i : Nat) (h : (k2_sels lw_privs)[i]? = some w) (g : goodWord w = true) : w ∈ T0 := List.mem_filter.mpr ⟨List.mem_append_left _ (List.mem_of_getElem? h), g⟩
set_option maxRecDepth 20000 in
theorem wi_La : (Cond.initialized R_La) ∈ T0 := tw_1 0 rfl rfl
set_option maxRecDepth 20000 in
theorem wi_Ke : (Cond.initialized R_Ke) ∈ T0 := tw_1 1 rfl rfl
set_option maxRecDepth 20000 in
theorem wi_Sn : (Cond.initialized R_Sn) ∈ T0 := tw_1 2 rfl rfl
set_option maxRecDepth 20000 in
theorem wi_Lb : (Cond.initialized R_Lb) ∈ T0 := tw_1 3 rfl rfl
set_option maxRecDepth 20000 in
theorem wi_Tg : (Cond.initialized R_Tg) ∈ T0 := tw_1 4 rfl rfl
set_option maxRecDepth 20000 in
theorem wi_Us : (Cond.initialized R_Us) ∈ T0 := tw_1 5 rfl rfl
set_option maxRecDepth 20000 in
theorem wi_Mo : (Cond.initialized R_Mo) ∈ T0 := tw_1 6 rfl rfl
set_option maxRecDepth 20000 in
theorem wi_Throwable : (Cond.initialized "java/lang/Throwable") ∈ T0 := tw_1 7 rfl rfl
set_option maxRecDepth 20000 in
theorem wi_Exception : (Cond.initialized "java/lang/Exception") ∈ T0 := tw_1 8 rfl rfl
set_option maxRecDepth 20000 in
theorem wi_RuntimeException : (Cond.initialized "java/lang/RuntimeException") ∈ T0 := tw_1 9 rfl rfl
set_option maxRecDepth 20000 in
theorem wi_IllegalArgumentException : (Cond.initialized "java/lang/IllegalArgumentException") ∈ T0 := tw_1 10 rfl rfl
set_option maxRecDepth 20000 in
theorem wi_IllegalStateException : (Cond.initialized "java/lang/IllegalStateException") ∈ T0 := tw_1 11 rfl rfl
set_option maxRecDepth 20000 in
theorem wi_NoSuchElementException : (Cond.initialized "java/util/NoSuchElementException") ∈ T0 := tw_1 12 rfl rfl
set_option maxRecDepth 20000 in
theorem wi_UnsupportedOperationException : (Cond.initialized "java/lang/UnsupportedOperationException") ∈ T0 := tw_1 13 rfl rfl
set_option maxRecDepth 20000 in
theorem wi_System : (Cond.initialized "java/lang/System") ∈ T0 := tw_1 14 rfl rfl
set_option maxRecDepth 20000 in
theorem wc_La_8 : (Cond.classLink R_La 8 R_Ke) ∈ T0 := tw_1 15 rfl rfl
set_option maxRecDepth 20000 in
theorem wn_Ke : (Cond.instantiable R_Ke 5) ∈ T0 := tw_1 16 rfl rfl
set_option maxRecDepth 20000 in
theorem wl_La_87 : (Cond.methodLink R_La 87 y_Ke_init) ∈ T0 := tw_1 17 rfl rfl
set_option maxRecDepth 20000 in
theorem wm_Ke_init : (Cond.instanceMethod y_Ke_init) ∈ T0 := tw_1 18 rfl rfl
set_option maxRecDepth 20000 in
theorem wo_Ke_init : (Cond.code y_Ke_init b_Ke_init 1 none) ∈ T0 := tw_1 19 rfl rfl
set_option maxRecDepth 20000 in
theorem wl_Ke_1 : (Cond.methodLink R_Ke 1 ⟨"java/lang/Object", "<init>", "()V"⟩) ∈ T0 := tw_1 20 rfl rfl
set_option maxRecDepth 20000 in
theorem wm_obj : (Cond.instanceMethod objectInit) ∈ T0 := tw_1 21 rfl rfl
set_option maxRecDepth 20000 in
theorem wo_obj : (Cond.code objectInit ⟨#[0xb1]⟩ 1 none) ∈ T0 := tw_1 22 rfl rfl
set_option maxRecDepth 20000 in
theorem wc_Ke_7 : (Cond.classLink R_Ke 7 R_Sn) ∈ T0 := tw_1 23 rfl rfl
set_option maxRecDepth 20000 in
theorem wn_Sn : (Cond.instantiable R_Sn 4) ∈ T0 := tw_1 24 rfl rfl
set_option maxRecDepth 20000 in
theorem wm_Sn_init : (Cond.instanceMethod y_Sn_init) ∈ T0 := tw_1 26 rfl rfl
set_option maxRecDepth 20000 in
theorem wo_Sn_init : (Cond.code y_Sn_init b_Sn_init 1 none) ∈ T0 := tw_1 27 rfl rfl
set_option maxRecDepth 20000 in
theorem wl_Sn_1 : (Cond.methodLink R_Sn 1 ⟨"java/lang/Object", "<init>", "()V"⟩) ∈ T0 := tw_1 28 rfl rfl
set_option maxRecDepth 20000 in
theorem wc_Sn_7 : (Cond.classLink R_Sn 7 R_Lb) ∈ T0 := tw_1 29 rfl rfl
set_option maxRecDepth 20000 in
theorem wn_Lb : (Cond.instantiable R_Lb 2) ∈ T0 := tw_1 30 rfl rfl
set_option maxRecDepth 20000 in
theorem wl_Sn_9 : (Cond.methodLink R_Sn 9 y_Lb_init) ∈ T0 := tw_1 31 rfl rfl
set_option maxRecDepth 20000 in
theorem wm_Lb_init : (Cond.instanceMethod y_Lb_init) ∈ T0 := tw_1 32 rfl rfl
set_option maxRecDepth 20000 in
theorem wo_Lb_init : (Cond.code y_Lb_init b_Lb_init 1 none) ∈ T0 := tw_1 33 rfl rfl
set_option maxRecDepth 20000 in
theorem wl_Lb_3 : (Cond.methodLink R_Lb 3 ⟨"java/lang/Object", "<init>", "()V"⟩) ∈ T0 := tw_1 34 rfl rfl
set_option maxRecDepth 20000 in
theorem wk_Lb_15 : (Cond.constant R_Lb 15 286331153) ∈ T0 := tw_1 35 rfl rfl
set_option maxRecDepth 20000 in
theorem wk_Lb_16 : (Cond.constant R_Lb 16 572662306) ∈ T0 := tw_1 36 rfl rfl
set_option maxRecDepth 20000 in
theorem wf_Lb_9 : (Cond.fieldLink R_Lb 9 "LabelKernel$Labels" "packed" "[I") ∈ T0 := tw_1 37 rfl rfl
set_option maxRecDepth 20000 in
theorem wf_Lb_17 : (Cond.fieldLink R_Lb 17 "LabelKernel$Labels" "size" "I") ∈ T0 := tw_1 38 rfl rfl
set_option maxRecDepth 20000 in
theorem wa_int : (Cond.arrayClass .int) ∈ T0 := tw_1 44 rfl rfl
set_option maxRecDepth 20000 in
theorem wc_Sn_16 : (Cond.classLink R_Sn 16 R_Tg) ∈ T0 := tw_1 45 rfl rfl
set_option maxRecDepth 20000 in
theorem wn_Tg : (Cond.instantiable R_Tg 12) ∈ T0 := tw_1 46 rfl rfl
set_option maxRecDepth 20000 in
theorem wl_Sn_18 : (Cond.methodLink R_Sn 18 y_Tg_init) ∈ T0 := tw_1 47 rfl rfl
set_option maxRecDepth 20000 in
theorem wm_Tg_init : (Cond.instanceMethod y_Tg_init) ∈ T0 := tw_1 48 rfl rfl
set_option maxRecDepth 20000 in
theorem wo_Tg_init : (Cond.code y_Tg_init b_Tg_init 2 none) ∈ T0 := tw_1 49 rfl rfl
set_option maxRecDepth 20000 in
theorem wl_Tg_3 : (Cond.methodLink R_Tg 3 ⟨"java/lang/Object", "<init>", "()V"⟩) ∈ T0 := tw_1 50 rfl rfl
set_option maxRecDepth 20000 in
theorem wl_Tg_50 : (Cond.methodLink R_Tg 50 y_Tg_add) ∈ T0 := tw_1 51 rfl rfl
set_option maxRecDepth 20000 in
theorem wm_Tg_add : (Cond.instanceMethod y_Tg_add) ∈ T0 := tw_1 52 rfl rfl
set_option maxRecDepth 20000 in
theorem we_Tg_add : (Cond.selects R_Tg y_Tg_add y_Tg_add) ∈ T0 := tw_1 53 rfl rfl
set_option maxRecDepth 20000 in
theorem wo_Tg_add : (Cond.code y_Tg_add b_Tg_add 6 (some .int)) ∈ T0 := tw_1 54 rfl rfl
set_option maxRecDepth 20000 in
theorem wl_Tg_54 : (Cond.methodLink R_Tg 54 y_Tg_setClearance) ∈ T0 := tw_1 55 rfl rfl
set_option maxRecDepth 20000 in
theorem wm_Tg_setClearance : (Cond.instanceMethod y_Tg_setClearance) ∈ T0 := tw_1 56 rfl rfl
set_option maxRecDepth 20000 in
theorem we_Tg_setClearance : (Cond.selects R_Tg y_Tg_setClearance y_Tg_setClearance) ∈ T0 := tw_1 57 rfl rfl
set_option maxRecDepth 20000 in
theorem wo_Tg_setClearance : (Cond.code y_Tg_setClearance b_Tg_setClearance 3 none) ∈ T0 := tw_1 58 rfl rfl
set_option maxRecDepth 20000 in
theorem wf_Tg_9 : (Cond.fieldLink R_Tg 9 "LabelKernel$Things" "there" "[Z") ∈ T0 := tw_1 59 rfl rfl
set_option maxRecDepth 20000 in
theorem wf_Tg_15 : (Cond.fieldLink R_Tg 15 "LabelKernel$Things" "kind" "[I") ∈ T0 := tw_1 60 rfl rfl
set_option maxRecDepth 20000 in
theorem wf_Tg_19 : (Cond.fieldLink R_Tg 19 "LabelKernel$Things" "label" "[I") ∈ T0 := tw_1 61 rfl rfl
set_option maxRecDepth 20000 in
theorem wf_Tg_22 : (Cond.fieldLink R_Tg 22 "LabelKernel$Things" "quota" "[I") ∈ T0 := tw_1 62 rfl rfl
set_option maxRecDepth 20000 in
theorem wf_Tg_25 : (Cond.fieldLink R_Tg 25 "LabelKernel$Things" "place" "[I") ∈ T0 := tw_1 63 rfl rfl
set_option maxRecDepth 20000 in
theorem wf_Tg_28 : (Cond.fieldLink R_Tg 28 "LabelKernel$Things" "depth" "[I") ∈ T0 := tw_1 64 rfl rfl
set_option maxRecDepth 20000 in
theorem wf_Tg_31 : (Cond.fieldLink R_Tg 31 "LabelKernel$Things" "clearance" "[I") ∈ T0 := tw_1 65 rfl rfl
set_option maxRecDepth 20000 in
theorem wf_Tg_34 : (Cond.fieldLink R_Tg 34 "LabelKernel$Things" "guard" "[I") ∈ T0 := tw_1 66 rfl rfl
set_option maxRecDepth 20000 in
theorem wf_Tg_37 : (Cond.fieldLink R_Tg 37 "LabelKernel$Things" "entry" "[I") ∈ T0 := tw_1 67 rfl rfl
set_option maxRecDepth 20000 in
theorem wf_Tg_40 : (Cond.fieldLink R_Tg 40 "LabelKernel$Things" "cellCount" "[I") ∈ T0 := tw_1 68 rfl rfl
set_option maxRecDepth 20000 in
theorem wf_Tg_43 : (Cond.fieldLink R_Tg 43 "LabelKernel$Things" "cells" "[I") ∈ T0 := tw_1 69 rfl rfl
set_option maxRecDepth 20000 in
theorem wf_Tg_46 : (Cond.fieldLink R_Tg 46 "LabelKernel$Things" "made" "I") ∈ T0 := tw_1 70 rfl rfl
set_option maxRecDepth 20000 in
theorem wa_boolean : (Cond.arrayClass .boolean) ∈ T0 := tw_1 96 rfl rfl
set_option maxRecDepth 20000 in
theorem wc_Sn_23 : (Cond.classLink R_Sn 23 R_Us) ∈ T0 := tw_1 97 rfl rfl
set_option maxRecDepth 20000 in
theorem wn_Us : (Cond.instantiable R_Us 7) ∈ T0 := tw_1 98 rfl rfl
set_option maxRecDepth 20000 in
theorem wm_Us_init : (Cond.instanceMethod y_Us_init) ∈ T0 := tw_1 100 rfl rfl
set_option maxRecDepth 20000 in
theorem wo_Us_init : (Cond.code y_Us_init b_Us_init 1 none) ∈ T0 := tw_1 101 rfl rfl
set_option maxRecDepth 20000 in
theorem wl_Us_3 : (Cond.methodLink R_Us 3 ⟨"java/lang/Object", "<init>", "()V"⟩) ∈ T0 := tw_1 102 rfl rfl
set_option maxRecDepth 20000 in
theorem wf_Us_9 : (Cond.fieldLink R_Us 9 "LabelKernel$Users" "there" "[Z") ∈ T0 := tw_1 103 rfl rfl
set_option maxRecDepth 20000 in
theorem wf_Us_15 : (Cond.fieldLink R_Us 15 "LabelKernel$Users" "password" "[I") ∈ T0 := tw_1 104 rfl rfl
set_option maxRecDepth 20000 in
theorem wf_Us_19 : (Cond.fieldLink R_Us 19 "LabelKernel$Users" "firstCategory" "[I") ∈ T0 := tw_1 105 rfl rfl
set_option maxRecDepth 20000 in
theorem wf_Us_22 : (Cond.fieldLink R_Us 22 "LabelKernel$Users" "secondCategory" "[I") ∈ T0 := tw_1 106 rfl rfl
set_option maxRecDepth 20000 in
theorem wf_Us_25 : (Cond.fieldLink R_Us 25 "LabelKernel$Users" "home" "[I") ∈ T0 := tw_1 107 rfl rfl
set_option maxRecDepth 20000 in
theorem wf_Us_28 : (Cond.fieldLink R_Us 28 "LabelKernel$Users" "directory" "[I") ∈ T0 := tw_1 108 rfl rfl
set_option maxRecDepth 20000 in
theorem wf_Us_31 : (Cond.fieldLink R_Us 31 "LabelKernel$Users" "gate" "[I") ∈ T0 := tw_1 109 rfl rfl
set_option maxRecDepth 20000 in
theorem wf_Sn_10 : (Cond.fieldLink R_Sn 10 "LabelKernel$State" "labels" "LLabelKernel$Labels;") ∈ T0 := tw_1 125 rfl rfl
set_option maxRecDepth 20000 in
theorem wf_Ke_19 : (Cond.fieldLink R_Ke 19 "LabelKernel$State" "labels" "LLabelKernel$Labels;") ∈ T0 := tw_1 126 rfl rfl
set_option maxRecDepth 20000 in
theorem wf_Sn_19 : (Cond.fieldLink R_Sn 19 "LabelKernel$State" "things" "LLabelKernel$Things;") ∈ T0 := tw_1 127 rfl rfl
set_option maxRecDepth 20000 in
theorem wf_Ke_24 : (Cond.fieldLink R_Ke 24 "LabelKernel$State" "things" "LLabelKernel$Things;") ∈ T0 := tw_1 128 rfl rfl
set_option maxRecDepth 20000 in
theorem wf_Sn_26 : (Cond.fieldLink R_Sn 26 "LabelKernel$State" "users" "LLabelKernel$Users;") ∈ T0 := tw_1 129 rfl rfl
set_option maxRecDepth 20000 in
theorem wf_Ke_29 : (Cond.fieldLink R_Ke 29 "LabelKernel$State" "users" "LLabelKernel$Users;") ∈ T0 := tw_1 130 rfl rfl
set_option maxRecDepth 20000 in
theorem wf_Sn_30 : (Cond.fieldLink R_Sn 30 "LabelKernel$State" "categories" "I") ∈ T0 := tw_1 131 rfl rfl
set_option maxRecDepth 20000 in
theorem wf_Ke_81 : (Cond.fieldLink R_Ke 81 "LabelKernel$State" "categories" "I") ∈ T0 := tw_1 132 rfl rfl
set_option maxRecDepth 20000 in
theorem wf_Ke_10 : (Cond.fieldLink R_Ke 10 "LabelKernel" "now" "LLabelKernel$State;") ∈ T0 := tw_1 142 rfl rfl
set_option maxRecDepth 20000 in
theorem wf_Ke_16 : (Cond.fieldLink R_Ke 16 "LabelKernel" "kept" "LLabelKernel$State;") ∈ T0 := tw_1 143 rfl rfl
set_option maxRecDepth 20000 in
theorem wf_Ke_23 : (Cond.fieldLink R_Ke 23 "LabelKernel" "labels" "LLabelKernel$Labels;") ∈ T0 := tw_1 144 rfl rfl
set_option maxRecDepth 20000 in
theorem wf_Ke_28 : (Cond.fieldLink R_Ke 28 "LabelKernel" "things" "LLabelKernel$Things;") ∈ T0 := tw_1 145 rfl rfl
set_option maxRecDepth 20000 in
theorem wf_Ke_33 : (Cond.fieldLink R_Ke 33 "LabelKernel" "users" "LLabelKernel$Users;") ∈ T0 := tw_1 146 rfl rfl
set_option maxRecDepth 20000 in
theorem wl_La_157 : (Cond.methodLink R_La 157 y_Ke_snapshot) ∈ T0 := tw_1 158 rfl rfl
set_option maxRecDepth 20000 in
theorem wm_Ke_snapshot : (Cond.instanceMethod y_Ke_snapshot) ∈ T0 := tw_1 159 rfl rfl
set_option maxRecDepth 20000 in
theorem we_Ke_snapshot : (Cond.selects R_Ke y_Ke_snapshot y_Ke_snapshot) ∈ T0 := tw_1 160 rfl rfl
set_option maxRecDepth 20000 in
theorem wo_Ke_snapshot : (Cond.code y_Ke_snapshot b_Ke_snapshot 1 (some .int)) ∈ T0 := tw_1 161 rfl rfl
set_option maxRecDepth 20000 in
theorem wl_Ke_243 : (Cond.methodLink R_Ke 243 y_Sn_takeFrom) ∈ T0 := tw_1 162 rfl rfl
set_option maxRecDepth 20000 in
theorem wm_Sn_takeFrom : (Cond.instanceMethod y_Sn_takeFrom) ∈ T0 := tw_1 163 rfl rfl
set_option maxRecDepth 20000 in
theorem we_Sn_takeFrom : (Cond.selects R_Sn y_Sn_takeFrom y_Sn_takeFrom) ∈ T0 := tw_1 164 rfl rfl
set_option maxRecDepth 20000 in
theorem wo_Sn_takeFrom : (Cond.code y_Sn_takeFrom b_Sn_takeFrom 2 none) ∈ T0 := tw_1 165 rfl rfl
set_option maxRecDepth 20000 in
theorem wl_Sn_34 : (Cond.methodLink R_Sn 34 y_Lb_takeFrom) ∈ T0 := tw_1 166 rfl rfl
set_option maxRecDepth 20000 in
theorem wm_Lb_takeFrom : (Cond.instanceMethod y_Lb_takeFrom) ∈ T0 := tw_1 167 rfl rfl
set_option maxRecDepth 20000 in
theorem we_Lb_takeFrom : (Cond.selects R_Lb y_Lb_takeFrom y_Lb_takeFrom) ∈ T0 := tw_1 168 rfl rfl
set_option maxRecDepth 20000 in
theorem wo_Lb_takeFrom : (Cond.code y_Lb_takeFrom b_Lb_takeFrom 2 none) ∈ T0 := tw_1 169 rfl rfl
set_option maxRecDepth 20000 in
theorem wl_Lb_21 : (Cond.methodLink R_Lb 21 ⟨"java/lang/System", "arraycopy", "(Ljava/lang/Object;ILjava/lang/Object;II)V"⟩) ∈ T0 := tw_1 170 rfl rfl
set_option maxRecDepth 20000 in
theorem ws_copy : (Cond.static arraycopyName) ∈ T0 := tw_1 171 rfl rfl
set_option maxRecDepth 20000 in
theorem wv_copy : (Cond.native arraycopyName) ∈ T0 := tw_1 172 rfl rfl
set_option maxRecDepth 20000 in
theorem wl_Sn_38 : (Cond.methodLink R_Sn 38 y_Tg_takeFrom) ∈ T0 := tw_1 173 rfl rfl
set_option maxRecDepth 20000 in
theorem wm_Tg_takeFrom : (Cond.instanceMethod y_Tg_takeFrom) ∈ T0 := tw_1 174 rfl rfl
set_option maxRecDepth 20000 in
theorem we_Tg_takeFrom : (Cond.selects R_Tg y_Tg_takeFrom y_Tg_takeFrom) ∈ T0 := tw_1 175 rfl rfl
set_option maxRecDepth 20000 in
theorem wo_Tg_takeFrom : (Cond.code y_Tg_takeFrom b_Tg_takeFrom 2 none) ∈ T0 := tw_1 176 rfl rfl
set_option maxRecDepth 20000 in
theorem wl_Tg_58 : (Cond.methodLink R_Tg 58 ⟨"java/lang/System", "arraycopy", "(Ljava/lang/Object;ILjava/lang/Object;II)V"⟩) ∈ T0 := tw_1 177 rfl rfl
set_option maxRecDepth 20000 in
theorem wl_Sn_41 : (Cond.methodLink R_Sn 41 y_Us_takeFrom) ∈ T0 := tw_1 178 rfl rfl
set_option maxRecDepth 20000 in
theorem wm_Us_takeFrom : (Cond.instanceMethod y_Us_takeFrom) ∈ T0 := tw_1 179 rfl rfl
set_option maxRecDepth 20000 in
theorem we_Us_takeFrom : (Cond.selects R_Us y_Us_takeFrom y_Us_takeFrom) ∈ T0 := tw_1 180 rfl rfl
set_option maxRecDepth 20000 in
theorem wo_Us_takeFrom : (Cond.code y_Us_takeFrom b_Us_takeFrom 2 none) ∈ T0 := tw_1 181 rfl rfl
set_option maxRecDepth 20000 in
theorem wl_Us_34 : (Cond.methodLink R_Us 34 ⟨"java/lang/System", "arraycopy", "(Ljava/lang/Object;ILjava/lang/Object;II)V"⟩) ∈ T0 := tw_1 182 rfl rfl
set_option maxRecDepth 20000 in
theorem wl_Ke_247 : (Cond.methodLink R_Ke 247 y_Tg_howMany) ∈ T0 := tw_1 183 rfl rfl
set_option maxRecDepth 20000 in
theorem wm_Tg_howMany : (Cond.instanceMethod y_Tg_howMany) ∈ T0 := tw_1 184 rfl rfl
set_option maxRecDepth 20000 in
theorem we_Tg_howMany : (Cond.selects R_Tg y_Tg_howMany y_Tg_howMany) ∈ T0 := tw_1 185 rfl rfl
set_option maxRecDepth 20000 in
theorem wo_Tg_howMany : (Cond.code y_Tg_howMany b_Tg_howMany 3 (some .int)) ∈ T0 := tw_1 186 rfl rfl
set_option maxRecDepth 20000 in
theorem wl_La_162 : (Cond.methodLink R_La 162 y_Ke_crash) ∈ T0 := tw_1 187 rfl rfl
set_option maxRecDepth 20000 in
theorem wm_Ke_crash : (Cond.instanceMethod y_Ke_crash) ∈ T0 := tw_1 188 rfl rfl
set_option maxRecDepth 20000 in
theorem we_Ke_crash : (Cond.selects R_Ke y_Ke_crash y_Ke_crash) ∈ T0 := tw_1 189 rfl rfl
set_option maxRecDepth 20000 in
theorem wo_Ke_crash : (Cond.code y_Ke_crash b_Ke_crash 1 (some .int)) ∈ T0 := tw_1 190 rfl rfl
set_option maxRecDepth 20000 in
theorem wl_La_175 : (Cond.methodLink R_La 175 y_Ke_count) ∈ T0 := tw_1 191 rfl rfl
set_option maxRecDepth 20000 in
theorem wm_Ke_count : (Cond.instanceMethod y_Ke_count) ∈ T0 := tw_1 192 rfl rfl
set_option maxRecDepth 20000 in
theorem we_Ke_count : (Cond.selects R_Ke y_Ke_count y_Ke_count) ∈ T0 := tw_1 193 rfl rfl
set_option maxRecDepth 20000 in
theorem wo_Ke_count : (Cond.code y_Ke_count b_Ke_count 2 (some .int)) ∈ T0 := tw_1 194 rfl rfl
set_option maxRecDepth 20000 in
theorem wl_Ke_263 : (Cond.methodLink R_Ke 263 y_Lb_howMany) ∈ T0 := tw_1 195 rfl rfl
set_option maxRecDepth 20000 in
theorem wm_Lb_howMany : (Cond.instanceMethod y_Lb_howMany) ∈ T0 := tw_1 196 rfl rfl
set_option maxRecDepth 20000 in
theorem we_Lb_howMany : (Cond.selects R_Lb y_Lb_howMany y_Lb_howMany) ∈ T0 := tw_1 197 rfl rfl
set_option maxRecDepth 20000 in
theorem wo_Lb_howMany : (Cond.code y_Lb_howMany b_Lb_howMany 1 (some .int)) ∈ T0 := tw_1 198 rfl rfl
set_option maxRecDepth 20000 in
theorem wl_Ke_264 : (Cond.methodLink R_Ke 264 y_Us_howMany) ∈ T0 := tw_1 199 rfl rfl
set_option maxRecDepth 20000 in
theorem wm_Us_howMany : (Cond.instanceMethod y_Us_howMany) ∈ T0 := tw_1 200 rfl rfl
set_option maxRecDepth 20000 in
theorem we_Us_howMany : (Cond.selects R_Us y_Us_howMany y_Us_howMany) ∈ T0 := tw_1 201 rfl rfl
set_option maxRecDepth 20000 in
theorem wo_Us_howMany : (Cond.code y_Us_howMany b_Us_howMany 3 (some .int)) ∈ T0 := tw_1 202 rfl rfl
set_option maxRecDepth 20000 in
theorem wl_La_91 : (Cond.methodLink R_La 91 y_La_label) ∈ T0 := tw_1 203 rfl rfl
set_option maxRecDepth 20000 in
theorem ws_La_label : (Cond.static y_La_label) ∈ T0 := tw_1 204 rfl rfl
abbrev hh_La_label : List (Nat × Nat × Nat × Nat) := [(0, 12, 15, 13), (0, 12, 19, 15), (0, 12, 23, 17), (0, 12, 27, 19)]
set_option maxRecDepth 20000 in
theorem wo_La_label : (Cond.codeWith y_La_label b_La_label 6 (some .int) hh_La_label) ∈ T0 := tw_1 205 rfl rfl
set_option maxRecDepth 20000 in
theorem wc_La_13 : (Cond.classLink R_La 13 "java/lang/IllegalArgumentException") ∈ T0 := tw_1 206 rfl rfl
set_option maxRecDepth 20000 in
theorem wc_La_15 : (Cond.classLink R_La 15 "java/util/NoSuchElementException") ∈ T0 := tw_1 207 rfl rfl
set_option maxRecDepth 20000 in
theorem wc_La_17 : (Cond.classLink R_La 17 "java/lang/UnsupportedOperationException") ∈ T0 := tw_1 208 rfl rfl
set_option maxRecDepth 20000 in
theorem wc_La_19 : (Cond.classLink R_La 19 "java/lang/IllegalStateException") ∈ T0 := tw_1 209 rfl rfl
set_option maxRecDepth 20000 in
theorem wl_La_7 : (Cond.methodLink R_La 7 y_Ke_label) ∈ T0 := tw_1 210 rfl rfl
set_option maxRecDepth 20000 in
theorem wm_Ke_label : (Cond.instanceMethod y_Ke_label) ∈ T0 := tw_1 211 rfl rfl
set_option maxRecDepth 20000 in
theorem we_Ke_label : (Cond.selects R_Ke y_Ke_label y_Ke_label) ∈ T0 := tw_1 212 rfl rfl
set_option maxRecDepth 20000 in
theorem wo_Ke_label : (Cond.code y_Ke_label b_Ke_label 5 (some .int)) ∈ T0 := tw_1 213 rfl rfl
set_option maxRecDepth 20000 in
theorem wl_Ke_34 : (Cond.methodLink R_Ke 34 y_Lb_has) ∈ T0 := tw_1 214 rfl rfl
set_option maxRecDepth 20000 in
theorem wm_Lb_has : (Cond.instanceMethod y_Lb_has) ∈ T0 := tw_1 215 rfl rfl
set_option maxRecDepth 20000 in
theorem we_Lb_has : (Cond.selects R_Lb y_Lb_has y_Lb_has) ∈ T0 := tw_1 216 rfl rfl
set_option maxRecDepth 20000 in
theorem wo_Lb_has : (Cond.code y_Lb_has b_Lb_has 2 (some .boolean)) ∈ T0 := tw_1 217 rfl rfl
set_option maxRecDepth 20000 in
theorem wl_Ke_40 : (Cond.methodLink R_Ke 40 y_Ke_isBetween) ∈ T0 := tw_1 218 rfl rfl
set_option maxRecDepth 20000 in
theorem ws_Ke_isBetween : (Cond.static y_Ke_isBetween) ∈ T0 := tw_1 219 rfl rfl
set_option maxRecDepth 20000 in
theorem wo_Ke_isBetween : (Cond.code y_Ke_isBetween b_Ke_isBetween 3 (some .boolean)) ∈ T0 := tw_1 220 rfl rfl
set_option maxRecDepth 20000 in
theorem wl_Ke_44 : (Cond.methodLink R_Ke 44 y_Ke_needNumber) ∈ T0 := tw_1 221 rfl rfl
set_option maxRecDepth 20000 in
theorem ws_Ke_needNumber : (Cond.static y_Ke_needNumber) ∈ T0 := tw_1 222 rfl rfl
set_option maxRecDepth 20000 in
theorem wo_Ke_needNumber : (Cond.code y_Ke_needNumber b_Ke_needNumber 1 none) ∈ T0 := tw_1 223 rfl rfl
set_option maxRecDepth 20000 in
theorem wc_Ke_268 : (Cond.classLink R_Ke 268 "java/lang/IllegalArgumentException") ∈ T0 := tw_1 224 rfl rfl
set_option maxRecDepth 20000 in
theorem wl_Ke_270 : (Cond.methodLink R_Ke 270 ⟨"java/lang/IllegalArgumentException", "<init>", "()V"⟩) ∈ T0 := tw_2 26 rfl rfl
set_option maxRecDepth 20000 in
theorem wl_Ke_48 : (Cond.methodLink R_Ke 48 y_Lb_changed) ∈ T0 := tw_2 48 rfl rfl
set_option maxRecDepth 20000 in
theorem wm_Lb_changed : (Cond.instanceMethod y_Lb_changed) ∈ T0 := tw_2 49 rfl rfl
set_option maxRecDepth 20000 in
theorem we_Lb_changed : (Cond.selects R_Lb y_Lb_changed y_Lb_changed) ∈ T0 := tw_2 50 rfl rfl
set_option maxRecDepth 20000 in
theorem wo_Lb_changed : (Cond.code y_Lb_changed b_Lb_changed 5 (some .int)) ∈ T0 := tw_2 51 rfl rfl
set_option maxRecDepth 20000 in
theorem wl_Ke_52 : (Cond.methodLink R_Ke 52 y_Lb_missing) ∈ T0 := tw_2 52 rfl rfl
set_option maxRecDepth 20000 in
theorem wm_Lb_missing : (Cond.instanceMethod y_Lb_missing) ∈ T0 := tw_2 53 rfl rfl
set_option maxRecDepth 20000 in
theorem we_Lb_missing : (Cond.selects R_Lb y_Lb_missing y_Lb_missing) ∈ T0 := tw_2 54 rfl rfl
set_option maxRecDepth 20000 in
theorem wo_Lb_missing : (Cond.code y_Lb_missing b_Lb_missing 2 (some .int)) ∈ T0 := tw_2 55 rfl rfl
set_option maxRecDepth 20000 in
theorem wl_Lb_44 : (Cond.methodLink R_Lb 44 y_Lb_indexOf) ∈ T0 := tw_2 56 rfl rfl
set_option maxRecDepth 20000 in
theorem wm_Lb_indexOf : (Cond.instanceMethod y_Lb_indexOf) ∈ T0 := tw_2 58 rfl rfl
set_option maxRecDepth 20000 in
theorem wo_Lb_indexOf : (Cond.code y_Lb_indexOf b_Lb_indexOf 3 (some .int)) ∈ T0 := tw_2 59 rfl rfl
set_option maxRecDepth 20000 in
theorem wl_Ke_56 : (Cond.methodLink R_Ke 56 y_Lb_free) ∈ T0 := tw_2 60 rfl rfl
set_option maxRecDepth 20000 in
theorem wm_Lb_free : (Cond.instanceMethod y_Lb_free) ∈ T0 := tw_2 61 rfl rfl
set_option maxRecDepth 20000 in
theorem we_Lb_free : (Cond.selects R_Lb y_Lb_free y_Lb_free) ∈ T0 := tw_2 62 rfl rfl
set_option maxRecDepth 20000 in
theorem wo_Lb_free : (Cond.code y_Lb_free b_Lb_free 1 (some .int)) ∈ T0 := tw_2 63 rfl rfl
set_option maxRecDepth 20000 in
theorem wl_Ke_60 : (Cond.methodLink R_Ke 60 y_Ke_needRoom) ∈ T0 := tw_2 64 rfl rfl
set_option maxRecDepth 20000 in
theorem ws_Ke_needRoom : (Cond.static y_Ke_needRoom) ∈ T0 := tw_2 65 rfl rfl
set_option maxRecDepth 20000 in
theorem wo_Ke_needRoom : (Cond.code y_Ke_needRoom b_Ke_needRoom 1 none) ∈ T0 := tw_2 66 rfl rfl
set_option maxRecDepth 20000 in
theorem wc_Ke_277 : (Cond.classLink R_Ke 277 "java/lang/IllegalStateException") ∈ T0 := tw_2 67 rfl rfl
set_option maxRecDepth 20000 in
theorem wl_Ke_279 : (Cond.methodLink R_Ke 279 ⟨"java/lang/IllegalStateException", "<init>", "()V"⟩) ∈ T0 := tw_2 76 rfl rfl
set_option maxRecDepth 20000 in
theorem wl_Ke_63 : (Cond.methodLink R_Ke 63 y_Lb_numberOf) ∈ T0 := tw_2 82 rfl rfl
set_option maxRecDepth 20000 in
theorem wm_Lb_numberOf : (Cond.instanceMethod y_Lb_numberOf) ∈ T0 := tw_2 83 rfl rfl
set_option maxRecDepth 20000 in
theorem we_Lb_numberOf : (Cond.selects R_Lb y_Lb_numberOf y_Lb_numberOf) ∈ T0 := tw_2 84 rfl rfl
set_option maxRecDepth 20000 in
theorem wo_Lb_numberOf : (Cond.code y_Lb_numberOf b_Lb_numberOf 3 (some .int)) ∈ T0 := tw_2 85 rfl rfl
set_option maxRecDepth 20000 in
theorem wl_La_97 : (Cond.methodLink R_La 97 y_La_level) ∈ T0 := tw_2 86 rfl rfl
set_option maxRecDepth 20000 in
theorem ws_La_level : (Cond.static y_La_level) ∈ T0 := tw_2 87 rfl rfl
abbrev hh_La_level : List (Nat × Nat × Nat × Nat) := [(0, 10, 13, 13), (0, 10, 17, 15), (0, 10, 21, 17), (0, 10, 25, 19)]
set_option maxRecDepth 20000 in
theorem wo_La_level : (Cond.codeWith y_La_level b_La_level 5 (some .int) hh_La_level) ∈ T0 := tw_2 88 rfl rfl
set_option maxRecDepth 20000 in
theorem wl_La_21 : (Cond.methodLink R_La 21 y_Ke_level) ∈ T0 := tw_2 89 rfl rfl
set_option maxRecDepth 20000 in
theorem wm_Ke_level : (Cond.instanceMethod y_Ke_level) ∈ T0 := tw_2 90 rfl rfl
set_option maxRecDepth 20000 in
theorem we_Ke_level : (Cond.selects R_Ke y_Ke_level y_Ke_level) ∈ T0 := tw_2 91 rfl rfl
set_option maxRecDepth 20000 in
theorem wo_Ke_level : (Cond.code y_Ke_level b_Ke_level 3 (some .int)) ∈ T0 := tw_2 92 rfl rfl
set_option maxRecDepth 20000 in
theorem wl_Ke_66 : (Cond.methodLink R_Ke 66 y_Lb_levelAt) ∈ T0 := tw_2 93 rfl rfl
set_option maxRecDepth 20000 in
theorem wm_Lb_levelAt : (Cond.instanceMethod y_Lb_levelAt) ∈ T0 := tw_2 94 rfl rfl
set_option maxRecDepth 20000 in
theorem we_Lb_levelAt : (Cond.selects R_Lb y_Lb_levelAt y_Lb_levelAt) ∈ T0 := tw_2 95 rfl rfl
set_option maxRecDepth 20000 in
theorem wo_Lb_levelAt : (Cond.code y_Lb_levelAt b_Lb_levelAt 3 (some .int)) ∈ T0 := tw_2 96 rfl rfl
set_option maxRecDepth 20000 in
theorem wl_La_101 : (Cond.methodLink R_La 101 y_La_fits) ∈ T0 := tw_2 97 rfl rfl
set_option maxRecDepth 20000 in
theorem ws_La_fits : (Cond.static y_La_fits) ∈ T0 := tw_2 98 rfl rfl
abbrev hh_La_fits : List (Nat × Nat × Nat × Nat) := [(0, 19, 22, 13), (0, 19, 26, 15), (0, 19, 30, 17), (0, 19, 34, 19)]
set_option maxRecDepth 20000 in
theorem wo_La_fits : (Cond.codeWith y_La_fits b_La_fits 6 (some .int) hh_La_fits) ∈ T0 := tw_2 99 rfl rfl
set_option maxRecDepth 20000 in
theorem wl_La_25 : (Cond.methodLink R_La 25 y_Ke_fits) ∈ T0 := tw_2 100 rfl rfl
set_option maxRecDepth 20000 in
theorem wm_Ke_fits : (Cond.instanceMethod y_Ke_fits) ∈ T0 := tw_2 101 rfl rfl
set_option maxRecDepth 20000 in
theorem we_Ke_fits : (Cond.selects R_Ke y_Ke_fits y_Ke_fits) ∈ T0 := tw_2 102 rfl rfl
set_option maxRecDepth 20000 in
theorem wo_Ke_fits : (Cond.code y_Ke_fits b_Ke_fits 4 (some .boolean)) ∈ T0 := tw_2 103 rfl rfl
set_option maxRecDepth 20000 in
theorem wl_Ke_70 : (Cond.methodLink R_Ke 70 y_Lb_fitsHigh) ∈ T0 := tw_2 104 rfl rfl
set_option maxRecDepth 20000 in
theorem wm_Lb_fitsHigh : (Cond.instanceMethod y_Lb_fitsHigh) ∈ T0 := tw_2 105 rfl rfl
set_option maxRecDepth 20000 in
theorem we_Lb_fitsHigh : (Cond.selects R_Lb y_Lb_fitsHigh y_Lb_fitsHigh) ∈ T0 := tw_2 106 rfl rfl
set_option maxRecDepth 20000 in
theorem wo_Lb_fitsHigh : (Cond.code y_Lb_fitsHigh b_Lb_fitsHigh 4 (some .boolean)) ∈ T0 := tw_2 107 rfl rfl
set_option maxRecDepth 20000 in
theorem wl_Lb_32 : (Cond.methodLink R_Lb 32 y_Lb_levelAt) ∈ T0 := tw_2 108 rfl rfl
set_option maxRecDepth 20000 in
theorem wl_Lb_36 : (Cond.methodLink R_Lb 36 y_Lb_low) ∈ T0 := tw_2 109 rfl rfl
set_option maxRecDepth 20000 in
theorem ws_Lb_low : (Cond.static y_Lb_low) ∈ T0 := tw_2 110 rfl rfl
set_option maxRecDepth 20000 in
theorem wo_Lb_low : (Cond.code y_Lb_low b_Lb_low 1 (some .int)) ∈ T0 := tw_2 111 rfl rfl
set_option maxRecDepth 20000 in
theorem wl_Ke_74 : (Cond.methodLink R_Ke 74 y_Lb_fitsUnder) ∈ T0 := tw_2 112 rfl rfl
set_option maxRecDepth 20000 in
theorem wm_Lb_fitsUnder : (Cond.instanceMethod y_Lb_fitsUnder) ∈ T0 := tw_2 113 rfl rfl
set_option maxRecDepth 20000 in
theorem we_Lb_fitsUnder : (Cond.selects R_Lb y_Lb_fitsUnder y_Lb_fitsUnder) ∈ T0 := tw_2 114 rfl rfl
set_option maxRecDepth 20000 in
theorem wo_Lb_fitsUnder : (Cond.code y_Lb_fitsUnder b_Lb_fitsUnder 4 (some .boolean)) ∈ T0 := tw_2 115 rfl rfl
set_option maxRecDepth 20000 in
theorem wl_La_105 : (Cond.methodLink R_La 105 y_La_category) ∈ T0 := tw_2 116 rfl rfl
set_option maxRecDepth 20000 in
theorem ws_La_category : (Cond.static y_La_category) ∈ T0 := tw_2 117 rfl rfl
abbrev hh_La_category : List (Nat × Nat × Nat × Nat) := [(0, 9, 12, 13), (0, 9, 15, 15), (0, 9, 18, 17), (0, 9, 21, 19)]
set_option maxRecDepth 20000 in
theorem wo_La_category : (Cond.codeWith y_La_category b_La_category 4 (some .int) hh_La_category) ∈ T0 := tw_2 118 rfl rfl
set_option maxRecDepth 20000 in
theorem wl_La_29 : (Cond.methodLink R_La 29 y_Ke_category) ∈ T0 := tw_2 119 rfl rfl
set_option maxRecDepth 20000 in
theorem wm_Ke_category : (Cond.instanceMethod y_Ke_category) ∈ T0 := tw_2 120 rfl rfl
set_option maxRecDepth 20000 in
theorem we_Ke_category : (Cond.selects R_Ke y_Ke_category y_Ke_category) ∈ T0 := tw_2 121 rfl rfl
set_option maxRecDepth 20000 in
theorem wo_Ke_category : (Cond.code y_Ke_category b_Ke_category 5 (some .int)) ∈ T0 := tw_2 122 rfl rfl
set_option maxRecDepth 20000 in
theorem wl_Ke_77 : (Cond.methodLink R_Ke 77 y_Ke_needThread) ∈ T0 := tw_2 123 rfl rfl
set_option maxRecDepth 20000 in
theorem wm_Ke_needThread : (Cond.instanceMethod y_Ke_needThread) ∈ T0 := tw_2 125 rfl rfl
set_option maxRecDepth 20000 in
theorem wo_Ke_needThread : (Cond.code y_Ke_needThread b_Ke_needThread 2 none) ∈ T0 := tw_2 126 rfl rfl
set_option maxRecDepth 20000 in
theorem wl_Ke_250 : (Cond.methodLink R_Ke 250 y_Tg_isThere) ∈ T0 := tw_2 127 rfl rfl
set_option maxRecDepth 20000 in
theorem wm_Tg_isThere : (Cond.instanceMethod y_Tg_isThere) ∈ T0 := tw_2 128 rfl rfl
set_option maxRecDepth 20000 in
theorem we_Tg_isThere : (Cond.selects R_Tg y_Tg_isThere y_Tg_isThere) ∈ T0 := tw_2 129 rfl rfl
set_option maxRecDepth 20000 in
theorem wo_Tg_isThere : (Cond.code y_Tg_isThere b_Tg_isThere 2 (some .boolean)) ∈ T0 := tw_2 130 rfl rfl
set_option maxRecDepth 20000 in
theorem wl_Ke_169 : (Cond.methodLink R_Ke 169 y_Ke_needFound) ∈ T0 := tw_2 131 rfl rfl
set_option maxRecDepth 20000 in
theorem ws_Ke_needFound : (Cond.static y_Ke_needFound) ∈ T0 := tw_2 132 rfl rfl
set_option maxRecDepth 20000 in
theorem wo_Ke_needFound : (Cond.code y_Ke_needFound b_Ke_needFound 1 none) ∈ T0 := tw_2 133 rfl rfl
set_option maxRecDepth 20000 in
theorem wc_Ke_271 : (Cond.classLink R_Ke 271 "java/util/NoSuchElementException") ∈ T0 := tw_2 134 rfl rfl
set_option maxRecDepth 20000 in
theorem wl_Ke_273 : (Cond.methodLink R_Ke 273 ⟨"java/util/NoSuchElementException", "<init>", "()V"⟩) ∈ T0 := tw_2 143 rfl rfl
set_option maxRecDepth 20000 in
theorem wl_Ke_163 : (Cond.methodLink R_Ke 163 y_Tg_isOfKind) ∈ T0 := tw_2 149 rfl rfl
set_option maxRecDepth 20000 in
theorem wm_Tg_isOfKind : (Cond.instanceMethod y_Tg_isOfKind) ∈ T0 := tw_2 150 rfl rfl
set_option maxRecDepth 20000 in
theorem we_Tg_isOfKind : (Cond.selects R_Tg y_Tg_isOfKind y_Tg_isOfKind) ∈ T0 := tw_2 151 rfl rfl
set_option maxRecDepth 20000 in
theorem wo_Tg_isOfKind : (Cond.code y_Tg_isOfKind b_Tg_isOfKind 3 (some .boolean)) ∈ T0 := tw_2 152 rfl rfl
set_option maxRecDepth 20000 in
theorem wl_Ke_85 : (Cond.methodLink R_Ke 85 y_Tg_labelOf) ∈ T0 := tw_2 153 rfl rfl
set_option maxRecDepth 20000 in
theorem wm_Tg_labelOf : (Cond.instanceMethod y_Tg_labelOf) ∈ T0 := tw_2 154 rfl rfl
set_option maxRecDepth 20000 in
theorem we_Tg_labelOf : (Cond.selects R_Tg y_Tg_labelOf y_Tg_labelOf) ∈ T0 := tw_2 155 rfl rfl
set_option maxRecDepth 20000 in
theorem wo_Tg_labelOf : (Cond.code y_Tg_labelOf b_Tg_labelOf 2 (some .int)) ∈ T0 := tw_2 156 rfl rfl
set_option maxRecDepth 20000 in
theorem wl_Ke_90 : (Cond.methodLink R_Ke 90 y_Tg_clearanceOf) ∈ T0 := tw_2 157 rfl rfl
set_option maxRecDepth 20000 in
theorem wm_Tg_clearanceOf : (Cond.instanceMethod y_Tg_clearanceOf) ∈ T0 := tw_2 158 rfl rfl
set_option maxRecDepth 20000 in
theorem we_Tg_clearanceOf : (Cond.selects R_Tg y_Tg_clearanceOf y_Tg_clearanceOf) ∈ T0 := tw_2 159 rfl rfl
set_option maxRecDepth 20000 in
theorem wo_Tg_clearanceOf : (Cond.code y_Tg_clearanceOf b_Tg_clearanceOf 2 (some .int)) ∈ T0 := tw_2 160 rfl rfl
set_option maxRecDepth 20000 in
theorem wl_Ke_93 : (Cond.methodLink R_Ke 93 y_Tg_setLabel) ∈ T0 := tw_2 161 rfl rfl
set_option maxRecDepth 20000 in
theorem wm_Tg_setLabel : (Cond.instanceMethod y_Tg_setLabel) ∈ T0 := tw_2 162 rfl rfl
set_option maxRecDepth 20000 in
theorem we_Tg_setLabel : (Cond.selects R_Tg y_Tg_setLabel y_Tg_setLabel) ∈ T0 := tw_2 163 rfl rfl
set_option maxRecDepth 20000 in
theorem wo_Tg_setLabel : (Cond.code y_Tg_setLabel b_Tg_setLabel 3 none) ∈ T0 := tw_2 164 rfl rfl
set_option maxRecDepth 20000 in
theorem wl_Ke_97 : (Cond.methodLink R_Ke 97 y_Tg_setClearance) ∈ T0 := tw_2 165 rfl rfl
set_option maxRecDepth 20000 in
theorem wl_La_109 : (Cond.methodLink R_La 109 y_La_container) ∈ T0 := tw_2 166 rfl rfl
set_option maxRecDepth 20000 in
theorem ws_La_container : (Cond.static y_La_container) ∈ T0 := tw_2 167 rfl rfl
abbrev hh_La_container : List (Nat × Nat × Nat × Nat) := [(0, 14, 17, 13), (0, 14, 21, 15), (0, 14, 25, 17), (0, 14, 29, 19)]
set_option maxRecDepth 20000 in
theorem wo_La_container : (Cond.codeWith y_La_container b_La_container 7 (some .int) hh_La_container) ∈ T0 := tw_2 168 rfl rfl
set_option maxRecDepth 20000 in
theorem wl_La_33 : (Cond.methodLink R_La 33 y_Ke_container) ∈ T0 := tw_2 169 rfl rfl
set_option maxRecDepth 20000 in
theorem wm_Ke_container : (Cond.instanceMethod y_Ke_container) ∈ T0 := tw_2 170 rfl rfl
set_option maxRecDepth 20000 in
theorem we_Ke_container : (Cond.selects R_Ke y_Ke_container y_Ke_container) ∈ T0 := tw_2 171 rfl rfl
set_option maxRecDepth 20000 in
theorem wo_Ke_container : (Cond.code y_Ke_container b_Ke_container 5 (some .int)) ∈ T0 := tw_2 172 rfl rfl
set_option maxRecDepth 20000 in
theorem wl_Ke_100 : (Cond.methodLink R_Ke 100 y_Lb_isStarless) ∈ T0 := tw_2 173 rfl rfl
set_option maxRecDepth 20000 in
theorem wm_Lb_isStarless : (Cond.instanceMethod y_Lb_isStarless) ∈ T0 := tw_2 174 rfl rfl
set_option maxRecDepth 20000 in
theorem we_Lb_isStarless : (Cond.selects R_Lb y_Lb_isStarless y_Lb_isStarless) ∈ T0 := tw_2 175 rfl rfl
set_option maxRecDepth 20000 in
theorem wo_Lb_isStarless : (Cond.code y_Lb_isStarless b_Lb_isStarless 2 (some .boolean)) ∈ T0 := tw_2 176 rfl rfl
set_option maxRecDepth 20000 in
theorem wl_Lb_27 : (Cond.methodLink R_Lb 27 y_Lb_has) ∈ T0 := tw_2 177 rfl rfl
set_option maxRecDepth 20000 in
theorem wk_Lb_31 : (Cond.constant R_Lb 31 1145324612) ∈ T0 := tw_2 178 rfl rfl
set_option maxRecDepth 20000 in
theorem wl_Ke_103 : (Cond.methodLink R_Ke 103 y_Ke_needThreadAndContainer) ∈ T0 := tw_2 179 rfl rfl
set_option maxRecDepth 20000 in
theorem wm_Ke_needThreadAndContainer : (Cond.instanceMethod y_Ke_needThreadAndContainer) ∈ T0 := tw_2 181 rfl rfl
set_option maxRecDepth 20000 in
theorem wo_Ke_needThreadAndContainer : (Cond.code y_Ke_needThreadAndContainer b_Ke_needThreadAndContainer 3 none) ∈ T0 := tw_2 182 rfl rfl
set_option maxRecDepth 20000 in
theorem wl_Ke_106 : (Cond.methodLink R_Ke 106 y_Ke_needMayMake) ∈ T0 := tw_2 183 rfl rfl
set_option maxRecDepth 20000 in
theorem wm_Ke_needMayMake : (Cond.instanceMethod y_Ke_needMayMake) ∈ T0 := tw_2 185 rfl rfl
set_option maxRecDepth 20000 in
theorem wo_Ke_needMayMake : (Cond.code y_Ke_needMayMake b_Ke_needMayMake 4 none) ∈ T0 := tw_2 186 rfl rfl
set_option maxRecDepth 20000 in
theorem wl_Ke_136 : (Cond.methodLink R_Ke 136 y_Ke_mayChange) ∈ T0 := tw_2 187 rfl rfl
set_option maxRecDepth 20000 in
theorem wm_Ke_mayChange : (Cond.instanceMethod y_Ke_mayChange) ∈ T0 := tw_2 189 rfl rfl
set_option maxRecDepth 20000 in
theorem wo_Ke_mayChange : (Cond.code y_Ke_mayChange b_Ke_mayChange 3 (some .boolean)) ∈ T0 := tw_2 190 rfl rfl
set_option maxRecDepth 20000 in
theorem wl_Ke_130 : (Cond.methodLink R_Ke 130 y_Ke_maySee) ∈ T0 := tw_2 191 rfl rfl
set_option maxRecDepth 20000 in
theorem wm_Ke_maySee : (Cond.instanceMethod y_Ke_maySee) ∈ T0 := tw_2 193 rfl rfl
set_option maxRecDepth 20000 in
theorem wo_Ke_maySee : (Cond.code y_Ke_maySee b_Ke_maySee 3 (some .boolean)) ∈ T0 := tw_2 194 rfl rfl
set_option maxRecDepth 20000 in
theorem wl_Ke_157 : (Cond.methodLink R_Ke 157 y_Ke_mayBear) ∈ T0 := tw_2 195 rfl rfl
set_option maxRecDepth 20000 in
theorem wm_Ke_mayBear : (Cond.instanceMethod y_Ke_mayBear) ∈ T0 := tw_2 197 rfl rfl
set_option maxRecDepth 20000 in
theorem wo_Ke_mayBear : (Cond.code y_Ke_mayBear b_Ke_mayBear 4 (some .boolean)) ∈ T0 := tw_2 198 rfl rfl
set_option maxRecDepth 20000 in
theorem wl_Ke_265 : (Cond.methodLink R_Ke 265 y_Lb_hasStarsOnlyOf) ∈ T0 := tw_2 199 rfl rfl
set_option maxRecDepth 20000 in
theorem wm_Lb_hasStarsOnlyOf : (Cond.instanceMethod y_Lb_hasStarsOnlyOf) ∈ T0 := tw_2 200 rfl rfl
set_option maxRecDepth 20000 in
theorem we_Lb_hasStarsOnlyOf : (Cond.selects R_Lb y_Lb_hasStarsOnlyOf y_Lb_hasStarsOnlyOf) ∈ T0 := tw_2 201 rfl rfl
set_option maxRecDepth 20000 in
theorem wo_Lb_hasStarsOnlyOf : (Cond.code y_Lb_hasStarsOnlyOf b_Lb_hasStarsOnlyOf 3 (some .boolean)) ∈ T0 := tw_2 202 rfl rfl
set_option maxRecDepth 20000 in
theorem wl_Ke_123 : (Cond.methodLink R_Ke 123 y_Ke_needAllowed) ∈ T0 := tw_2 203 rfl rfl
set_option maxRecDepth 20000 in
theorem ws_Ke_needAllowed : (Cond.static y_Ke_needAllowed) ∈ T0 := tw_2 204 rfl rfl
set_option maxRecDepth 20000 in
theorem wo_Ke_needAllowed : (Cond.code y_Ke_needAllowed b_Ke_needAllowed 1 none) ∈ T0 := tw_2 205 rfl rfl
set_option maxRecDepth 20000 in
theorem wc_Ke_274 : (Cond.classLink R_Ke 274 "java/lang/UnsupportedOperationException") ∈ T0 := tw_2 206 rfl rfl
set_option maxRecDepth 20000 in
theorem wl_Ke_276 : (Cond.methodLink R_Ke 276 ⟨"java/lang/UnsupportedOperationException", "<init>", "()V"⟩) ∈ T0 := tw_2 215 rfl rfl
set_option maxRecDepth 20000 in
theorem wl_Ke_110 : (Cond.methodLink R_Ke 110 y_Ke_needRoomIn) ∈ T0 := tw_2 221 rfl rfl
set_option maxRecDepth 20000 in
theorem wm_Ke_needRoomIn : (Cond.instanceMethod y_Ke_needRoomIn) ∈ T0 := tw_2 223 rfl rfl
set_option maxRecDepth 20000 in
theorem wo_Ke_needRoomIn : (Cond.code y_Ke_needRoomIn b_Ke_needRoomIn 3 none) ∈ T0 := tw_2 224 rfl rfl
set_option maxRecDepth 20000 in
theorem wl_Ke_145 : (Cond.methodLink R_Ke 145 y_Tg_quotaOf) ∈ T0 := tw_2 225 rfl rfl
set_option maxRecDepth 20000 in
theorem wm_Tg_quotaOf : (Cond.instanceMethod y_Tg_quotaOf) ∈ T0 := tw_2 226 rfl rfl
set_option maxRecDepth 20000 in
theorem we_Tg_quotaOf : (Cond.selects R_Tg y_Tg_quotaOf y_Tg_quotaOf) ∈ T0 := tw_2 227 rfl rfl
set_option maxRecDepth 20000 in
theorem wo_Tg_quotaOf : (Cond.code y_Tg_quotaOf b_Tg_quotaOf 2 (some .int)) ∈ T0 := tw_2 228 rfl rfl
set_option maxRecDepth 20000 in
theorem wl_Ke_148 : (Cond.methodLink R_Ke 148 y_Tg_useOf) ∈ T0 := tw_2 229 rfl rfl
set_option maxRecDepth 20000 in
theorem wm_Tg_useOf : (Cond.instanceMethod y_Tg_useOf) ∈ T0 := tw_2 230 rfl rfl
set_option maxRecDepth 20000 in
theorem we_Tg_useOf : (Cond.selects R_Tg y_Tg_useOf y_Tg_useOf) ∈ T0 := tw_2 231 rfl rfl
set_option maxRecDepth 20000 in
theorem wo_Tg_useOf : (Cond.code y_Tg_useOf b_Tg_useOf 2 (some .int)) ∈ T0 := tw_2 232 rfl rfl
set_option maxRecDepth 20000 in
theorem wl_Tg_68 : (Cond.methodLink R_Tg 68 y_Tg_quotasIn) ∈ T0 := tw_2 233 rfl rfl
set_option maxRecDepth 20000 in
theorem wm_Tg_quotasIn : (Cond.instanceMethod y_Tg_quotasIn) ∈ T0 := tw_2 235 rfl rfl
set_option maxRecDepth 20000 in
theorem wo_Tg_quotasIn : (Cond.code y_Tg_quotasIn b_Tg_quotasIn 4 (some .int)) ∈ T0 := tw_2 236 rfl rfl
set_option maxRecDepth 20000 in
theorem wl_Tg_64 : (Cond.methodLink R_Tg 64 y_Tg_isIn) ∈ T0 := tw_2 237 rfl rfl
set_option maxRecDepth 20000 in
theorem wm_Tg_isIn : (Cond.instanceMethod y_Tg_isIn) ∈ T0 := tw_2 238 rfl rfl
set_option maxRecDepth 20000 in
theorem we_Tg_isIn : (Cond.selects R_Tg y_Tg_isIn y_Tg_isIn) ∈ T0 := tw_2 239 rfl rfl
set_option maxRecDepth 20000 in
theorem wo_Tg_isIn : (Cond.code y_Tg_isIn b_Tg_isIn 3 (some .boolean)) ∈ T0 := tw_3 0 rfl rfl
set_option maxRecDepth 20000 in
theorem wl_Ke_280 : (Cond.methodLink R_Ke 280 y_Tg_hasNumberLeft) ∈ T0 := tw_3 1 rfl rfl
set_option maxRecDepth 20000 in
theorem wm_Tg_hasNumberLeft : (Cond.instanceMethod y_Tg_hasNumberLeft) ∈ T0 := tw_3 2 rfl rfl
set_option maxRecDepth 20000 in
theorem we_Tg_hasNumberLeft : (Cond.selects R_Tg y_Tg_hasNumberLeft y_Tg_hasNumberLeft) ∈ T0 := tw_3 3 rfl rfl
set_option maxRecDepth 20000 in
theorem wo_Tg_hasNumberLeft : (Cond.code y_Tg_hasNumberLeft b_Tg_hasNumberLeft 1 (some .boolean)) ∈ T0 := tw_3 4 rfl rfl
set_option maxRecDepth 20000 in
theorem wl_Ke_284 : (Cond.methodLink R_Ke 284 y_Tg_depthOf) ∈ T0 := tw_3 5 rfl rfl
set_option maxRecDepth 20000 in
theorem wm_Tg_depthOf : (Cond.instanceMethod y_Tg_depthOf) ∈ T0 := tw_3 6 rfl rfl
set_option maxRecDepth 20000 in
theorem we_Tg_depthOf : (Cond.selects R_Tg y_Tg_depthOf y_Tg_depthOf) ∈ T0 := tw_3 7 rfl rfl
set_option maxRecDepth 20000 in
theorem wo_Tg_depthOf : (Cond.code y_Tg_depthOf b_Tg_depthOf 2 (some .int)) ∈ T0 := tw_3 8 rfl rfl
set_option maxRecDepth 20000 in
theorem wl_Ke_113 : (Cond.methodLink R_Ke 113 y_Tg_add) ∈ T0 := tw_3 9 rfl rfl
set_option maxRecDepth 20000 in
theorem wl_La_113 : (Cond.methodLink R_La 113 y_La_segment) ∈ T0 := tw_3 10 rfl rfl
set_option maxRecDepth 20000 in
theorem ws_La_segment : (Cond.static y_La_segment) ∈ T0 := tw_3 11 rfl rfl
abbrev hh_La_segment : List (Nat × Nat × Nat × Nat) := [(0, 14, 17, 13), (0, 14, 21, 15), (0, 14, 25, 17), (0, 14, 29, 19)]
set_option maxRecDepth 20000 in
theorem wo_La_segment : (Cond.codeWith y_La_segment b_La_segment 7 (some .int) hh_La_segment) ∈ T0 := tw_3 12 rfl rfl
set_option maxRecDepth 20000 in
theorem wl_La_37 : (Cond.methodLink R_La 37 y_Ke_segment) ∈ T0 := tw_3 13 rfl rfl
set_option maxRecDepth 20000 in
theorem wm_Ke_segment : (Cond.instanceMethod y_Ke_segment) ∈ T0 := tw_3 14 rfl rfl
set_option maxRecDepth 20000 in
theorem we_Ke_segment : (Cond.selects R_Ke y_Ke_segment y_Ke_segment) ∈ T0 := tw_3 15 rfl rfl
set_option maxRecDepth 20000 in
theorem wo_Ke_segment : (Cond.code y_Ke_segment b_Ke_segment 6 (some .int)) ∈ T0 := tw_3 16 rfl rfl
set_option maxRecDepth 20000 in
theorem wl_Ke_117 : (Cond.methodLink R_Ke 117 y_Tg_setCellCount) ∈ T0 := tw_3 17 rfl rfl
set_option maxRecDepth 20000 in
theorem wm_Tg_setCellCount : (Cond.instanceMethod y_Tg_setCellCount) ∈ T0 := tw_3 18 rfl rfl
set_option maxRecDepth 20000 in
theorem we_Tg_setCellCount : (Cond.selects R_Tg y_Tg_setCellCount y_Tg_setCellCount) ∈ T0 := tw_3 19 rfl rfl
set_option maxRecDepth 20000 in
theorem wo_Tg_setCellCount : (Cond.code y_Tg_setCellCount b_Tg_setCellCount 3 none) ∈ T0 := tw_3 20 rfl rfl
set_option maxRecDepth 20000 in
theorem wl_La_116 : (Cond.methodLink R_La 116 y_La_gate) ∈ T0 := tw_3 21 rfl rfl
set_option maxRecDepth 20000 in
theorem ws_La_gate : (Cond.static y_La_gate) ∈ T0 := tw_3 22 rfl rfl
abbrev hh_La_gate : List (Nat × Nat × Nat × Nat) := [(0, 16, 19, 13), (0, 16, 23, 15), (0, 16, 27, 17), (0, 16, 31, 19)]
set_option maxRecDepth 20000 in
theorem wo_La_gate : (Cond.codeWith y_La_gate b_La_gate 8 (some .int) hh_La_gate) ∈ T0 := tw_3 23 rfl rfl
set_option maxRecDepth 20000 in
theorem wl_La_40 : (Cond.methodLink R_La 40 y_Ke_gate) ∈ T0 := tw_3 24 rfl rfl
set_option maxRecDepth 20000 in
theorem wm_Ke_gate : (Cond.instanceMethod y_Ke_gate) ∈ T0 := tw_3 25 rfl rfl
set_option maxRecDepth 20000 in
theorem we_Ke_gate : (Cond.selects R_Ke y_Ke_gate y_Ke_gate) ∈ T0 := tw_3 26 rfl rfl
set_option maxRecDepth 20000 in
theorem wo_Ke_gate : (Cond.code y_Ke_gate b_Ke_gate 7 (some .int)) ∈ T0 := tw_3 27 rfl rfl
set_option maxRecDepth 20000 in
theorem wl_Ke_120 : (Cond.methodLink R_Ke 120 y_Tg_setGuardAndEntry) ∈ T0 := tw_3 28 rfl rfl
set_option maxRecDepth 20000 in
theorem wm_Tg_setGuardAndEntry : (Cond.instanceMethod y_Tg_setGuardAndEntry) ∈ T0 := tw_3 29 rfl rfl
set_option maxRecDepth 20000 in
theorem we_Tg_setGuardAndEntry : (Cond.selects R_Tg y_Tg_setGuardAndEntry y_Tg_setGuardAndEntry) ∈ T0 := tw_3 30 rfl rfl
set_option maxRecDepth 20000 in
theorem wo_Tg_setGuardAndEntry : (Cond.code y_Tg_setGuardAndEntry b_Tg_setGuardAndEntry 4 none) ∈ T0 := tw_3 31 rfl rfl
set_option maxRecDepth 20000 in
theorem wl_La_120 : (Cond.methodLink R_La 120 y_La_thread) ∈ T0 := tw_3 32 rfl rfl
set_option maxRecDepth 20000 in
theorem ws_La_thread : (Cond.static y_La_thread) ∈ T0 := tw_3 33 rfl rfl
abbrev hh_La_thread : List (Nat × Nat × Nat × Nat) := [(0, 14, 17, 13), (0, 14, 21, 15), (0, 14, 25, 17), (0, 14, 29, 19)]
set_option maxRecDepth 20000 in
theorem wo_La_thread : (Cond.codeWith y_La_thread b_La_thread 7 (some .int) hh_La_thread) ∈ T0 := tw_3 34 rfl rfl
set_option maxRecDepth 20000 in
theorem wl_La_44 : (Cond.methodLink R_La 44 y_Ke_thread) ∈ T0 := tw_3 35 rfl rfl
set_option maxRecDepth 20000 in
theorem wm_Ke_thread : (Cond.instanceMethod y_Ke_thread) ∈ T0 := tw_3 36 rfl rfl
set_option maxRecDepth 20000 in
theorem we_Ke_thread : (Cond.selects R_Ke y_Ke_thread y_Ke_thread) ∈ T0 := tw_3 37 rfl rfl
set_option maxRecDepth 20000 in
theorem wo_Ke_thread : (Cond.code y_Ke_thread b_Ke_thread 6 (some .int)) ∈ T0 := tw_3 38 rfl rfl
set_option maxRecDepth 20000 in
theorem wl_La_123 : (Cond.methodLink R_La 123 y_La_read) ∈ T0 := tw_3 39 rfl rfl
set_option maxRecDepth 20000 in
theorem ws_La_read : (Cond.static y_La_read) ∈ T0 := tw_3 40 rfl rfl
abbrev hh_La_read : List (Nat × Nat × Nat × Nat) := [(0, 14, 17, 13), (0, 14, 21, 15), (0, 14, 25, 17), (0, 14, 29, 19)]
set_option maxRecDepth 20000 in
theorem wo_La_read : (Cond.codeWith y_La_read b_La_read 7 (some .int) hh_La_read) ∈ T0 := tw_3 41 rfl rfl
set_option maxRecDepth 20000 in
theorem wl_La_47 : (Cond.methodLink R_La 47 y_Ke_read) ∈ T0 := tw_3 42 rfl rfl
set_option maxRecDepth 20000 in
theorem wm_Ke_read : (Cond.instanceMethod y_Ke_read) ∈ T0 := tw_3 43 rfl rfl
set_option maxRecDepth 20000 in
theorem we_Ke_read : (Cond.selects R_Ke y_Ke_read y_Ke_read) ∈ T0 := tw_3 44 rfl rfl
set_option maxRecDepth 20000 in
theorem wo_Ke_read : (Cond.code y_Ke_read b_Ke_read 5 (some .int)) ∈ T0 := tw_3 45 rfl rfl
set_option maxRecDepth 20000 in
theorem wl_Ke_126 : (Cond.methodLink R_Ke 126 y_Ke_needCell) ∈ T0 := tw_3 46 rfl rfl
set_option maxRecDepth 20000 in
theorem wm_Ke_needCell : (Cond.instanceMethod y_Ke_needCell) ∈ T0 := tw_3 48 rfl rfl
set_option maxRecDepth 20000 in
theorem wo_Ke_needCell : (Cond.code y_Ke_needCell b_Ke_needCell 5 none) ∈ T0 := tw_3 49 rfl rfl
set_option maxRecDepth 20000 in
theorem wl_Ke_160 : (Cond.methodLink R_Ke 160 y_Ke_needThere) ∈ T0 := tw_3 50 rfl rfl
set_option maxRecDepth 20000 in
theorem wm_Ke_needThere : (Cond.instanceMethod y_Ke_needThere) ∈ T0 := tw_3 52 rfl rfl
set_option maxRecDepth 20000 in
theorem wo_Ke_needThere : (Cond.code y_Ke_needThere b_Ke_needThere 4 none) ∈ T0 := tw_3 53 rfl rfl
set_option maxRecDepth 20000 in
theorem wl_Ke_166 : (Cond.methodLink R_Ke 166 y_Tg_isIn) ∈ T0 := tw_3 54 rfl rfl
set_option maxRecDepth 20000 in
theorem wl_Ke_257 : (Cond.methodLink R_Ke 257 y_Tg_cellCountOf) ∈ T0 := tw_3 55 rfl rfl
set_option maxRecDepth 20000 in
theorem wm_Tg_cellCountOf : (Cond.instanceMethod y_Tg_cellCountOf) ∈ T0 := tw_3 56 rfl rfl
set_option maxRecDepth 20000 in
theorem we_Tg_cellCountOf : (Cond.selects R_Tg y_Tg_cellCountOf y_Tg_cellCountOf) ∈ T0 := tw_3 57 rfl rfl
set_option maxRecDepth 20000 in
theorem wo_Tg_cellCountOf : (Cond.code y_Tg_cellCountOf b_Tg_cellCountOf 2 (some .int)) ∈ T0 := tw_3 58 rfl rfl
set_option maxRecDepth 20000 in
theorem wl_Ke_133 : (Cond.methodLink R_Ke 133 y_Tg_cellOf) ∈ T0 := tw_3 59 rfl rfl
set_option maxRecDepth 20000 in
theorem wm_Tg_cellOf : (Cond.instanceMethod y_Tg_cellOf) ∈ T0 := tw_3 60 rfl rfl
set_option maxRecDepth 20000 in
theorem we_Tg_cellOf : (Cond.selects R_Tg y_Tg_cellOf y_Tg_cellOf) ∈ T0 := tw_3 61 rfl rfl
set_option maxRecDepth 20000 in
theorem wo_Tg_cellOf : (Cond.code y_Tg_cellOf b_Tg_cellOf 3 (some .int)) ∈ T0 := tw_3 62 rfl rfl
set_option maxRecDepth 20000 in
theorem wl_La_126 : (Cond.methodLink R_La 126 y_La_write) ∈ T0 := tw_3 63 rfl rfl
set_option maxRecDepth 20000 in
theorem ws_La_write : (Cond.static y_La_write) ∈ T0 := tw_3 64 rfl rfl
abbrev hh_La_write : List (Nat × Nat × Nat × Nat) := [(0, 16, 19, 13), (0, 16, 23, 15), (0, 16, 27, 17), (0, 16, 31, 19)]
set_option maxRecDepth 20000 in
theorem wo_La_write : (Cond.codeWith y_La_write b_La_write 8 (some .int) hh_La_write) ∈ T0 := tw_3 65 rfl rfl
set_option maxRecDepth 20000 in
theorem wl_La_50 : (Cond.methodLink R_La 50 y_Ke_write) ∈ T0 := tw_3 66 rfl rfl
set_option maxRecDepth 20000 in
theorem wm_Ke_write : (Cond.instanceMethod y_Ke_write) ∈ T0 := tw_3 67 rfl rfl
set_option maxRecDepth 20000 in
theorem we_Ke_write : (Cond.selects R_Ke y_Ke_write y_Ke_write) ∈ T0 := tw_3 68 rfl rfl
set_option maxRecDepth 20000 in
theorem wo_Ke_write : (Cond.code y_Ke_write b_Ke_write 7 (some .int)) ∈ T0 := tw_3 69 rfl rfl
set_option maxRecDepth 20000 in
theorem wl_Ke_139 : (Cond.methodLink R_Ke 139 y_Tg_setCell) ∈ T0 := tw_3 70 rfl rfl
set_option maxRecDepth 20000 in
theorem wm_Tg_setCell : (Cond.instanceMethod y_Tg_setCell) ∈ T0 := tw_3 71 rfl rfl
set_option maxRecDepth 20000 in
theorem we_Tg_setCell : (Cond.selects R_Tg y_Tg_setCell y_Tg_setCell) ∈ T0 := tw_3 72 rfl rfl
set_option maxRecDepth 20000 in
theorem wo_Tg_setCell : (Cond.code y_Tg_setCell b_Tg_setCell 4 none) ∈ T0 := tw_3 73 rfl rfl
set_option maxRecDepth 20000 in
theorem wl_La_129 : (Cond.methodLink R_La 129 y_La_move) ∈ T0 := tw_3 74 rfl rfl
set_option maxRecDepth 20000 in
theorem ws_La_move : (Cond.static y_La_move) ∈ T0 := tw_3 75 rfl rfl
abbrev hh_La_move : List (Nat × Nat × Nat × Nat) := [(0, 14, 17, 13), (0, 14, 21, 15), (0, 14, 25, 17), (0, 14, 29, 19)]
set_option maxRecDepth 20000 in
theorem wo_La_move : (Cond.codeWith y_La_move b_La_move 7 (some .int) hh_La_move) ∈ T0 := tw_3 76 rfl rfl
set_option maxRecDepth 20000 in
theorem wl_La_53 : (Cond.methodLink R_La 53 y_Ke_move) ∈ T0 := tw_3 77 rfl rfl
set_option maxRecDepth 20000 in
theorem wm_Ke_move : (Cond.instanceMethod y_Ke_move) ∈ T0 := tw_3 78 rfl rfl
set_option maxRecDepth 20000 in
theorem we_Ke_move : (Cond.selects R_Ke y_Ke_move y_Ke_move) ∈ T0 := tw_3 79 rfl rfl
set_option maxRecDepth 20000 in
theorem wo_Ke_move : (Cond.code y_Ke_move b_Ke_move 6 (some .int)) ∈ T0 := tw_3 80 rfl rfl
set_option maxRecDepth 20000 in
theorem wl_Ke_142 : (Cond.methodLink R_Ke 142 y_Ke_needObjectIn) ∈ T0 := tw_3 81 rfl rfl
set_option maxRecDepth 20000 in
theorem wm_Ke_needObjectIn : (Cond.instanceMethod y_Ke_needObjectIn) ∈ T0 := tw_3 83 rfl rfl
set_option maxRecDepth 20000 in
theorem wo_Ke_needObjectIn : (Cond.code y_Ke_needObjectIn b_Ke_needObjectIn 4 none) ∈ T0 := tw_3 84 rfl rfl
set_option maxRecDepth 20000 in
theorem wl_Ke_151 : (Cond.methodLink R_Ke 151 y_Tg_setQuota) ∈ T0 := tw_3 85 rfl rfl
set_option maxRecDepth 20000 in
theorem wm_Tg_setQuota : (Cond.instanceMethod y_Tg_setQuota) ∈ T0 := tw_3 86 rfl rfl
set_option maxRecDepth 20000 in
theorem we_Tg_setQuota : (Cond.selects R_Tg y_Tg_setQuota y_Tg_setQuota) ∈ T0 := tw_3 87 rfl rfl
set_option maxRecDepth 20000 in
theorem wo_Tg_setQuota : (Cond.code y_Tg_setQuota b_Tg_setQuota 3 none) ∈ T0 := tw_3 88 rfl rfl
set_option maxRecDepth 20000 in
theorem wl_La_132 : (Cond.methodLink R_La 132 y_La_drop) ∈ T0 := tw_3 89 rfl rfl
set_option maxRecDepth 20000 in
theorem ws_La_drop : (Cond.static y_La_drop) ∈ T0 := tw_3 90 rfl rfl
abbrev hh_La_drop : List (Nat × Nat × Nat × Nat) := [(0, 12, 15, 13), (0, 12, 19, 15), (0, 12, 23, 17), (0, 12, 27, 19)]
set_option maxRecDepth 20000 in
theorem wo_La_drop : (Cond.codeWith y_La_drop b_La_drop 6 (some .int) hh_La_drop) ∈ T0 := tw_3 91 rfl rfl
set_option maxRecDepth 20000 in
theorem wl_La_56 : (Cond.methodLink R_La 56 y_Ke_drop) ∈ T0 := tw_3 92 rfl rfl
set_option maxRecDepth 20000 in
theorem wm_Ke_drop : (Cond.instanceMethod y_Ke_drop) ∈ T0 := tw_3 93 rfl rfl
set_option maxRecDepth 20000 in
theorem we_Ke_drop : (Cond.selects R_Ke y_Ke_drop y_Ke_drop) ∈ T0 := tw_3 94 rfl rfl
set_option maxRecDepth 20000 in
theorem wo_Ke_drop : (Cond.code y_Ke_drop b_Ke_drop 4 (some .int)) ∈ T0 := tw_3 95 rfl rfl
set_option maxRecDepth 20000 in
theorem wl_Ke_154 : (Cond.methodLink R_Ke 154 y_Tg_removeTree) ∈ T0 := tw_3 96 rfl rfl
set_option maxRecDepth 20000 in
theorem wm_Tg_removeTree : (Cond.instanceMethod y_Tg_removeTree) ∈ T0 := tw_3 97 rfl rfl
set_option maxRecDepth 20000 in
theorem we_Tg_removeTree : (Cond.selects R_Tg y_Tg_removeTree y_Tg_removeTree) ∈ T0 := tw_3 98 rfl rfl
set_option maxRecDepth 20000 in
theorem wo_Tg_removeTree : (Cond.code y_Tg_removeTree b_Tg_removeTree 4 (some .int)) ∈ T0 := tw_3 99 rfl rfl
set_option maxRecDepth 20000 in
theorem wl_La_135 : (Cond.methodLink R_La 135 y_La_become) ∈ T0 := tw_3 100 rfl rfl
set_option maxRecDepth 20000 in
theorem ws_La_become : (Cond.static y_La_become) ∈ T0 := tw_3 101 rfl rfl
abbrev hh_La_become : List (Nat × Nat × Nat × Nat) := [(0, 10, 13, 13), (0, 10, 17, 15), (0, 10, 21, 17), (0, 10, 25, 19)]
set_option maxRecDepth 20000 in
theorem wo_La_become : (Cond.codeWith y_La_become b_La_become 5 (some .int) hh_La_become) ∈ T0 := tw_3 102 rfl rfl
set_option maxRecDepth 20000 in
theorem wl_La_59 : (Cond.methodLink R_La 59 y_Ke_become) ∈ T0 := tw_3 103 rfl rfl
set_option maxRecDepth 20000 in
theorem wm_Ke_become : (Cond.instanceMethod y_Ke_become) ∈ T0 := tw_3 104 rfl rfl
set_option maxRecDepth 20000 in
theorem we_Ke_become : (Cond.selects R_Ke y_Ke_become y_Ke_become) ∈ T0 := tw_3 105 rfl rfl
set_option maxRecDepth 20000 in
theorem wo_Ke_become : (Cond.code y_Ke_become b_Ke_become 3 (some .int)) ∈ T0 := tw_3 106 rfl rfl
set_option maxRecDepth 20000 in
theorem wl_La_138 : (Cond.methodLink R_La 138 y_La_lower) ∈ T0 := tw_3 107 rfl rfl
set_option maxRecDepth 20000 in
theorem ws_La_lower : (Cond.static y_La_lower) ∈ T0 := tw_3 108 rfl rfl
abbrev hh_La_lower : List (Nat × Nat × Nat × Nat) := [(0, 10, 13, 13), (0, 10, 17, 15), (0, 10, 21, 17), (0, 10, 25, 19)]
set_option maxRecDepth 20000 in
theorem wo_La_lower : (Cond.codeWith y_La_lower b_La_lower 5 (some .int) hh_La_lower) ∈ T0 := tw_3 109 rfl rfl
set_option maxRecDepth 20000 in
theorem wl_La_62 : (Cond.methodLink R_La 62 y_Ke_lower) ∈ T0 := tw_3 110 rfl rfl
set_option maxRecDepth 20000 in
theorem wm_Ke_lower : (Cond.instanceMethod y_Ke_lower) ∈ T0 := tw_3 111 rfl rfl
set_option maxRecDepth 20000 in
theorem we_Ke_lower : (Cond.selects R_Ke y_Ke_lower y_Ke_lower) ∈ T0 := tw_3 112 rfl rfl
set_option maxRecDepth 20000 in
theorem wo_Ke_lower : (Cond.code y_Ke_lower b_Ke_lower 3 (some .int)) ∈ T0 := tw_3 113 rfl rfl
set_option maxRecDepth 20000 in
theorem wl_La_141 : (Cond.methodLink R_La 141 y_La_enter) ∈ T0 := tw_3 114 rfl rfl
set_option maxRecDepth 20000 in
theorem ws_La_enter : (Cond.static y_La_enter) ∈ T0 := tw_3 115 rfl rfl
abbrev hh_La_enter : List (Nat × Nat × Nat × Nat) := [(0, 16, 19, 13), (0, 16, 23, 15), (0, 16, 27, 17), (0, 16, 31, 19)]
set_option maxRecDepth 20000 in
theorem wo_La_enter : (Cond.codeWith y_La_enter b_La_enter 8 (some .int) hh_La_enter) ∈ T0 := tw_3 116 rfl rfl
set_option maxRecDepth 20000 in
theorem wl_La_65 : (Cond.methodLink R_La 65 y_Ke_enter) ∈ T0 := tw_3 117 rfl rfl
set_option maxRecDepth 20000 in
theorem wm_Ke_enter : (Cond.instanceMethod y_Ke_enter) ∈ T0 := tw_3 118 rfl rfl
set_option maxRecDepth 20000 in
theorem we_Ke_enter : (Cond.selects R_Ke y_Ke_enter y_Ke_enter) ∈ T0 := tw_3 119 rfl rfl
set_option maxRecDepth 20000 in
theorem wo_Ke_enter : (Cond.code y_Ke_enter b_Ke_enter 6 (some .int)) ∈ T0 := tw_3 120 rfl rfl
set_option maxRecDepth 20000 in
theorem wl_Ke_172 : (Cond.methodLink R_Ke 172 y_Tg_guardOf) ∈ T0 := tw_3 121 rfl rfl
set_option maxRecDepth 20000 in
theorem wm_Tg_guardOf : (Cond.instanceMethod y_Tg_guardOf) ∈ T0 := tw_3 122 rfl rfl
set_option maxRecDepth 20000 in
theorem we_Tg_guardOf : (Cond.selects R_Tg y_Tg_guardOf y_Tg_guardOf) ∈ T0 := tw_3 123 rfl rfl
set_option maxRecDepth 20000 in
theorem wo_Tg_guardOf : (Cond.code y_Tg_guardOf b_Tg_guardOf 2 (some .int)) ∈ T0 := tw_3 124 rfl rfl
set_option maxRecDepth 20000 in
theorem wl_Ke_175 : (Cond.methodLink R_Ke 175 y_Lb_isJoinOf) ∈ T0 := tw_3 125 rfl rfl
set_option maxRecDepth 20000 in
theorem wm_Lb_isJoinOf : (Cond.instanceMethod y_Lb_isJoinOf) ∈ T0 := tw_3 126 rfl rfl
set_option maxRecDepth 20000 in
theorem we_Lb_isJoinOf : (Cond.selects R_Lb y_Lb_isJoinOf y_Lb_isJoinOf) ∈ T0 := tw_3 127 rfl rfl
set_option maxRecDepth 20000 in
theorem wo_Lb_isJoinOf : (Cond.code y_Lb_isJoinOf b_Lb_isJoinOf 5 (some .boolean)) ∈ T0 := tw_3 128 rfl rfl
set_option maxRecDepth 20000 in
theorem wl_Lb_40 : (Cond.methodLink R_Lb 40 y_Lb_isJoinAt) ∈ T0 := tw_3 129 rfl rfl
set_option maxRecDepth 20000 in
theorem wm_Lb_isJoinAt : (Cond.instanceMethod y_Lb_isJoinAt) ∈ T0 := tw_3 131 rfl rfl
set_option maxRecDepth 20000 in
theorem wo_Lb_isJoinAt : (Cond.code y_Lb_isJoinAt b_Lb_isJoinAt 8 (some .boolean)) ∈ T0 := tw_3 132 rfl rfl
set_option maxRecDepth 20000 in
theorem wl_Ke_178 : (Cond.methodLink R_Ke 178 y_Lb_isNowhereAboveBoth) ∈ T0 := tw_3 133 rfl rfl
set_option maxRecDepth 20000 in
theorem wm_Lb_isNowhereAboveBoth : (Cond.instanceMethod y_Lb_isNowhereAboveBoth) ∈ T0 := tw_3 134 rfl rfl
set_option maxRecDepth 20000 in
theorem we_Lb_isNowhereAboveBoth : (Cond.selects R_Lb y_Lb_isNowhereAboveBoth y_Lb_isNowhereAboveBoth) ∈ T0 := tw_3 135 rfl rfl
set_option maxRecDepth 20000 in
theorem wo_Lb_isNowhereAboveBoth : (Cond.code y_Lb_isNowhereAboveBoth b_Lb_isNowhereAboveBoth 6 (some .boolean)) ∈ T0 := tw_3 136 rfl rfl
set_option maxRecDepth 20000 in
theorem wl_Ke_181 : (Cond.methodLink R_Ke 181 y_Tg_entryOf) ∈ T0 := tw_3 137 rfl rfl
set_option maxRecDepth 20000 in
theorem wm_Tg_entryOf : (Cond.instanceMethod y_Tg_entryOf) ∈ T0 := tw_3 138 rfl rfl
set_option maxRecDepth 20000 in
theorem we_Tg_entryOf : (Cond.selects R_Tg y_Tg_entryOf y_Tg_entryOf) ∈ T0 := tw_3 139 rfl rfl
set_option maxRecDepth 20000 in
theorem wo_Tg_entryOf : (Cond.code y_Tg_entryOf b_Tg_entryOf 2 (some .int)) ∈ T0 := tw_3 140 rfl rfl
set_option maxRecDepth 20000 in
theorem wl_La_144 : (Cond.methodLink R_La 144 y_La_user) ∈ T0 := tw_3 141 rfl rfl
set_option maxRecDepth 20000 in
theorem ws_La_user : (Cond.static y_La_user) ∈ T0 := tw_3 142 rfl rfl
abbrev hh_La_user : List (Nat × Nat × Nat × Nat) := [(0, 12, 15, 13), (0, 12, 19, 15), (0, 12, 23, 17), (0, 12, 27, 19)]
set_option maxRecDepth 20000 in
theorem wo_La_user : (Cond.codeWith y_La_user b_La_user 6 (some .int) hh_La_user) ∈ T0 := tw_3 143 rfl rfl
set_option maxRecDepth 20000 in
theorem wl_La_68 : (Cond.methodLink R_La 68 y_Ke_user) ∈ T0 := tw_3 144 rfl rfl
set_option maxRecDepth 20000 in
theorem wm_Ke_user : (Cond.instanceMethod y_Ke_user) ∈ T0 := tw_3 145 rfl rfl
set_option maxRecDepth 20000 in
theorem we_Ke_user : (Cond.selects R_Ke y_Ke_user y_Ke_user) ∈ T0 := tw_3 146 rfl rfl
set_option maxRecDepth 20000 in
theorem wo_Ke_user : (Cond.code y_Ke_user b_Ke_user 11 (some .int)) ∈ T0 := tw_3 147 rfl rfl
set_option maxRecDepth 20000 in
theorem wl_Ke_184 : (Cond.methodLink R_Ke 184 y_Us_isThere) ∈ T0 := tw_3 148 rfl rfl
set_option maxRecDepth 20000 in
theorem wm_Us_isThere : (Cond.instanceMethod y_Us_isThere) ∈ T0 := tw_3 149 rfl rfl
set_option maxRecDepth 20000 in
theorem we_Us_isThere : (Cond.selects R_Us y_Us_isThere y_Us_isThere) ∈ T0 := tw_3 150 rfl rfl
set_option maxRecDepth 20000 in
theorem wo_Us_isThere : (Cond.code y_Us_isThere b_Us_isThere 2 (some .boolean)) ∈ T0 := tw_3 151 rfl rfl
set_option maxRecDepth 20000 in
theorem wl_Ke_189 : (Cond.methodLink R_Ke 189 y_Ke_category) ∈ T0 := tw_3 152 rfl rfl
set_option maxRecDepth 20000 in
theorem wl_Ke_192 : (Cond.methodLink R_Ke 192 y_Ke_label) ∈ T0 := tw_3 153 rfl rfl
set_option maxRecDepth 20000 in
theorem wl_Ke_195 : (Cond.methodLink R_Ke 195 y_Ke_container) ∈ T0 := tw_3 154 rfl rfl
set_option maxRecDepth 20000 in
theorem wl_Ke_198 : (Cond.methodLink R_Ke 198 y_Ke_segment) ∈ T0 := tw_3 155 rfl rfl
set_option maxRecDepth 20000 in
theorem wl_Ke_201 : (Cond.methodLink R_Ke 201 y_Ke_gate) ∈ T0 := tw_3 156 rfl rfl
set_option maxRecDepth 20000 in
theorem wl_Ke_205 : (Cond.methodLink R_Ke 205 y_Us_setCategories) ∈ T0 := tw_3 157 rfl rfl
set_option maxRecDepth 20000 in
theorem wm_Us_setCategories : (Cond.instanceMethod y_Us_setCategories) ∈ T0 := tw_3 158 rfl rfl
set_option maxRecDepth 20000 in
theorem we_Us_setCategories : (Cond.selects R_Us y_Us_setCategories y_Us_setCategories) ∈ T0 := tw_3 159 rfl rfl
set_option maxRecDepth 20000 in
theorem wo_Us_setCategories : (Cond.code y_Us_setCategories b_Us_setCategories 4 none) ∈ T0 := tw_3 160 rfl rfl
set_option maxRecDepth 20000 in
theorem wl_Ke_208 : (Cond.methodLink R_Ke 208 y_Us_setObjects) ∈ T0 := tw_3 161 rfl rfl
set_option maxRecDepth 20000 in
theorem wm_Us_setObjects : (Cond.instanceMethod y_Us_setObjects) ∈ T0 := tw_3 162 rfl rfl
set_option maxRecDepth 20000 in
theorem we_Us_setObjects : (Cond.selects R_Us y_Us_setObjects y_Us_setObjects) ∈ T0 := tw_3 163 rfl rfl
set_option maxRecDepth 20000 in
theorem wo_Us_setObjects : (Cond.code y_Us_setObjects b_Us_setObjects 5 none) ∈ T0 := tw_3 164 rfl rfl
set_option maxRecDepth 20000 in
theorem wl_Ke_211 : (Cond.methodLink R_Ke 211 y_Us_add) ∈ T0 := tw_3 165 rfl rfl
set_option maxRecDepth 20000 in
theorem wm_Us_add : (Cond.instanceMethod y_Us_add) ∈ T0 := tw_3 166 rfl rfl
set_option maxRecDepth 20000 in
theorem we_Us_add : (Cond.selects R_Us y_Us_add y_Us_add) ∈ T0 := tw_3 167 rfl rfl
set_option maxRecDepth 20000 in
theorem wo_Us_add : (Cond.code y_Us_add b_Us_add 3 none) ∈ T0 := tw_3 168 rfl rfl
set_option maxRecDepth 20000 in
theorem wl_La_147 : (Cond.methodLink R_La 147 y_La_login) ∈ T0 := tw_3 169 rfl rfl
set_option maxRecDepth 20000 in
theorem ws_La_login : (Cond.static y_La_login) ∈ T0 := tw_3 170 rfl rfl
abbrev hh_La_login : List (Nat × Nat × Nat × Nat) := [(0, 12, 15, 13), (0, 12, 19, 15), (0, 12, 23, 17), (0, 12, 27, 19)]
set_option maxRecDepth 20000 in
theorem wo_La_login : (Cond.codeWith y_La_login b_La_login 6 (some .int) hh_La_login) ∈ T0 := tw_3 171 rfl rfl
set_option maxRecDepth 20000 in
theorem wl_La_71 : (Cond.methodLink R_La 71 y_Ke_login) ∈ T0 := tw_3 172 rfl rfl
set_option maxRecDepth 20000 in
theorem wm_Ke_login : (Cond.instanceMethod y_Ke_login) ∈ T0 := tw_3 173 rfl rfl
set_option maxRecDepth 20000 in
theorem we_Ke_login : (Cond.selects R_Ke y_Ke_login y_Ke_login) ∈ T0 := tw_3 174 rfl rfl
set_option maxRecDepth 20000 in
theorem wo_Ke_login : (Cond.code y_Ke_login b_Ke_login 8 (some .int)) ∈ T0 := tw_3 175 rfl rfl
set_option maxRecDepth 20000 in
theorem wl_Ke_213 : (Cond.methodLink R_Ke 213 y_Us_passwordOf) ∈ T0 := tw_3 176 rfl rfl
set_option maxRecDepth 20000 in
theorem wm_Us_passwordOf : (Cond.instanceMethod y_Us_passwordOf) ∈ T0 := tw_3 177 rfl rfl
set_option maxRecDepth 20000 in
theorem we_Us_passwordOf : (Cond.selects R_Us y_Us_passwordOf y_Us_passwordOf) ∈ T0 := tw_3 178 rfl rfl
set_option maxRecDepth 20000 in
theorem wo_Us_passwordOf : (Cond.code y_Us_passwordOf b_Us_passwordOf 2 (some .int)) ∈ T0 := tw_3 179 rfl rfl
set_option maxRecDepth 20000 in
theorem wl_Ke_216 : (Cond.methodLink R_Ke 216 y_Us_firstCategoryOf) ∈ T0 := tw_3 180 rfl rfl
set_option maxRecDepth 20000 in
theorem wm_Us_firstCategoryOf : (Cond.instanceMethod y_Us_firstCategoryOf) ∈ T0 := tw_3 181 rfl rfl
set_option maxRecDepth 20000 in
theorem we_Us_firstCategoryOf : (Cond.selects R_Us y_Us_firstCategoryOf y_Us_firstCategoryOf) ∈ T0 := tw_3 182 rfl rfl
set_option maxRecDepth 20000 in
theorem wo_Us_firstCategoryOf : (Cond.code y_Us_firstCategoryOf b_Us_firstCategoryOf 2 (some .int)) ∈ T0 := tw_3 183 rfl rfl
set_option maxRecDepth 20000 in
theorem wl_Ke_219 : (Cond.methodLink R_Ke 219 y_Us_secondCategoryOf) ∈ T0 := tw_3 184 rfl rfl
set_option maxRecDepth 20000 in
theorem wm_Us_secondCategoryOf : (Cond.instanceMethod y_Us_secondCategoryOf) ∈ T0 := tw_3 185 rfl rfl
set_option maxRecDepth 20000 in
theorem we_Us_secondCategoryOf : (Cond.selects R_Us y_Us_secondCategoryOf y_Us_secondCategoryOf) ∈ T0 := tw_3 186 rfl rfl
set_option maxRecDepth 20000 in
theorem wo_Us_secondCategoryOf : (Cond.code y_Us_secondCategoryOf b_Us_secondCategoryOf 2 (some .int)) ∈ T0 := tw_3 187 rfl rfl
set_option maxRecDepth 20000 in
theorem wl_Ke_222 : (Cond.methodLink R_Ke 222 y_Us_gateOf) ∈ T0 := tw_3 188 rfl rfl
set_option maxRecDepth 20000 in
theorem wm_Us_gateOf : (Cond.instanceMethod y_Us_gateOf) ∈ T0 := tw_3 189 rfl rfl
set_option maxRecDepth 20000 in
theorem we_Us_gateOf : (Cond.selects R_Us y_Us_gateOf y_Us_gateOf) ∈ T0 := tw_3 190 rfl rfl
set_option maxRecDepth 20000 in
theorem wo_Us_gateOf : (Cond.code y_Us_gateOf b_Us_gateOf 2 (some .int)) ∈ T0 := tw_3 191 rfl rfl
set_option maxRecDepth 20000 in
theorem wl_Ke_225 : (Cond.methodLink R_Ke 225 y_Ke_enter) ∈ T0 := tw_3 192 rfl rfl
set_option maxRecDepth 20000 in
theorem wl_La_150 : (Cond.methodLink R_La 150 y_La_file) ∈ T0 := tw_3 193 rfl rfl
set_option maxRecDepth 20000 in
theorem ws_La_file : (Cond.static y_La_file) ∈ T0 := tw_3 194 rfl rfl
abbrev hh_La_file : List (Nat × Nat × Nat × Nat) := [(0, 14, 17, 13), (0, 14, 21, 15), (0, 14, 25, 17), (0, 14, 29, 19)]
set_option maxRecDepth 20000 in
theorem wo_La_file : (Cond.codeWith y_La_file b_La_file 7 (some .int) hh_La_file) ∈ T0 := tw_3 195 rfl rfl
set_option maxRecDepth 20000 in
theorem wl_La_74 : (Cond.methodLink R_La 74 y_Ke_file) ∈ T0 := tw_3 196 rfl rfl
set_option maxRecDepth 20000 in
theorem wm_Ke_file : (Cond.instanceMethod y_Ke_file) ∈ T0 := tw_3 197 rfl rfl
set_option maxRecDepth 20000 in
theorem we_Ke_file : (Cond.selects R_Ke y_Ke_file y_Ke_file) ∈ T0 := tw_3 198 rfl rfl
set_option maxRecDepth 20000 in
theorem wo_Ke_file : (Cond.code y_Ke_file b_Ke_file 9 (some .int)) ∈ T0 := tw_3 199 rfl rfl
set_option maxRecDepth 20000 in
theorem wl_Ke_228 : (Cond.methodLink R_Ke 228 y_Us_homeOf) ∈ T0 := tw_3 200 rfl rfl
set_option maxRecDepth 20000 in
theorem wm_Us_homeOf : (Cond.instanceMethod y_Us_homeOf) ∈ T0 := tw_3 201 rfl rfl
set_option maxRecDepth 20000 in
theorem we_Us_homeOf : (Cond.selects R_Us y_Us_homeOf y_Us_homeOf) ∈ T0 := tw_3 202 rfl rfl
set_option maxRecDepth 20000 in
theorem wo_Us_homeOf : (Cond.code y_Us_homeOf b_Us_homeOf 2 (some .int)) ∈ T0 := tw_3 203 rfl rfl
set_option maxRecDepth 20000 in
theorem wl_Ke_231 : (Cond.methodLink R_Ke 231 y_Us_directoryOf) ∈ T0 := tw_3 204 rfl rfl
set_option maxRecDepth 20000 in
theorem wm_Us_directoryOf : (Cond.instanceMethod y_Us_directoryOf) ∈ T0 := tw_3 205 rfl rfl
set_option maxRecDepth 20000 in
theorem we_Us_directoryOf : (Cond.selects R_Us y_Us_directoryOf y_Us_directoryOf) ∈ T0 := tw_3 206 rfl rfl
set_option maxRecDepth 20000 in
theorem wo_Us_directoryOf : (Cond.code y_Us_directoryOf b_Us_directoryOf 2 (some .int)) ∈ T0 := tw_3 207 rfl rfl
set_option maxRecDepth 20000 in
theorem wl_Ke_234 : (Cond.methodLink R_Ke 234 y_Ke_read) ∈ T0 := tw_3 208 rfl rfl
set_option maxRecDepth 20000 in
theorem wl_Ke_237 : (Cond.methodLink R_Ke 237 y_Ke_drop) ∈ T0 := tw_3 209 rfl rfl
set_option maxRecDepth 20000 in
theorem wl_Ke_240 : (Cond.methodLink R_Ke 240 y_Ke_write) ∈ T0 := tw_3 210 rfl rfl
set_option maxRecDepth 20000 in
theorem wl_La_153 : (Cond.methodLink R_La 153 y_La_access) ∈ T0 := tw_3 211 rfl rfl
set_option maxRecDepth 20000 in
theorem ws_La_access : (Cond.static y_La_access) ∈ T0 := tw_3 212 rfl rfl
abbrev hh_La_access : List (Nat × Nat × Nat × Nat) := [(0, 18, 21, 13), (0, 18, 25, 15), (0, 18, 29, 17), (0, 18, 33, 19)]
set_option maxRecDepth 20000 in
theorem wo_La_access : (Cond.codeWith y_La_access b_La_access 9 (some .int) hh_La_access) ∈ T0 := tw_3 213 rfl rfl
set_option maxRecDepth 20000 in
theorem wl_La_77 : (Cond.methodLink R_La 77 y_Ke_access) ∈ T0 := tw_3 214 rfl rfl
set_option maxRecDepth 20000 in
theorem wm_Ke_access : (Cond.instanceMethod y_Ke_access) ∈ T0 := tw_3 215 rfl rfl
set_option maxRecDepth 20000 in
theorem we_Ke_access : (Cond.selects R_Ke y_Ke_access y_Ke_access) ∈ T0 := tw_3 216 rfl rfl
set_option maxRecDepth 20000 in
theorem wo_Ke_access : (Cond.code y_Ke_access b_Ke_access 9 (some .int)) ∈ T0 := tw_3 217 rfl rfl
set_option maxRecDepth 20000 in
theorem wl_La_166 : (Cond.methodLink R_La 166 y_La_object) ∈ T0 := tw_3 218 rfl rfl
set_option maxRecDepth 20000 in
theorem ws_La_object : (Cond.static y_La_object) ∈ T0 := tw_3 219 rfl rfl
abbrev hh_La_object : List (Nat × Nat × Nat × Nat) := [(0, 10, 13, 13), (0, 10, 17, 15), (0, 10, 21, 17), (0, 10, 25, 19)]
set_option maxRecDepth 20000 in
theorem wo_La_object : (Cond.codeWith y_La_object b_La_object 5 (some .int) hh_La_object) ∈ T0 := tw_3 220 rfl rfl
set_option maxRecDepth 20000 in
theorem wl_La_81 : (Cond.methodLink R_La 81 y_Ke_object) ∈ T0 := tw_3 221 rfl rfl
set_option maxRecDepth 20000 in
theorem wm_Ke_object : (Cond.instanceMethod y_Ke_object) ∈ T0 := tw_3 222 rfl rfl
set_option maxRecDepth 20000 in
theorem we_Ke_object : (Cond.selects R_Ke y_Ke_object y_Ke_object) ∈ T0 := tw_3 223 rfl rfl
set_option maxRecDepth 20000 in
theorem wo_Ke_object : (Cond.code y_Ke_object b_Ke_object 3 (some .int)) ∈ T0 := tw_3 224 rfl rfl
set_option maxRecDepth 20000 in
theorem wl_Ke_251 : (Cond.methodLink R_Ke 251 y_Tg_kindOf) ∈ T0 := tw_3 225 rfl rfl
set_option maxRecDepth 20000 in
theorem wm_Tg_kindOf : (Cond.instanceMethod y_Tg_kindOf) ∈ T0 := tw_3 226 rfl rfl
set_option maxRecDepth 20000 in
theorem we_Tg_kindOf : (Cond.selects R_Tg y_Tg_kindOf y_Tg_kindOf) ∈ T0 := tw_3 227 rfl rfl
set_option maxRecDepth 20000 in
theorem wo_Tg_kindOf : (Cond.code y_Tg_kindOf b_Tg_kindOf 2 (some .int)) ∈ T0 := tw_3 228 rfl rfl
set_option maxRecDepth 20000 in
theorem wl_Ke_254 : (Cond.methodLink R_Ke 254 y_Tg_placeOf) ∈ T0 := tw_3 229 rfl rfl
set_option maxRecDepth 20000 in
theorem wm_Tg_placeOf : (Cond.instanceMethod y_Tg_placeOf) ∈ T0 := tw_3 230 rfl rfl
set_option maxRecDepth 20000 in
theorem we_Tg_placeOf : (Cond.selects R_Tg y_Tg_placeOf y_Tg_placeOf) ∈ T0 := tw_3 231 rfl rfl
set_option maxRecDepth 20000 in
theorem wo_Tg_placeOf : (Cond.code y_Tg_placeOf b_Tg_placeOf 2 (some .int)) ∈ T0 := tw_3 232 rfl rfl
set_option maxRecDepth 20000 in
theorem wl_La_169 : (Cond.methodLink R_La 169 y_La_in) ∈ T0 := tw_3 233 rfl rfl
set_option maxRecDepth 20000 in
theorem ws_La_in : (Cond.static y_La_in) ∈ T0 := tw_3 234 rfl rfl
abbrev hh_La_in : List (Nat × Nat × Nat × Nat) := [(0, 10, 13, 13), (0, 10, 17, 15), (0, 10, 21, 17), (0, 10, 25, 19)]
set_option maxRecDepth 20000 in
theorem wo_La_in : (Cond.codeWith y_La_in b_La_in 5 (some .int) hh_La_in) ∈ T0 := tw_3 235 rfl rfl
set_option maxRecDepth 20000 in
theorem wl_La_84 : (Cond.methodLink R_La 84 y_Ke_in) ∈ T0 := tw_3 236 rfl rfl
set_option maxRecDepth 20000 in
theorem wm_Ke_in : (Cond.instanceMethod y_Ke_in) ∈ T0 := tw_3 237 rfl rfl
set_option maxRecDepth 20000 in
theorem we_Ke_in : (Cond.selects R_Ke y_Ke_in y_Ke_in) ∈ T0 := tw_3 238 rfl rfl
set_option maxRecDepth 20000 in
theorem wo_Ke_in : (Cond.code y_Ke_in b_Ke_in 4 (some .int)) ∈ T0 := tw_3 239 rfl rfl
set_option maxRecDepth 20000 in
theorem wl_Ke_260 : (Cond.methodLink R_Ke 260 y_Tg_nthIn) ∈ T0 := tw_4 0 rfl rfl
set_option maxRecDepth 20000 in
theorem wm_Tg_nthIn : (Cond.instanceMethod y_Tg_nthIn) ∈ T0 := tw_4 1 rfl rfl
set_option maxRecDepth 20000 in
theorem we_Tg_nthIn : (Cond.selects R_Tg y_Tg_nthIn y_Tg_nthIn) ∈ T0 := tw_4 2 rfl rfl
set_option maxRecDepth 20000 in
theorem wo_Tg_nthIn : (Cond.code y_Tg_nthIn b_Tg_nthIn 5 (some .int)) ∈ T0 := tw_4 3 rfl rfl
set_option maxRecDepth 20000 in
theorem wc_La_88 : (Cond.classLink R_La 88 R_Mo) ∈ T0 := tw_4 4 rfl rfl
set_option maxRecDepth 20000 in
theorem wn_Mo : (Cond.instantiable R_Mo 3) ∈ T0 := tw_4 5 rfl rfl
set_option maxRecDepth 20000 in
theorem wl_La_90 : (Cond.methodLink R_La 90 y_Mo_init) ∈ T0 := tw_4 6 rfl rfl
set_option maxRecDepth 20000 in
theorem wm_Mo_init : (Cond.instanceMethod y_Mo_init) ∈ T0 := tw_4 7 rfl rfl
set_option maxRecDepth 20000 in
theorem wo_Mo_init : (Cond.code y_Mo_init b_Mo_init 2 none) ∈ T0 := tw_4 8 rfl rfl
set_option maxRecDepth 20000 in
theorem wl_Mo_1 : (Cond.methodLink R_Mo 1 ⟨"java/lang/Object", "<init>", "()V"⟩) ∈ T0 := tw_4 9 rfl rfl
set_option maxRecDepth 20000 in
theorem wf_Mo_7 : (Cond.fieldLink R_Mo 7 "LabelKernelModel" "row" "[I") ∈ T0 := tw_4 10 rfl rfl
set_option maxRecDepth 20000 in
theorem wf_Mo_13 : (Cond.fieldLink R_Mo 13 "LabelKernelModel" "kept" "[I") ∈ T0 := tw_4 11 rfl rfl
set_option maxRecDepth 20000 in
theorem wf_Mo_16 : (Cond.fieldLink R_Mo 16 "LabelKernelModel" "code" "I") ∈ T0 := tw_4 12 rfl rfl
set_option maxRecDepth 20000 in
theorem wl_La_172 : (Cond.methodLink R_La 172 y_Mo_thrown) ∈ T0 := tw_4 20 rfl rfl
set_option maxRecDepth 20000 in
theorem wm_Mo_thrown : (Cond.instanceMethod y_Mo_thrown) ∈ T0 := tw_4 21 rfl rfl
set_option maxRecDepth 20000 in
theorem we_Mo_thrown : (Cond.selects R_Mo y_Mo_thrown y_Mo_thrown) ∈ T0 := tw_4 22 rfl rfl
set_option maxRecDepth 20000 in
theorem wo_Mo_thrown : (Cond.code y_Mo_thrown b_Mo_thrown 1 (some .int)) ∈ T0 := tw_4 23 rfl rfl
set_option maxRecDepth 20000 in
theorem wl_La_96 : (Cond.methodLink R_La 96 y_Mo_label) ∈ T0 := tw_4 24 rfl rfl
set_option maxRecDepth 20000 in
theorem wm_Mo_label : (Cond.instanceMethod y_Mo_label) ∈ T0 := tw_4 25 rfl rfl
set_option maxRecDepth 20000 in
theorem we_Mo_label : (Cond.selects R_Mo y_Mo_label y_Mo_label) ∈ T0 := tw_4 26 rfl rfl
set_option maxRecDepth 20000 in
theorem wo_Mo_label : (Cond.code y_Mo_label b_Mo_label 4 (some .int)) ∈ T0 := tw_4 27 rfl rfl
set_option maxRecDepth 20000 in
theorem wl_Mo_54 : (Cond.methodLink R_Mo 54 y_Mo_isLabel) ∈ T0 := tw_4 28 rfl rfl
set_option maxRecDepth 20000 in
theorem wm_Mo_isLabel : (Cond.instanceMethod y_Mo_isLabel) ∈ T0 := tw_4 30 rfl rfl
set_option maxRecDepth 20000 in
theorem wo_Mo_isLabel : (Cond.code y_Mo_isLabel b_Mo_isLabel 2 (some .boolean)) ∈ T0 := tw_4 31 rfl rfl
set_option maxRecDepth 20000 in
theorem wl_Mo_28 : (Cond.methodLink R_Mo 28 y_Mo_within) ∈ T0 := tw_4 32 rfl rfl
set_option maxRecDepth 20000 in
theorem ws_Mo_within : (Cond.static y_Mo_within) ∈ T0 := tw_4 33 rfl rfl
set_option maxRecDepth 20000 in
theorem wo_Mo_within : (Cond.code y_Mo_within b_Mo_within 3 (some .boolean)) ∈ T0 := tw_4 34 rfl rfl
set_option maxRecDepth 20000 in
theorem wl_Mo_51 : (Cond.methodLink R_Mo 51 y_Mo_fail) ∈ T0 := tw_4 35 rfl rfl
set_option maxRecDepth 20000 in
theorem wm_Mo_fail : (Cond.instanceMethod y_Mo_fail) ∈ T0 := tw_4 37 rfl rfl
set_option maxRecDepth 20000 in
theorem wo_Mo_fail : (Cond.code y_Mo_fail b_Mo_fail 2 (some .int)) ∈ T0 := tw_4 38 rfl rfl
set_option maxRecDepth 20000 in
theorem wl_Mo_57 : (Cond.methodLink R_Mo 57 y_Mo_made) ∈ T0 := tw_4 39 rfl rfl
set_option maxRecDepth 20000 in
theorem wm_Mo_made : (Cond.instanceMethod y_Mo_made) ∈ T0 := tw_4 41 rfl rfl
set_option maxRecDepth 20000 in
theorem wo_Mo_made : (Cond.code y_Mo_made b_Mo_made 6 (some .int)) ∈ T0 := tw_4 42 rfl rfl
set_option maxRecDepth 20000 in
theorem wl_Mo_47 : (Cond.methodLink R_Mo 47 y_Mo_like) ∈ T0 := tw_4 43 rfl rfl
set_option maxRecDepth 20000 in
theorem wm_Mo_like : (Cond.instanceMethod y_Mo_like) ∈ T0 := tw_4 45 rfl rfl
set_option maxRecDepth 20000 in
theorem wo_Mo_like : (Cond.code y_Mo_like b_Mo_like 7 (some .int)) ∈ T0 := tw_4 46 rfl rfl
set_option maxRecDepth 20000 in
theorem wl_Mo_20 : (Cond.methodLink R_Mo 20 y_Mo_lev) ∈ T0 := tw_4 47 rfl rfl
set_option maxRecDepth 20000 in
theorem wm_Mo_lev : (Cond.instanceMethod y_Mo_lev) ∈ T0 := tw_4 49 rfl rfl
set_option maxRecDepth 20000 in
theorem wo_Mo_lev : (Cond.code y_Mo_lev b_Mo_lev 3 (some .int)) ∈ T0 := tw_4 50 rfl rfl
set_option maxRecDepth 20000 in
theorem wl_La_100 : (Cond.methodLink R_La 100 y_Mo_level) ∈ T0 := tw_4 51 rfl rfl
set_option maxRecDepth 20000 in
theorem wm_Mo_level : (Cond.instanceMethod y_Mo_level) ∈ T0 := tw_4 52 rfl rfl
set_option maxRecDepth 20000 in
theorem we_Mo_level : (Cond.selects R_Mo y_Mo_level y_Mo_level) ∈ T0 := tw_4 53 rfl rfl
set_option maxRecDepth 20000 in
theorem wo_Mo_level : (Cond.code y_Mo_level b_Mo_level 3 (some .int)) ∈ T0 := tw_4 54 rfl rfl
set_option maxRecDepth 20000 in
theorem wl_La_104 : (Cond.methodLink R_La 104 y_Mo_fits) ∈ T0 := tw_4 55 rfl rfl
set_option maxRecDepth 20000 in
theorem wm_Mo_fits : (Cond.instanceMethod y_Mo_fits) ∈ T0 := tw_4 56 rfl rfl
set_option maxRecDepth 20000 in
theorem we_Mo_fits : (Cond.selects R_Mo y_Mo_fits y_Mo_fits) ∈ T0 := tw_4 57 rfl rfl
set_option maxRecDepth 20000 in
theorem wo_Mo_fits : (Cond.code y_Mo_fits b_Mo_fits 4 (some .boolean)) ∈ T0 := tw_4 58 rfl rfl
set_option maxRecDepth 20000 in
theorem wl_Mo_35 : (Cond.methodLink R_Mo 35 y_Mo_under) ∈ T0 := tw_4 59 rfl rfl
set_option maxRecDepth 20000 in
theorem wm_Mo_under : (Cond.instanceMethod y_Mo_under) ∈ T0 := tw_4 61 rfl rfl
set_option maxRecDepth 20000 in
theorem wo_Mo_under : (Cond.code y_Mo_under b_Mo_under 6 (some .boolean)) ∈ T0 := tw_4 62 rfl rfl
set_option maxRecDepth 20000 in
theorem wl_Mo_24 : (Cond.methodLink R_Mo 24 y_Mo_low) ∈ T0 := tw_4 63 rfl rfl
set_option maxRecDepth 20000 in
theorem ws_Mo_low : (Cond.static y_Mo_low) ∈ T0 := tw_4 64 rfl rfl
set_option maxRecDepth 20000 in
theorem wo_Mo_low : (Cond.code y_Mo_low b_Mo_low 1 (some .int)) ∈ T0 := tw_4 65 rfl rfl
set_option maxRecDepth 20000 in
theorem wl_La_108 : (Cond.methodLink R_La 108 y_Mo_category) ∈ T0 := tw_4 66 rfl rfl
set_option maxRecDepth 20000 in
theorem wm_Mo_category : (Cond.instanceMethod y_Mo_category) ∈ T0 := tw_4 67 rfl rfl
set_option maxRecDepth 20000 in
theorem we_Mo_category : (Cond.selects R_Mo y_Mo_category y_Mo_category) ∈ T0 := tw_4 68 rfl rfl
set_option maxRecDepth 20000 in
theorem wo_Mo_category : (Cond.code y_Mo_category b_Mo_category 2 (some .int)) ∈ T0 := tw_4 69 rfl rfl
set_option maxRecDepth 20000 in
theorem wl_Mo_63 : (Cond.methodLink R_Mo 63 y_Mo_giveCategory) ∈ T0 := tw_4 70 rfl rfl
set_option maxRecDepth 20000 in
theorem wm_Mo_giveCategory : (Cond.instanceMethod y_Mo_giveCategory) ∈ T0 := tw_4 72 rfl rfl
set_option maxRecDepth 20000 in
theorem wo_Mo_giveCategory : (Cond.code y_Mo_giveCategory b_Mo_giveCategory 4 (some .int)) ∈ T0 := tw_4 73 rfl rfl
set_option maxRecDepth 20000 in
theorem wl_Mo_60 : (Cond.methodLink R_Mo 60 y_Mo_threadOnly) ∈ T0 := tw_4 74 rfl rfl
set_option maxRecDepth 20000 in
theorem wm_Mo_threadOnly : (Cond.instanceMethod y_Mo_threadOnly) ∈ T0 := tw_4 76 rfl rfl
set_option maxRecDepth 20000 in
theorem wo_Mo_threadOnly : (Cond.code y_Mo_threadOnly b_Mo_threadOnly 2 (some .boolean)) ∈ T0 := tw_4 77 rfl rfl
set_option maxRecDepth 20000 in
theorem wl_Mo_43 : (Cond.methodLink R_Mo 43 y_Mo_there) ∈ T0 := tw_4 78 rfl rfl
set_option maxRecDepth 20000 in
theorem wm_Mo_there : (Cond.instanceMethod y_Mo_there) ∈ T0 := tw_4 80 rfl rfl
set_option maxRecDepth 20000 in
theorem wo_Mo_there : (Cond.code y_Mo_there b_Mo_there 2 (some .boolean)) ∈ T0 := tw_4 81 rfl rfl
set_option maxRecDepth 20000 in
theorem wl_Mo_32 : (Cond.methodLink R_Mo 32 y_Mo_at) ∈ T0 := tw_4 82 rfl rfl
set_option maxRecDepth 20000 in
theorem wm_Mo_at : (Cond.instanceMethod y_Mo_at) ∈ T0 := tw_4 84 rfl rfl
set_option maxRecDepth 20000 in
theorem wo_Mo_at : (Cond.code y_Mo_at b_Mo_at 3 (some .int)) ∈ T0 := tw_4 85 rfl rfl
set_option maxRecDepth 20000 in
theorem wl_La_112 : (Cond.methodLink R_La 112 y_Mo_container) ∈ T0 := tw_4 86 rfl rfl
set_option maxRecDepth 20000 in
theorem wm_Mo_container : (Cond.instanceMethod y_Mo_container) ∈ T0 := tw_4 87 rfl rfl
set_option maxRecDepth 20000 in
theorem we_Mo_container : (Cond.selects R_Mo y_Mo_container y_Mo_container) ∈ T0 := tw_4 88 rfl rfl
set_option maxRecDepth 20000 in
theorem wo_Mo_container : (Cond.code y_Mo_container b_Mo_container 5 (some .int)) ∈ T0 := tw_4 89 rfl rfl
set_option maxRecDepth 20000 in
theorem wl_Mo_88 : (Cond.methodLink R_Mo 88 y_Mo_makeContainer) ∈ T0 := tw_4 90 rfl rfl
set_option maxRecDepth 20000 in
theorem wm_Mo_makeContainer : (Cond.instanceMethod y_Mo_makeContainer) ∈ T0 := tw_4 92 rfl rfl
set_option maxRecDepth 20000 in
theorem wo_Mo_makeContainer : (Cond.code y_Mo_makeContainer b_Mo_makeContainer 5 (some .int)) ∈ T0 := tw_4 93 rfl rfl
set_option maxRecDepth 20000 in
theorem wl_Mo_81 : (Cond.methodLink R_Mo 81 y_Mo_starless) ∈ T0 := tw_4 94 rfl rfl
set_option maxRecDepth 20000 in
theorem wm_Mo_starless : (Cond.instanceMethod y_Mo_starless) ∈ T0 := tw_4 96 rfl rfl
set_option maxRecDepth 20000 in
theorem wo_Mo_starless : (Cond.code y_Mo_starless b_Mo_starless 3 (some .boolean)) ∈ T0 := tw_4 97 rfl rfl
set_option maxRecDepth 20000 in
theorem wl_Mo_84 : (Cond.methodLink R_Mo 84 y_Mo_make) ∈ T0 := tw_4 98 rfl rfl
set_option maxRecDepth 20000 in
theorem wm_Mo_make : (Cond.instanceMethod y_Mo_make) ∈ T0 := tw_4 100 rfl rfl
set_option maxRecDepth 20000 in
theorem wo_Mo_make : (Cond.code y_Mo_make b_Mo_make 10 (some .int)) ∈ T0 := tw_4 101 rfl rfl
set_option maxRecDepth 20000 in
theorem wl_Mo_69 : (Cond.methodLink R_Mo 69 y_Mo_changes) ∈ T0 := tw_4 102 rfl rfl
set_option maxRecDepth 20000 in
theorem wm_Mo_changes : (Cond.instanceMethod y_Mo_changes) ∈ T0 := tw_4 104 rfl rfl
set_option maxRecDepth 20000 in
theorem wo_Mo_changes : (Cond.code y_Mo_changes b_Mo_changes 3 (some .boolean)) ∈ T0 := tw_4 105 rfl rfl
set_option maxRecDepth 20000 in
theorem wl_Mo_39 : (Cond.methodLink R_Mo 39 y_Mo_sees) ∈ T0 := tw_4 106 rfl rfl
set_option maxRecDepth 20000 in
theorem wm_Mo_sees : (Cond.instanceMethod y_Mo_sees) ∈ T0 := tw_4 108 rfl rfl
set_option maxRecDepth 20000 in
theorem wo_Mo_sees : (Cond.code y_Mo_sees b_Mo_sees 3 (some .boolean)) ∈ T0 := tw_4 109 rfl rfl
set_option maxRecDepth 20000 in
theorem wl_Mo_72 : (Cond.methodLink R_Mo 72 y_Mo_starsOf) ∈ T0 := tw_4 110 rfl rfl
set_option maxRecDepth 20000 in
theorem wm_Mo_starsOf : (Cond.instanceMethod y_Mo_starsOf) ∈ T0 := tw_4 112 rfl rfl
set_option maxRecDepth 20000 in
theorem wo_Mo_starsOf : (Cond.code y_Mo_starsOf b_Mo_starsOf 4 (some .boolean)) ∈ T0 := tw_4 113 rfl rfl
set_option maxRecDepth 20000 in
theorem wl_Mo_66 : (Cond.methodLink R_Mo 66 y_Mo_starsWithin) ∈ T0 := tw_4 114 rfl rfl
set_option maxRecDepth 20000 in
theorem ws_Mo_starsWithin : (Cond.static y_Mo_starsWithin) ∈ T0 := tw_4 115 rfl rfl
set_option maxRecDepth 20000 in
theorem wo_Mo_starsWithin : (Cond.code y_Mo_starsWithin b_Mo_starsWithin 2 (some .boolean)) ∈ T0 := tw_4 116 rfl rfl
set_option maxRecDepth 20000 in
theorem wl_Mo_75 : (Cond.methodLink R_Mo 75 y_Mo_use) ∈ T0 := tw_4 117 rfl rfl
set_option maxRecDepth 20000 in
theorem wm_Mo_use : (Cond.instanceMethod y_Mo_use) ∈ T0 := tw_4 119 rfl rfl
set_option maxRecDepth 20000 in
theorem wo_Mo_use : (Cond.code y_Mo_use b_Mo_use 4 (some .int)) ∈ T0 := tw_4 120 rfl rfl
set_option maxRecDepth 20000 in
theorem wl_Mo_78 : (Cond.methodLink R_Mo 78 y_Mo_deep) ∈ T0 := tw_4 121 rfl rfl
set_option maxRecDepth 20000 in
theorem wm_Mo_deep : (Cond.instanceMethod y_Mo_deep) ∈ T0 := tw_4 123 rfl rfl
set_option maxRecDepth 20000 in
theorem wo_Mo_deep : (Cond.code y_Mo_deep b_Mo_deep 4 (some .int)) ∈ T0 := tw_4 124 rfl rfl
set_option maxRecDepth 20000 in
theorem wl_La_115 : (Cond.methodLink R_La 115 y_Mo_segment) ∈ T0 := tw_4 125 rfl rfl
set_option maxRecDepth 20000 in
theorem wm_Mo_segment : (Cond.instanceMethod y_Mo_segment) ∈ T0 := tw_4 126 rfl rfl
set_option maxRecDepth 20000 in
theorem we_Mo_segment : (Cond.selects R_Mo y_Mo_segment y_Mo_segment) ∈ T0 := tw_4 127 rfl rfl
set_option maxRecDepth 20000 in
theorem wo_Mo_segment : (Cond.code y_Mo_segment b_Mo_segment 5 (some .int)) ∈ T0 := tw_4 128 rfl rfl
set_option maxRecDepth 20000 in
theorem wl_Mo_92 : (Cond.methodLink R_Mo 92 y_Mo_makeSegment) ∈ T0 := tw_4 129 rfl rfl
set_option maxRecDepth 20000 in
theorem wm_Mo_makeSegment : (Cond.instanceMethod y_Mo_makeSegment) ∈ T0 := tw_4 131 rfl rfl
set_option maxRecDepth 20000 in
theorem wo_Mo_makeSegment : (Cond.code y_Mo_makeSegment b_Mo_makeSegment 6 (some .int)) ∈ T0 := tw_4 132 rfl rfl
set_option maxRecDepth 20000 in
theorem wl_La_119 : (Cond.methodLink R_La 119 y_Mo_gate) ∈ T0 := tw_4 133 rfl rfl
set_option maxRecDepth 20000 in
theorem wm_Mo_gate : (Cond.instanceMethod y_Mo_gate) ∈ T0 := tw_4 134 rfl rfl
set_option maxRecDepth 20000 in
theorem we_Mo_gate : (Cond.selects R_Mo y_Mo_gate y_Mo_gate) ∈ T0 := tw_4 135 rfl rfl
set_option maxRecDepth 20000 in
theorem wo_Mo_gate : (Cond.code y_Mo_gate b_Mo_gate 6 (some .int)) ∈ T0 := tw_4 136 rfl rfl
set_option maxRecDepth 20000 in
theorem wl_Mo_95 : (Cond.methodLink R_Mo 95 y_Mo_makeGate) ∈ T0 := tw_4 137 rfl rfl
set_option maxRecDepth 20000 in
theorem wm_Mo_makeGate : (Cond.instanceMethod y_Mo_makeGate) ∈ T0 := tw_4 139 rfl rfl
set_option maxRecDepth 20000 in
theorem wo_Mo_makeGate : (Cond.code y_Mo_makeGate b_Mo_makeGate 7 (some .int)) ∈ T0 := tw_4 140 rfl rfl
set_option maxRecDepth 20000 in
theorem wl_La_122 : (Cond.methodLink R_La 122 y_Mo_thread) ∈ T0 := tw_4 141 rfl rfl
set_option maxRecDepth 20000 in
theorem wm_Mo_thread : (Cond.instanceMethod y_Mo_thread) ∈ T0 := tw_4 142 rfl rfl
set_option maxRecDepth 20000 in
theorem we_Mo_thread : (Cond.selects R_Mo y_Mo_thread y_Mo_thread) ∈ T0 := tw_4 143 rfl rfl
set_option maxRecDepth 20000 in
theorem wo_Mo_thread : (Cond.code y_Mo_thread b_Mo_thread 5 (some .int)) ∈ T0 := tw_4 144 rfl rfl
set_option maxRecDepth 20000 in
theorem wl_La_125 : (Cond.methodLink R_La 125 y_Mo_read) ∈ T0 := tw_4 145 rfl rfl
set_option maxRecDepth 20000 in
theorem wm_Mo_read : (Cond.instanceMethod y_Mo_read) ∈ T0 := tw_4 146 rfl rfl
set_option maxRecDepth 20000 in
theorem we_Mo_read : (Cond.selects R_Mo y_Mo_read y_Mo_read) ∈ T0 := tw_4 147 rfl rfl
set_option maxRecDepth 20000 in
theorem wo_Mo_read : (Cond.code y_Mo_read b_Mo_read 5 (some .int)) ∈ T0 := tw_4 148 rfl rfl
set_option maxRecDepth 20000 in
theorem wl_Mo_103 : (Cond.methodLink R_Mo 103 y_Mo_cell) ∈ T0 := tw_4 149 rfl rfl
set_option maxRecDepth 20000 in
theorem wm_Mo_cell : (Cond.instanceMethod y_Mo_cell) ∈ T0 := tw_4 151 rfl rfl
set_option maxRecDepth 20000 in
theorem wo_Mo_cell : (Cond.code y_Mo_cell b_Mo_cell 9 (some .int)) ∈ T0 := tw_4 152 rfl rfl
set_option maxRecDepth 20000 in
theorem wl_Mo_99 : (Cond.methodLink R_Mo 99 y_Mo_named) ∈ T0 := tw_4 153 rfl rfl
set_option maxRecDepth 20000 in
theorem wm_Mo_named : (Cond.instanceMethod y_Mo_named) ∈ T0 := tw_4 155 rfl rfl
set_option maxRecDepth 20000 in
theorem wo_Mo_named : (Cond.code y_Mo_named b_Mo_named 5 (some .boolean)) ∈ T0 := tw_4 156 rfl rfl
set_option maxRecDepth 20000 in
theorem wl_La_128 : (Cond.methodLink R_La 128 y_Mo_write) ∈ T0 := tw_4 157 rfl rfl
set_option maxRecDepth 20000 in
theorem wm_Mo_write : (Cond.instanceMethod y_Mo_write) ∈ T0 := tw_4 158 rfl rfl
set_option maxRecDepth 20000 in
theorem we_Mo_write : (Cond.selects R_Mo y_Mo_write y_Mo_write) ∈ T0 := tw_4 159 rfl rfl
set_option maxRecDepth 20000 in
theorem wo_Mo_write : (Cond.code y_Mo_write b_Mo_write 6 (some .int)) ∈ T0 := tw_4 160 rfl rfl
set_option maxRecDepth 20000 in
theorem wl_La_131 : (Cond.methodLink R_La 131 y_Mo_move) ∈ T0 := tw_4 161 rfl rfl
set_option maxRecDepth 20000 in
theorem wm_Mo_move : (Cond.instanceMethod y_Mo_move) ∈ T0 := tw_4 162 rfl rfl
set_option maxRecDepth 20000 in
theorem we_Mo_move : (Cond.selects R_Mo y_Mo_move y_Mo_move) ∈ T0 := tw_4 163 rfl rfl
set_option maxRecDepth 20000 in
theorem wo_Mo_move : (Cond.code y_Mo_move b_Mo_move 5 (some .int)) ∈ T0 := tw_4 164 rfl rfl
set_option maxRecDepth 20000 in
theorem wl_La_134 : (Cond.methodLink R_La 134 y_Mo_drop) ∈ T0 := tw_4 165 rfl rfl
set_option maxRecDepth 20000 in
theorem wm_Mo_drop : (Cond.instanceMethod y_Mo_drop) ∈ T0 := tw_4 166 rfl rfl
set_option maxRecDepth 20000 in
theorem we_Mo_drop : (Cond.selects R_Mo y_Mo_drop y_Mo_drop) ∈ T0 := tw_4 167 rfl rfl
set_option maxRecDepth 20000 in
theorem wo_Mo_drop : (Cond.code y_Mo_drop b_Mo_drop 4 (some .int)) ∈ T0 := tw_4 168 rfl rfl
set_option maxRecDepth 20000 in
theorem wl_Mo_107 : (Cond.methodLink R_Mo 107 y_Mo_remove) ∈ T0 := tw_4 169 rfl rfl
set_option maxRecDepth 20000 in
theorem wm_Mo_remove : (Cond.instanceMethod y_Mo_remove) ∈ T0 := tw_4 171 rfl rfl
set_option maxRecDepth 20000 in
theorem wo_Mo_remove : (Cond.code y_Mo_remove b_Mo_remove 6 (some .int)) ∈ T0 := tw_4 172 rfl rfl
set_option maxRecDepth 20000 in
theorem wl_La_137 : (Cond.methodLink R_La 137 y_Mo_become) ∈ T0 := tw_4 173 rfl rfl
set_option maxRecDepth 20000 in
theorem wm_Mo_become : (Cond.instanceMethod y_Mo_become) ∈ T0 := tw_4 174 rfl rfl
set_option maxRecDepth 20000 in
theorem we_Mo_become : (Cond.selects R_Mo y_Mo_become y_Mo_become) ∈ T0 := tw_4 175 rfl rfl
set_option maxRecDepth 20000 in
theorem wo_Mo_become : (Cond.code y_Mo_become b_Mo_become 3 (some .int)) ∈ T0 := tw_4 176 rfl rfl
set_option maxRecDepth 20000 in
theorem wl_La_140 : (Cond.methodLink R_La 140 y_Mo_lower) ∈ T0 := tw_4 177 rfl rfl
set_option maxRecDepth 20000 in
theorem wm_Mo_lower : (Cond.instanceMethod y_Mo_lower) ∈ T0 := tw_4 178 rfl rfl
set_option maxRecDepth 20000 in
theorem we_Mo_lower : (Cond.selects R_Mo y_Mo_lower y_Mo_lower) ∈ T0 := tw_4 179 rfl rfl
set_option maxRecDepth 20000 in
theorem wo_Mo_lower : (Cond.code y_Mo_lower b_Mo_lower 3 (some .int)) ∈ T0 := tw_4 180 rfl rfl
set_option maxRecDepth 20000 in
theorem wl_La_143 : (Cond.methodLink R_La 143 y_Mo_enter) ∈ T0 := tw_4 181 rfl rfl
set_option maxRecDepth 20000 in
theorem wm_Mo_enter : (Cond.instanceMethod y_Mo_enter) ∈ T0 := tw_4 182 rfl rfl
set_option maxRecDepth 20000 in
theorem we_Mo_enter : (Cond.selects R_Mo y_Mo_enter y_Mo_enter) ∈ T0 := tw_4 183 rfl rfl
set_option maxRecDepth 20000 in
theorem wo_Mo_enter : (Cond.code y_Mo_enter b_Mo_enter 6 (some .int)) ∈ T0 := tw_4 184 rfl rfl
set_option maxRecDepth 20000 in
theorem wl_Mo_113 : (Cond.methodLink R_Mo 113 y_Mo_go) ∈ T0 := tw_4 185 rfl rfl
set_option maxRecDepth 20000 in
theorem wm_Mo_go : (Cond.instanceMethod y_Mo_go) ∈ T0 := tw_4 187 rfl rfl
set_option maxRecDepth 20000 in
theorem wo_Mo_go : (Cond.code y_Mo_go b_Mo_go 6 (some .int)) ∈ T0 := tw_4 188 rfl rfl
set_option maxRecDepth 20000 in
theorem wl_Mo_110 : (Cond.methodLink R_Mo 110 y_Mo_passes) ∈ T0 := tw_4 189 rfl rfl
set_option maxRecDepth 20000 in
theorem wm_Mo_passes : (Cond.instanceMethod y_Mo_passes) ∈ T0 := tw_4 191 rfl rfl
set_option maxRecDepth 20000 in
theorem wo_Mo_passes : (Cond.code y_Mo_passes b_Mo_passes 10 (some .boolean)) ∈ T0 := tw_4 192 rfl rfl
set_option maxRecDepth 20000 in
theorem wl_La_146 : (Cond.methodLink R_La 146 y_Mo_user) ∈ T0 := tw_4 193 rfl rfl
set_option maxRecDepth 20000 in
theorem wm_Mo_user : (Cond.instanceMethod y_Mo_user) ∈ T0 := tw_4 194 rfl rfl
set_option maxRecDepth 20000 in
theorem we_Mo_user : (Cond.selects R_Mo y_Mo_user y_Mo_user) ∈ T0 := tw_4 195 rfl rfl
set_option maxRecDepth 20000 in
theorem wo_Mo_user : (Cond.code y_Mo_user b_Mo_user 12 (some .int)) ∈ T0 := tw_4 196 rfl rfl
set_option maxRecDepth 20000 in
theorem wl_Mo_116 : (Cond.methodLink R_Mo 116 y_Mo_of) ∈ T0 := tw_4 197 rfl rfl
set_option maxRecDepth 20000 in
theorem wm_Mo_of : (Cond.instanceMethod y_Mo_of) ∈ T0 := tw_4 199 rfl rfl
set_option maxRecDepth 20000 in
theorem wo_Mo_of : (Cond.code y_Mo_of b_Mo_of 3 (some .int)) ∈ T0 := tw_4 200 rfl rfl
set_option maxRecDepth 20000 in
theorem wl_Mo_119 : (Cond.methodLink R_Mo 119 y_Mo_both) ∈ T0 := tw_4 201 rfl rfl
set_option maxRecDepth 20000 in
theorem wm_Mo_both : (Cond.instanceMethod y_Mo_both) ∈ T0 := tw_4 203 rfl rfl
set_option maxRecDepth 20000 in
theorem wo_Mo_both : (Cond.code y_Mo_both b_Mo_both 7 (some .int)) ∈ T0 := tw_4 204 rfl rfl
set_option maxRecDepth 20000 in
theorem wl_La_149 : (Cond.methodLink R_La 149 y_Mo_login) ∈ T0 := tw_4 205 rfl rfl
set_option maxRecDepth 20000 in
theorem wm_Mo_login : (Cond.instanceMethod y_Mo_login) ∈ T0 := tw_4 206 rfl rfl
set_option maxRecDepth 20000 in
theorem we_Mo_login : (Cond.selects R_Mo y_Mo_login y_Mo_login) ∈ T0 := tw_4 207 rfl rfl
set_option maxRecDepth 20000 in
theorem wo_Mo_login : (Cond.code y_Mo_login b_Mo_login 8 (some .int)) ∈ T0 := tw_4 208 rfl rfl
set_option maxRecDepth 20000 in
theorem wl_La_152 : (Cond.methodLink R_La 152 y_Mo_file) ∈ T0 := tw_4 209 rfl rfl
set_option maxRecDepth 20000 in
theorem wm_Mo_file : (Cond.instanceMethod y_Mo_file) ∈ T0 := tw_4 210 rfl rfl
set_option maxRecDepth 20000 in
theorem we_Mo_file : (Cond.selects R_Mo y_Mo_file y_Mo_file) ∈ T0 := tw_4 211 rfl rfl
set_option maxRecDepth 20000 in
theorem wo_Mo_file : (Cond.code y_Mo_file b_Mo_file 8 (some .int)) ∈ T0 := tw_4 212 rfl rfl
set_option maxRecDepth 20000 in
theorem wl_La_156 : (Cond.methodLink R_La 156 y_Mo_access) ∈ T0 := tw_4 213 rfl rfl
set_option maxRecDepth 20000 in
theorem wm_Mo_access : (Cond.instanceMethod y_Mo_access) ∈ T0 := tw_4 214 rfl rfl
set_option maxRecDepth 20000 in
theorem we_Mo_access : (Cond.selects R_Mo y_Mo_access y_Mo_access) ∈ T0 := tw_4 215 rfl rfl
set_option maxRecDepth 20000 in
theorem wo_Mo_access : (Cond.code y_Mo_access b_Mo_access 9 (some .int)) ∈ T0 := tw_4 216 rfl rfl
set_option maxRecDepth 20000 in
theorem wl_La_161 : (Cond.methodLink R_La 161 y_Mo_snapshot) ∈ T0 := tw_4 217 rfl rfl
set_option maxRecDepth 20000 in
theorem wm_Mo_snapshot : (Cond.instanceMethod y_Mo_snapshot) ∈ T0 := tw_4 218 rfl rfl
set_option maxRecDepth 20000 in
theorem we_Mo_snapshot : (Cond.selects R_Mo y_Mo_snapshot y_Mo_snapshot) ∈ T0 := tw_4 219 rfl rfl
set_option maxRecDepth 20000 in
theorem wo_Mo_snapshot : (Cond.code y_Mo_snapshot b_Mo_snapshot 2 (some .int)) ∈ T0 := tw_4 220 rfl rfl
set_option maxRecDepth 20000 in
theorem wl_Mo_122 : (Cond.methodLink R_Mo 122 y_Mo_objects) ∈ T0 := tw_4 221 rfl rfl
set_option maxRecDepth 20000 in
theorem wm_Mo_objects : (Cond.instanceMethod y_Mo_objects) ∈ T0 := tw_4 223 rfl rfl
set_option maxRecDepth 20000 in
theorem wo_Mo_objects : (Cond.code y_Mo_objects b_Mo_objects 3 (some .int)) ∈ T0 := tw_4 224 rfl rfl
set_option maxRecDepth 20000 in
theorem wl_La_165 : (Cond.methodLink R_La 165 y_Mo_crash) ∈ T0 := tw_4 225 rfl rfl
set_option maxRecDepth 20000 in
theorem wm_Mo_crash : (Cond.instanceMethod y_Mo_crash) ∈ T0 := tw_4 226 rfl rfl
set_option maxRecDepth 20000 in
theorem we_Mo_crash : (Cond.selects R_Mo y_Mo_crash y_Mo_crash) ∈ T0 := tw_4 227 rfl rfl
set_option maxRecDepth 20000 in
theorem wo_Mo_crash : (Cond.code y_Mo_crash b_Mo_crash 2 (some .int)) ∈ T0 := tw_4 228 rfl rfl
set_option maxRecDepth 20000 in
theorem wl_La_168 : (Cond.methodLink R_La 168 y_Mo_object) ∈ T0 := tw_4 229 rfl rfl
set_option maxRecDepth 20000 in
theorem wm_Mo_object : (Cond.instanceMethod y_Mo_object) ∈ T0 := tw_4 230 rfl rfl
set_option maxRecDepth 20000 in
theorem we_Mo_object : (Cond.selects R_Mo y_Mo_object y_Mo_object) ∈ T0 := tw_4 231 rfl rfl
set_option maxRecDepth 20000 in
theorem wo_Mo_object : (Cond.code y_Mo_object b_Mo_object 3 (some .int)) ∈ T0 := tw_4 232 rfl rfl
set_option maxRecDepth 20000 in
theorem wl_La_171 : (Cond.methodLink R_La 171 y_Mo_in) ∈ T0 := tw_4 233 rfl rfl
set_option maxRecDepth 20000 in
theorem wm_Mo_in : (Cond.instanceMethod y_Mo_in) ∈ T0 := tw_4 234 rfl rfl
set_option maxRecDepth 20000 in
theorem we_Mo_in : (Cond.selects R_Mo y_Mo_in y_Mo_in) ∈ T0 := tw_4 235 rfl rfl
set_option maxRecDepth 20000 in
theorem wo_Mo_in : (Cond.code y_Mo_in b_Mo_in 5 (some .int)) ∈ T0 := tw_4 236 rfl rfl
set_option maxRecDepth 20000 in
theorem wl_La_178 : (Cond.methodLink R_La 178 y_Mo_count) ∈ T0 := tw_4 237 rfl rfl
set_option maxRecDepth 20000 in
theorem wm_Mo_count : (Cond.instanceMethod y_Mo_count) ∈ T0 := tw_4 238 rfl rfl
set_option maxRecDepth 20000 in
theorem we_Mo_count : (Cond.selects R_Mo y_Mo_count y_Mo_count) ∈ T0 := tw_4 239 rfl rfl
set_option maxRecDepth 20000 in
theorem wo_Mo_count : (Cond.code y_Mo_count b_Mo_count 4 (some .int)) ∈ T0 := tw_5 0 rfl rfl
set_option maxRecDepth 20000 in
theorem wa_long : (Cond.arrayClass .long) ∈ T0 := tw_5 1 rfl rfl
theorem we_Lb_indexOf : (Cond.selects R_Lb y_Lb_indexOf y_Lb_indexOf) ∈ T0 := tw_s 1 rfl rfl
theorem we_Ke_needThread : (Cond.selects R_Ke y_Ke_needThread y_Ke_needThread) ∈ T0 := tw_s 2 rfl rfl
theorem we_Ke_needThreadAndContainer : (Cond.selects R_Ke y_Ke_needThreadAndContainer y_Ke_needThreadAndContainer) ∈ T0 := tw_s 3 rfl rfl
theorem we_Ke_needMayMake : (Cond.selects R_Ke y_Ke_needMayMake y_Ke_needMayMake) ∈ T0 := tw_s 4 rfl rfl
theorem we_Ke_mayChange : (Cond.selects R_Ke y_Ke_mayChange y_Ke_mayChange) ∈ T0 := tw_s 5 rfl rfl
theorem we_Ke_maySee : (Cond.selects R_Ke y_Ke_maySee y_Ke_maySee) ∈ T0 := tw_s 6 rfl rfl
theorem we_Ke_mayBear : (Cond.selects R_Ke y_Ke_mayBear y_Ke_mayBear) ∈ T0 := tw_s 7 rfl rfl
theorem we_Ke_needRoomIn : (Cond.selects R_Ke y_Ke_needRoomIn y_Ke_needRoomIn) ∈ T0 := tw_s 8 rfl rfl
theorem we_Tg_quotasIn : (Cond.selects R_Tg y_Tg_quotasIn y_Tg_quotasIn) ∈ T0 := tw_s 9 rfl rfl
theorem we_Ke_needCell : (Cond.selects R_Ke y_Ke_needCell y_Ke_needCell) ∈ T0 := tw_s 10 rfl rfl
theorem we_Ke_needThere : (Cond.selects R_Ke y_Ke_needThere y_Ke_needThere) ∈ T0 := tw_s 11 rfl rfl
theorem we_Ke_needObjectIn : (Cond.selects R_Ke y_Ke_needObjectIn y_Ke_needObjectIn) ∈ T0 := tw_s 12 rfl rfl
theorem we_Lb_isJoinAt : (Cond.selects R_Lb y_Lb_isJoinAt y_Lb_isJoinAt) ∈ T0 := tw_s 13 rfl rfl
theorem we_Mo_isLabel : (Cond.selects R_Mo y_Mo_isLabel y_Mo_isLabel) ∈ T0 := tw_s 14 rfl rfl
theorem we_Mo_fail : (Cond.selects R_Mo y_Mo_fail y_Mo_fail) ∈ T0 := tw_s 15 rfl rfl
theorem we_Mo_made : (Cond.selects R_Mo y_Mo_made y_Mo_made) ∈ T0 := tw_s 16 rfl rfl
theorem we_Mo_like : (Cond.selects R_Mo y_Mo_like y_Mo_like) ∈ T0 := tw_s 17 rfl rfl
theorem we_Mo_lev : (Cond.selects R_Mo y_Mo_lev y_Mo_lev) ∈ T0 := tw_s 18 rfl rfl
theorem we_Mo_under : (Cond.selects R_Mo y_Mo_under y_Mo_under) ∈ T0 := tw_s 19 rfl rfl
theorem we_Mo_giveCategory : (Cond.selects R_Mo y_Mo_giveCategory y_Mo_giveCategory) ∈ T0 := tw_s 20 rfl rfl
theorem we_Mo_threadOnly : (Cond.selects R_Mo y_Mo_threadOnly y_Mo_threadOnly) ∈ T0 := tw_s 21 rfl rfl
theorem we_Mo_there : (Cond.selects R_Mo y_Mo_there y_Mo_there) ∈ T0 := tw_s 22 rfl rfl
theorem we_Mo_at : (Cond.selects R_Mo y_Mo_at y_Mo_at) ∈ T0 := tw_s 23 rfl rfl
theorem we_Mo_makeContainer : (Cond.selects R_Mo y_Mo_makeContainer y_Mo_makeContainer) ∈ T0 := tw_s 24 rfl rfl
theorem we_Mo_starless : (Cond.selects R_Mo y_Mo_starless y_Mo_starless) ∈ T0 := tw_s 25 rfl rfl
theorem we_Mo_make : (Cond.selects R_Mo y_Mo_make y_Mo_make) ∈ T0 := tw_s 26 rfl rfl
theorem we_Mo_changes : (Cond.selects R_Mo y_Mo_changes y_Mo_changes) ∈ T0 := tw_s 27 rfl rfl
theorem we_Mo_sees : (Cond.selects R_Mo y_Mo_sees y_Mo_sees) ∈ T0 := tw_s 28 rfl rfl
theorem we_Mo_starsOf : (Cond.selects R_Mo y_Mo_starsOf y_Mo_starsOf) ∈ T0 := tw_s 29 rfl rfl
theorem we_Mo_use : (Cond.selects R_Mo y_Mo_use y_Mo_use) ∈ T0 := tw_s 30 rfl rfl
theorem we_Mo_deep : (Cond.selects R_Mo y_Mo_deep y_Mo_deep) ∈ T0 := tw_s 31 rfl rfl
theorem we_Mo_makeSegment : (Cond.selects R_Mo y_Mo_makeSegment y_Mo_makeSegment) ∈ T0 := tw_s 32 rfl rfl
theorem we_Mo_makeGate : (Cond.selects R_Mo y_Mo_makeGate y_Mo_makeGate) ∈ T0 := tw_s 33 rfl rfl
theorem we_Mo_cell : (Cond.selects R_Mo y_Mo_cell y_Mo_cell) ∈ T0 := tw_s 34 rfl rfl
theorem we_Mo_named : (Cond.selects R_Mo y_Mo_named y_Mo_named) ∈ T0 := tw_s 35 rfl rfl
theorem we_Mo_remove : (Cond.selects R_Mo y_Mo_remove y_Mo_remove) ∈ T0 := tw_s 36 rfl rfl
theorem we_Mo_go : (Cond.selects R_Mo y_Mo_go y_Mo_go) ∈ T0 := tw_s 37 rfl rfl
theorem we_Mo_passes : (Cond.selects R_Mo y_Mo_passes y_Mo_passes) ∈ T0 := tw_s 38 rfl rfl
theorem we_Mo_of : (Cond.selects R_Mo y_Mo_of y_Mo_of) ∈ T0 := tw_s 39 rfl rfl
theorem we_Mo_both : (Cond.selects R_Mo y_Mo_both y_Mo_both) ∈ T0 := tw_s 40 rfl rfl
theorem we_Mo_objects : (Cond.selects R_Mo y_Mo_objects y_Mo_objects) ∈ T0 := tw_s 41 rfl rfl
theorem wu_Lb : ∀ w ∈ u_ws R_Lb T_Lb 2, w ∈ T0 := by decide +kernel
theorem wu_Sn : ∀ w ∈ u_ws R_Sn T_Sn 4, w ∈ T0 := by decide +kernel
theorem wu_Tg : ∀ w ∈ u_ws R_Tg T_Tg 12, w ∈ T0 := by decide +kernel
theorem wu_Us : ∀ w ∈ u_ws R_Us T_Us 7, w ∈ T0 := by decide +kernel
theorem wu_Ke : ∀ w ∈ u_ws R_Ke T_Ke 5, w ∈ T0 := by decide +kernel
theorem wu_Mo : ∀ w ∈ u_ws R_Mo T_Mo 3, w ∈ T0 := by decide +kernel
theorem wq_Lb_takeFrom : y_Lb_takeFrom.cls = R_Lb ∧ y_Lb_takeFrom.cls ≠ "java/lang/invoke/MethodHandle" ∧ y_Lb_takeFrom.cls ≠ "java/lang/invoke/VarHandle" ∧ (parseMethodDescriptor y_Lb_takeFrom.desc).map (fun d => d.parameters.length) = some 1 := by decide +kernel
theorem wq_Lb_howMany : y_Lb_howMany.cls = R_Lb ∧ y_Lb_howMany.cls ≠ "java/lang/invoke/MethodHandle" ∧ y_Lb_howMany.cls ≠ "java/lang/invoke/VarHandle" ∧ (parseMethodDescriptor y_Lb_howMany.desc).map (fun d => d.parameters.length) = some 0 := by decide +kernel
theorem wq_Lb_free : y_Lb_free.cls = R_Lb ∧ y_Lb_free.cls ≠ "java/lang/invoke/MethodHandle" ∧ y_Lb_free.cls ≠ "java/lang/invoke/VarHandle" ∧ (parseMethodDescriptor y_Lb_free.desc).map (fun d => d.parameters.length) = some 0 := by decide +kernel
theorem wq_Lb_has : y_Lb_has.cls = R_Lb ∧ y_Lb_has.cls ≠ "java/lang/invoke/MethodHandle" ∧ y_Lb_has.cls ≠ "java/lang/invoke/VarHandle" ∧ (parseMethodDescriptor y_Lb_has.desc).map (fun d => d.parameters.length) = some 1 := by decide +kernel
theorem wq_Lb_isStarless : y_Lb_isStarless.cls = R_Lb ∧ y_Lb_isStarless.cls ≠ "java/lang/invoke/MethodHandle" ∧ y_Lb_isStarless.cls ≠ "java/lang/invoke/VarHandle" ∧ (parseMethodDescriptor y_Lb_isStarless.desc).map (fun d => d.parameters.length) = some 1 := by decide +kernel
theorem wq_Lb_hasStarsOnlyOf : y_Lb_hasStarsOnlyOf.cls = R_Lb ∧ y_Lb_hasStarsOnlyOf.cls ≠ "java/lang/invoke/MethodHandle" ∧ y_Lb_hasStarsOnlyOf.cls ≠ "java/lang/invoke/VarHandle" ∧ (parseMethodDescriptor y_Lb_hasStarsOnlyOf.desc).map (fun d => d.parameters.length) = some 2 := by decide +kernel
theorem wq_Lb_levelAt : y_Lb_levelAt.cls = R_Lb ∧ y_Lb_levelAt.cls ≠ "java/lang/invoke/MethodHandle" ∧ y_Lb_levelAt.cls ≠ "java/lang/invoke/VarHandle" ∧ (parseMethodDescriptor y_Lb_levelAt.desc).map (fun d => d.parameters.length) = some 2 := by decide +kernel
theorem wq_Lb_low : y_Lb_low.cls = R_Lb ∧ y_Lb_low.cls ≠ "java/lang/invoke/MethodHandle" ∧ y_Lb_low.cls ≠ "java/lang/invoke/VarHandle" ∧ (parseMethodDescriptor y_Lb_low.desc).map (fun d => d.parameters.length) = some 1 := by decide +kernel
theorem wq_Lb_fitsUnder : y_Lb_fitsUnder.cls = R_Lb ∧ y_Lb_fitsUnder.cls ≠ "java/lang/invoke/MethodHandle" ∧ y_Lb_fitsUnder.cls ≠ "java/lang/invoke/VarHandle" ∧ (parseMethodDescriptor y_Lb_fitsUnder.desc).map (fun d => d.parameters.length) = some 2 := by decide +kernel
theorem wq_Lb_fitsHigh : y_Lb_fitsHigh.cls = R_Lb ∧ y_Lb_fitsHigh.cls ≠ "java/lang/invoke/MethodHandle" ∧ y_Lb_fitsHigh.cls ≠ "java/lang/invoke/VarHandle" ∧ (parseMethodDescriptor y_Lb_fitsHigh.desc).map (fun d => d.parameters.length) = some 2 := by decide +kernel
theorem wq_Lb_isJoinOf : y_Lb_isJoinOf.cls = R_Lb ∧ y_Lb_isJoinOf.cls ≠ "java/lang/invoke/MethodHandle" ∧ y_Lb_isJoinOf.cls ≠ "java/lang/invoke/VarHandle" ∧ (parseMethodDescriptor y_Lb_isJoinOf.desc).map (fun d => d.parameters.length) = some 3 := by decide +kernel
theorem wq_Lb_isJoinAt : y_Lb_isJoinAt.cls = R_Lb ∧ y_Lb_isJoinAt.cls ≠ "java/lang/invoke/MethodHandle" ∧ y_Lb_isJoinAt.cls ≠ "java/lang/invoke/VarHandle" ∧ (parseMethodDescriptor y_Lb_isJoinAt.desc).map (fun d => d.parameters.length) = some 4 := by decide +kernel
theorem wq_Lb_isNowhereAboveBoth : y_Lb_isNowhereAboveBoth.cls = R_Lb ∧ y_Lb_isNowhereAboveBoth.cls ≠ "java/lang/invoke/MethodHandle" ∧ y_Lb_isNowhereAboveBoth.cls ≠ "java/lang/invoke/VarHandle" ∧ (parseMethodDescriptor y_Lb_isNowhereAboveBoth.desc).map (fun d => d.parameters.length) = some 3 := by decide +kernel
theorem wq_Lb_changed : y_Lb_changed.cls = R_Lb ∧ y_Lb_changed.cls ≠ "java/lang/invoke/MethodHandle" ∧ y_Lb_changed.cls ≠ "java/lang/invoke/VarHandle" ∧ (parseMethodDescriptor y_Lb_changed.desc).map (fun d => d.parameters.length) = some 3 := by decide +kernel
theorem wq_Lb_indexOf : y_Lb_indexOf.cls = R_Lb ∧ y_Lb_indexOf.cls ≠ "java/lang/invoke/MethodHandle" ∧ y_Lb_indexOf.cls ≠ "java/lang/invoke/VarHandle" ∧ (parseMethodDescriptor y_Lb_indexOf.desc).map (fun d => d.parameters.length) = some 1 := by decide +kernel
theorem wq_Lb_missing : y_Lb_missing.cls = R_Lb ∧ y_Lb_missing.cls ≠ "java/lang/invoke/MethodHandle" ∧ y_Lb_missing.cls ≠ "java/lang/invoke/VarHandle" ∧ (parseMethodDescriptor y_Lb_missing.desc).map (fun d => d.parameters.length) = some 1 := by decide +kernel
theorem wq_Lb_numberOf : y_Lb_numberOf.cls = R_Lb ∧ y_Lb_numberOf.cls ≠ "java/lang/invoke/MethodHandle" ∧ y_Lb_numberOf.cls ≠ "java/lang/invoke/VarHandle" ∧ (parseMethodDescriptor y_Lb_numberOf.desc).map (fun d => d.parameters.length) = some 1 := by decide +kernel
theorem wq_Sn_takeFrom : y_Sn_takeFrom.cls = R_Sn ∧ y_Sn_takeFrom.cls ≠ "java/lang/invoke/MethodHandle" ∧ y_Sn_takeFrom.cls ≠ "java/lang/invoke/VarHandle" ∧ (parseMethodDescriptor y_Sn_takeFrom.desc).map (fun d => d.parameters.length) = some 1 := by decide +kernel
theorem wq_Tg_takeFrom : y_Tg_takeFrom.cls = R_Tg ∧ y_Tg_takeFrom.cls ≠ "java/lang/invoke/MethodHandle" ∧ y_Tg_takeFrom.cls ≠ "java/lang/invoke/VarHandle" ∧ (parseMethodDescriptor y_Tg_takeFrom.desc).map (fun d => d.parameters.length) = some 1 := by decide +kernel
theorem wq_Tg_hasNumberLeft : y_Tg_hasNumberLeft.cls = R_Tg ∧ y_Tg_hasNumberLeft.cls ≠ "java/lang/invoke/MethodHandle" ∧ y_Tg_hasNumberLeft.cls ≠ "java/lang/invoke/VarHandle" ∧ (parseMethodDescriptor y_Tg_hasNumberLeft.desc).map (fun d => d.parameters.length) = some 0 := by decide +kernel
theorem wq_Tg_add : y_Tg_add.cls = R_Tg ∧ y_Tg_add.cls ≠ "java/lang/invoke/MethodHandle" ∧ y_Tg_add.cls ≠ "java/lang/invoke/VarHandle" ∧ (parseMethodDescriptor y_Tg_add.desc).map (fun d => d.parameters.length) = some 4 := by decide +kernel
theorem wq_Tg_isThere : y_Tg_isThere.cls = R_Tg ∧ y_Tg_isThere.cls ≠ "java/lang/invoke/MethodHandle" ∧ y_Tg_isThere.cls ≠ "java/lang/invoke/VarHandle" ∧ (parseMethodDescriptor y_Tg_isThere.desc).map (fun d => d.parameters.length) = some 1 := by decide +kernel
theorem wq_Tg_isOfKind : y_Tg_isOfKind.cls = R_Tg ∧ y_Tg_isOfKind.cls ≠ "java/lang/invoke/MethodHandle" ∧ y_Tg_isOfKind.cls ≠ "java/lang/invoke/VarHandle" ∧ (parseMethodDescriptor y_Tg_isOfKind.desc).map (fun d => d.parameters.length) = some 2 := by decide +kernel
theorem wq_Tg_isIn : y_Tg_isIn.cls = R_Tg ∧ y_Tg_isIn.cls ≠ "java/lang/invoke/MethodHandle" ∧ y_Tg_isIn.cls ≠ "java/lang/invoke/VarHandle" ∧ (parseMethodDescriptor y_Tg_isIn.desc).map (fun d => d.parameters.length) = some 2 := by decide +kernel
theorem wq_Tg_howMany : y_Tg_howMany.cls = R_Tg ∧ y_Tg_howMany.cls ≠ "java/lang/invoke/MethodHandle" ∧ y_Tg_howMany.cls ≠ "java/lang/invoke/VarHandle" ∧ (parseMethodDescriptor y_Tg_howMany.desc).map (fun d => d.parameters.length) = some 0 := by decide +kernel
theorem wq_Tg_nthIn : y_Tg_nthIn.cls = R_Tg ∧ y_Tg_nthIn.cls ≠ "java/lang/invoke/MethodHandle" ∧ y_Tg_nthIn.cls ≠ "java/lang/invoke/VarHandle" ∧ (parseMethodDescriptor y_Tg_nthIn.desc).map (fun d => d.parameters.length) = some 2 := by decide +kernel
theorem wq_Tg_useOf : y_Tg_useOf.cls = R_Tg ∧ y_Tg_useOf.cls ≠ "java/lang/invoke/MethodHandle" ∧ y_Tg_useOf.cls ≠ "java/lang/invoke/VarHandle" ∧ (parseMethodDescriptor y_Tg_useOf.desc).map (fun d => d.parameters.length) = some 1 := by decide +kernel
theorem wq_Tg_quotasIn : y_Tg_quotasIn.cls = R_Tg ∧ y_Tg_quotasIn.cls ≠ "java/lang/invoke/MethodHandle" ∧ y_Tg_quotasIn.cls ≠ "java/lang/invoke/VarHandle" ∧ (parseMethodDescriptor y_Tg_quotasIn.desc).map (fun d => d.parameters.length) = some 1 := by decide +kernel
theorem wq_Tg_removeTree : y_Tg_removeTree.cls = R_Tg ∧ y_Tg_removeTree.cls ≠ "java/lang/invoke/MethodHandle" ∧ y_Tg_removeTree.cls ≠ "java/lang/invoke/VarHandle" ∧ (parseMethodDescriptor y_Tg_removeTree.desc).map (fun d => d.parameters.length) = some 1 := by decide +kernel
theorem wq_Tg_kindOf : y_Tg_kindOf.cls = R_Tg ∧ y_Tg_kindOf.cls ≠ "java/lang/invoke/MethodHandle" ∧ y_Tg_kindOf.cls ≠ "java/lang/invoke/VarHandle" ∧ (parseMethodDescriptor y_Tg_kindOf.desc).map (fun d => d.parameters.length) = some 1 := by decide +kernel
theorem wq_Tg_labelOf : y_Tg_labelOf.cls = R_Tg ∧ y_Tg_labelOf.cls ≠ "java/lang/invoke/MethodHandle" ∧ y_Tg_labelOf.cls ≠ "java/lang/invoke/VarHandle" ∧ (parseMethodDescriptor y_Tg_labelOf.desc).map (fun d => d.parameters.length) = some 1 := by decide +kernel
theorem wq_Tg_setLabel : y_Tg_setLabel.cls = R_Tg ∧ y_Tg_setLabel.cls ≠ "java/lang/invoke/MethodHandle" ∧ y_Tg_setLabel.cls ≠ "java/lang/invoke/VarHandle" ∧ (parseMethodDescriptor y_Tg_setLabel.desc).map (fun d => d.parameters.length) = some 2 := by decide +kernel
theorem wq_Tg_quotaOf : y_Tg_quotaOf.cls = R_Tg ∧ y_Tg_quotaOf.cls ≠ "java/lang/invoke/MethodHandle" ∧ y_Tg_quotaOf.cls ≠ "java/lang/invoke/VarHandle" ∧ (parseMethodDescriptor y_Tg_quotaOf.desc).map (fun d => d.parameters.length) = some 1 := by decide +kernel
theorem wq_Tg_setQuota : y_Tg_setQuota.cls = R_Tg ∧ y_Tg_setQuota.cls ≠ "java/lang/invoke/MethodHandle" ∧ y_Tg_setQuota.cls ≠ "java/lang/invoke/VarHandle" ∧ (parseMethodDescriptor y_Tg_setQuota.desc).map (fun d => d.parameters.length) = some 2 := by decide +kernel
theorem wq_Tg_placeOf : y_Tg_placeOf.cls = R_Tg ∧ y_Tg_placeOf.cls ≠ "java/lang/invoke/MethodHandle" ∧ y_Tg_placeOf.cls ≠ "java/lang/invoke/VarHandle" ∧ (parseMethodDescriptor y_Tg_placeOf.desc).map (fun d => d.parameters.length) = some 1 := by decide +kernel
theorem wq_Tg_depthOf : y_Tg_depthOf.cls = R_Tg ∧ y_Tg_depthOf.cls ≠ "java/lang/invoke/MethodHandle" ∧ y_Tg_depthOf.cls ≠ "java/lang/invoke/VarHandle" ∧ (parseMethodDescriptor y_Tg_depthOf.desc).map (fun d => d.parameters.length) = some 1 := by decide +kernel
theorem wq_Tg_clearanceOf : y_Tg_clearanceOf.cls = R_Tg ∧ y_Tg_clearanceOf.cls ≠ "java/lang/invoke/MethodHandle" ∧ y_Tg_clearanceOf.cls ≠ "java/lang/invoke/VarHandle" ∧ (parseMethodDescriptor y_Tg_clearanceOf.desc).map (fun d => d.parameters.length) = some 1 := by decide +kernel
theorem wq_Tg_setClearance : y_Tg_setClearance.cls = R_Tg ∧ y_Tg_setClearance.cls ≠ "java/lang/invoke/MethodHandle" ∧ y_Tg_setClearance.cls ≠ "java/lang/invoke/VarHandle" ∧ (parseMethodDescriptor y_Tg_setClearance.desc).map (fun d => d.parameters.length) = some 2 := by decide +kernel
theorem wq_Tg_guardOf : y_Tg_guardOf.cls = R_Tg ∧ y_Tg_guardOf.cls ≠ "java/lang/invoke/MethodHandle" ∧ y_Tg_guardOf.cls ≠ "java/lang/invoke/VarHandle" ∧ (parseMethodDescriptor y_Tg_guardOf.desc).map (fun d => d.parameters.length) = some 1 := by decide +kernel
theorem wq_Tg_entryOf : y_Tg_entryOf.cls = R_Tg ∧ y_Tg_entryOf.cls ≠ "java/lang/invoke/MethodHandle" ∧ y_Tg_entryOf.cls ≠ "java/lang/invoke/VarHandle" ∧ (parseMethodDescriptor y_Tg_entryOf.desc).map (fun d => d.parameters.length) = some 1 := by decide +kernel
theorem wq_Tg_setGuardAndEntry : y_Tg_setGuardAndEntry.cls = R_Tg ∧ y_Tg_setGuardAndEntry.cls ≠ "java/lang/invoke/MethodHandle" ∧ y_Tg_setGuardAndEntry.cls ≠ "java/lang/invoke/VarHandle" ∧ (parseMethodDescriptor y_Tg_setGuardAndEntry.desc).map (fun d => d.parameters.length) = some 3 := by decide +kernel
theorem wq_Tg_cellCountOf : y_Tg_cellCountOf.cls = R_Tg ∧ y_Tg_cellCountOf.cls ≠ "java/lang/invoke/MethodHandle" ∧ y_Tg_cellCountOf.cls ≠ "java/lang/invoke/VarHandle" ∧ (parseMethodDescriptor y_Tg_cellCountOf.desc).map (fun d => d.parameters.length) = some 1 := by decide +kernel
theorem wq_Tg_setCellCount : y_Tg_setCellCount.cls = R_Tg ∧ y_Tg_setCellCount.cls ≠ "java/lang/invoke/MethodHandle" ∧ y_Tg_setCellCount.cls ≠ "java/lang/invoke/VarHandle" ∧ (parseMethodDescriptor y_Tg_setCellCount.desc).map (fun d => d.parameters.length) = some 2 := by decide +kernel
theorem wq_Tg_cellOf : y_Tg_cellOf.cls = R_Tg ∧ y_Tg_cellOf.cls ≠ "java/lang/invoke/MethodHandle" ∧ y_Tg_cellOf.cls ≠ "java/lang/invoke/VarHandle" ∧ (parseMethodDescriptor y_Tg_cellOf.desc).map (fun d => d.parameters.length) = some 2 := by decide +kernel
theorem wq_Tg_setCell : y_Tg_setCell.cls = R_Tg ∧ y_Tg_setCell.cls ≠ "java/lang/invoke/MethodHandle" ∧ y_Tg_setCell.cls ≠ "java/lang/invoke/VarHandle" ∧ (parseMethodDescriptor y_Tg_setCell.desc).map (fun d => d.parameters.length) = some 3 := by decide +kernel
theorem wq_Us_takeFrom : y_Us_takeFrom.cls = R_Us ∧ y_Us_takeFrom.cls ≠ "java/lang/invoke/MethodHandle" ∧ y_Us_takeFrom.cls ≠ "java/lang/invoke/VarHandle" ∧ (parseMethodDescriptor y_Us_takeFrom.desc).map (fun d => d.parameters.length) = some 1 := by decide +kernel
theorem wq_Us_howMany : y_Us_howMany.cls = R_Us ∧ y_Us_howMany.cls ≠ "java/lang/invoke/MethodHandle" ∧ y_Us_howMany.cls ≠ "java/lang/invoke/VarHandle" ∧ (parseMethodDescriptor y_Us_howMany.desc).map (fun d => d.parameters.length) = some 0 := by decide +kernel
theorem wq_Us_isThere : y_Us_isThere.cls = R_Us ∧ y_Us_isThere.cls ≠ "java/lang/invoke/MethodHandle" ∧ y_Us_isThere.cls ≠ "java/lang/invoke/VarHandle" ∧ (parseMethodDescriptor y_Us_isThere.desc).map (fun d => d.parameters.length) = some 1 := by decide +kernel
theorem wq_Us_add : y_Us_add.cls = R_Us ∧ y_Us_add.cls ≠ "java/lang/invoke/MethodHandle" ∧ y_Us_add.cls ≠ "java/lang/invoke/VarHandle" ∧ (parseMethodDescriptor y_Us_add.desc).map (fun d => d.parameters.length) = some 2 := by decide +kernel
theorem wq_Us_setCategories : y_Us_setCategories.cls = R_Us ∧ y_Us_setCategories.cls ≠ "java/lang/invoke/MethodHandle" ∧ y_Us_setCategories.cls ≠ "java/lang/invoke/VarHandle" ∧ (parseMethodDescriptor y_Us_setCategories.desc).map (fun d => d.parameters.length) = some 3 := by decide +kernel
theorem wq_Us_setObjects : y_Us_setObjects.cls = R_Us ∧ y_Us_setObjects.cls ≠ "java/lang/invoke/MethodHandle" ∧ y_Us_setObjects.cls ≠ "java/lang/invoke/VarHandle" ∧ (parseMethodDescriptor y_Us_setObjects.desc).map (fun d => d.parameters.length) = some 4 := by decide +kernel
theorem wq_Us_passwordOf : y_Us_passwordOf.cls = R_Us ∧ y_Us_passwordOf.cls ≠ "java/lang/invoke/MethodHandle" ∧ y_Us_passwordOf.cls ≠ "java/lang/invoke/VarHandle" ∧ (parseMethodDescriptor y_Us_passwordOf.desc).map (fun d => d.parameters.length) = some 1 := by decide +kernel
theorem wq_Us_firstCategoryOf : y_Us_firstCategoryOf.cls = R_Us ∧ y_Us_firstCategoryOf.cls ≠ "java/lang/invoke/MethodHandle" ∧ y_Us_firstCategoryOf.cls ≠ "java/lang/invoke/VarHandle" ∧ (parseMethodDescriptor y_Us_firstCategoryOf.desc).map (fun d => d.parameters.length) = some 1 := by decide +kernel
theorem wq_Us_secondCategoryOf : y_Us_secondCategoryOf.cls = R_Us ∧ y_Us_secondCategoryOf.cls ≠ "java/lang/invoke/MethodHandle" ∧ y_Us_secondCategoryOf.cls ≠ "java/lang/invoke/VarHandle" ∧ (parseMethodDescriptor y_Us_secondCategoryOf.desc).map (fun d => d.parameters.length) = some 1 := by decide +kernel
theorem wq_Us_homeOf : y_Us_homeOf.cls = R_Us ∧ y_Us_homeOf.cls ≠ "java/lang/invoke/MethodHandle" ∧ y_Us_homeOf.cls ≠ "java/lang/invoke/VarHandle" ∧ (parseMethodDescriptor y_Us_homeOf.desc).map (fun d => d.parameters.length) = some 1 := by decide +kernel
theorem wq_Us_directoryOf : y_Us_directoryOf.cls = R_Us ∧ y_Us_directoryOf.cls ≠ "java/lang/invoke/MethodHandle" ∧ y_Us_directoryOf.cls ≠ "java/lang/invoke/VarHandle" ∧ (parseMethodDescriptor y_Us_directoryOf.desc).map (fun d => d.parameters.length) = some 1 := by decide +kernel
theorem wq_Us_gateOf : y_Us_gateOf.cls = R_Us ∧ y_Us_gateOf.cls ≠ "java/lang/invoke/MethodHandle" ∧ y_Us_gateOf.cls ≠ "java/lang/invoke/VarHandle" ∧ (parseMethodDescriptor y_Us_gateOf.desc).map (fun d => d.parameters.length) = some 1 := by decide +kernel
theorem wq_Ke_label : y_Ke_label.cls = R_Ke ∧ y_Ke_label.cls ≠ "java/lang/invoke/MethodHandle" ∧ y_Ke_label.cls ≠ "java/lang/invoke/VarHandle" ∧ (parseMethodDescriptor y_Ke_label.desc).map (fun d => d.parameters.length) = some 3 := by decide +kernel
theorem wq_Ke_level : y_Ke_level.cls = R_Ke ∧ y_Ke_level.cls ≠ "java/lang/invoke/MethodHandle" ∧ y_Ke_level.cls ≠ "java/lang/invoke/VarHandle" ∧ (parseMethodDescriptor y_Ke_level.desc).map (fun d => d.parameters.length) = some 2 := by decide +kernel
theorem wq_Ke_fits : y_Ke_fits.cls = R_Ke ∧ y_Ke_fits.cls ≠ "java/lang/invoke/MethodHandle" ∧ y_Ke_fits.cls ≠ "java/lang/invoke/VarHandle" ∧ (parseMethodDescriptor y_Ke_fits.desc).map (fun d => d.parameters.length) = some 3 := by decide +kernel
theorem wq_Ke_category : y_Ke_category.cls = R_Ke ∧ y_Ke_category.cls ≠ "java/lang/invoke/MethodHandle" ∧ y_Ke_category.cls ≠ "java/lang/invoke/VarHandle" ∧ (parseMethodDescriptor y_Ke_category.desc).map (fun d => d.parameters.length) = some 1 := by decide +kernel
theorem wq_Ke_container : y_Ke_container.cls = R_Ke ∧ y_Ke_container.cls ≠ "java/lang/invoke/MethodHandle" ∧ y_Ke_container.cls ≠ "java/lang/invoke/VarHandle" ∧ (parseMethodDescriptor y_Ke_container.desc).map (fun d => d.parameters.length) = some 4 := by decide +kernel
theorem wq_Ke_segment : y_Ke_segment.cls = R_Ke ∧ y_Ke_segment.cls ≠ "java/lang/invoke/MethodHandle" ∧ y_Ke_segment.cls ≠ "java/lang/invoke/VarHandle" ∧ (parseMethodDescriptor y_Ke_segment.desc).map (fun d => d.parameters.length) = some 4 := by decide +kernel
theorem wq_Ke_gate : y_Ke_gate.cls = R_Ke ∧ y_Ke_gate.cls ≠ "java/lang/invoke/MethodHandle" ∧ y_Ke_gate.cls ≠ "java/lang/invoke/VarHandle" ∧ (parseMethodDescriptor y_Ke_gate.desc).map (fun d => d.parameters.length) = some 5 := by decide +kernel
theorem wq_Ke_thread : y_Ke_thread.cls = R_Ke ∧ y_Ke_thread.cls ≠ "java/lang/invoke/MethodHandle" ∧ y_Ke_thread.cls ≠ "java/lang/invoke/VarHandle" ∧ (parseMethodDescriptor y_Ke_thread.desc).map (fun d => d.parameters.length) = some 4 := by decide +kernel
theorem wq_Ke_read : y_Ke_read.cls = R_Ke ∧ y_Ke_read.cls ≠ "java/lang/invoke/MethodHandle" ∧ y_Ke_read.cls ≠ "java/lang/invoke/VarHandle" ∧ (parseMethodDescriptor y_Ke_read.desc).map (fun d => d.parameters.length) = some 4 := by decide +kernel
theorem wq_Ke_write : y_Ke_write.cls = R_Ke ∧ y_Ke_write.cls ≠ "java/lang/invoke/MethodHandle" ∧ y_Ke_write.cls ≠ "java/lang/invoke/VarHandle" ∧ (parseMethodDescriptor y_Ke_write.desc).map (fun d => d.parameters.length) = some 5 := by decide +kernel
theorem wq_Ke_move : y_Ke_move.cls = R_Ke ∧ y_Ke_move.cls ≠ "java/lang/invoke/MethodHandle" ∧ y_Ke_move.cls ≠ "java/lang/invoke/VarHandle" ∧ (parseMethodDescriptor y_Ke_move.desc).map (fun d => d.parameters.length) = some 4 := by decide +kernel
theorem wq_Ke_drop : y_Ke_drop.cls = R_Ke ∧ y_Ke_drop.cls ≠ "java/lang/invoke/MethodHandle" ∧ y_Ke_drop.cls ≠ "java/lang/invoke/VarHandle" ∧ (parseMethodDescriptor y_Ke_drop.desc).map (fun d => d.parameters.length) = some 3 := by decide +kernel
theorem wq_Ke_become : y_Ke_become.cls = R_Ke ∧ y_Ke_become.cls ≠ "java/lang/invoke/MethodHandle" ∧ y_Ke_become.cls ≠ "java/lang/invoke/VarHandle" ∧ (parseMethodDescriptor y_Ke_become.desc).map (fun d => d.parameters.length) = some 2 := by decide +kernel
theorem wq_Ke_lower : y_Ke_lower.cls = R_Ke ∧ y_Ke_lower.cls ≠ "java/lang/invoke/MethodHandle" ∧ y_Ke_lower.cls ≠ "java/lang/invoke/VarHandle" ∧ (parseMethodDescriptor y_Ke_lower.desc).map (fun d => d.parameters.length) = some 2 := by decide +kernel
theorem wq_Ke_enter : y_Ke_enter.cls = R_Ke ∧ y_Ke_enter.cls ≠ "java/lang/invoke/MethodHandle" ∧ y_Ke_enter.cls ≠ "java/lang/invoke/VarHandle" ∧ (parseMethodDescriptor y_Ke_enter.desc).map (fun d => d.parameters.length) = some 5 := by decide +kernel
theorem wq_Ke_user : y_Ke_user.cls = R_Ke ∧ y_Ke_user.cls ≠ "java/lang/invoke/MethodHandle" ∧ y_Ke_user.cls ≠ "java/lang/invoke/VarHandle" ∧ (parseMethodDescriptor y_Ke_user.desc).map (fun d => d.parameters.length) = some 3 := by decide +kernel
theorem wq_Ke_login : y_Ke_login.cls = R_Ke ∧ y_Ke_login.cls ≠ "java/lang/invoke/MethodHandle" ∧ y_Ke_login.cls ≠ "java/lang/invoke/VarHandle" ∧ (parseMethodDescriptor y_Ke_login.desc).map (fun d => d.parameters.length) = some 3 := by decide +kernel
theorem wq_Ke_file : y_Ke_file.cls = R_Ke ∧ y_Ke_file.cls ≠ "java/lang/invoke/MethodHandle" ∧ y_Ke_file.cls ≠ "java/lang/invoke/VarHandle" ∧ (parseMethodDescriptor y_Ke_file.desc).map (fun d => d.parameters.length) = some 4 := by decide +kernel
theorem wq_Ke_access : y_Ke_access.cls = R_Ke ∧ y_Ke_access.cls ≠ "java/lang/invoke/MethodHandle" ∧ y_Ke_access.cls ≠ "java/lang/invoke/VarHandle" ∧ (parseMethodDescriptor y_Ke_access.desc).map (fun d => d.parameters.length) = some 6 := by decide +kernel
theorem wq_Ke_snapshot : y_Ke_snapshot.cls = R_Ke ∧ y_Ke_snapshot.cls ≠ "java/lang/invoke/MethodHandle" ∧ y_Ke_snapshot.cls ≠ "java/lang/invoke/VarHandle" ∧ (parseMethodDescriptor y_Ke_snapshot.desc).map (fun d => d.parameters.length) = some 0 := by decide +kernel
theorem wq_Ke_crash : y_Ke_crash.cls = R_Ke ∧ y_Ke_crash.cls ≠ "java/lang/invoke/MethodHandle" ∧ y_Ke_crash.cls ≠ "java/lang/invoke/VarHandle" ∧ (parseMethodDescriptor y_Ke_crash.desc).map (fun d => d.parameters.length) = some 0 := by decide +kernel
theorem wq_Ke_object : y_Ke_object.cls = R_Ke ∧ y_Ke_object.cls ≠ "java/lang/invoke/MethodHandle" ∧ y_Ke_object.cls ≠ "java/lang/invoke/VarHandle" ∧ (parseMethodDescriptor y_Ke_object.desc).map (fun d => d.parameters.length) = some 2 := by decide +kernel
theorem wq_Ke_in : y_Ke_in.cls = R_Ke ∧ y_Ke_in.cls ≠ "java/lang/invoke/MethodHandle" ∧ y_Ke_in.cls ≠ "java/lang/invoke/VarHandle" ∧ (parseMethodDescriptor y_Ke_in.desc).map (fun d => d.parameters.length) = some 2 := by decide +kernel
theorem wq_Ke_count : y_Ke_count.cls = R_Ke ∧ y_Ke_count.cls ≠ "java/lang/invoke/MethodHandle" ∧ y_Ke_count.cls ≠ "java/lang/invoke/VarHandle" ∧ (parseMethodDescriptor y_Ke_count.desc).map (fun d => d.parameters.length) = some 1 := by decide +kernel
theorem wq_Ke_maySee : y_Ke_maySee.cls = R_Ke ∧ y_Ke_maySee.cls ≠ "java/lang/invoke/MethodHandle" ∧ y_Ke_maySee.cls ≠ "java/lang/invoke/VarHandle" ∧ (parseMethodDescriptor y_Ke_maySee.desc).map (fun d => d.parameters.length) = some 2 := by decide +kernel
theorem wq_Ke_mayChange : y_Ke_mayChange.cls = R_Ke ∧ y_Ke_mayChange.cls ≠ "java/lang/invoke/MethodHandle" ∧ y_Ke_mayChange.cls ≠ "java/lang/invoke/VarHandle" ∧ (parseMethodDescriptor y_Ke_mayChange.desc).map (fun d => d.parameters.length) = some 2 := by decide +kernel
theorem wq_Ke_mayBear : y_Ke_mayBear.cls = R_Ke ∧ y_Ke_mayBear.cls ≠ "java/lang/invoke/MethodHandle" ∧ y_Ke_mayBear.cls ≠ "java/lang/invoke/VarHandle" ∧ (parseMethodDescriptor y_Ke_mayBear.desc).map (fun d => d.parameters.length) = some 2 := by decide +kernel
theorem wq_Ke_isBetween : y_Ke_isBetween.cls = R_Ke ∧ y_Ke_isBetween.cls ≠ "java/lang/invoke/MethodHandle" ∧ y_Ke_isBetween.cls ≠ "java/lang/invoke/VarHandle" ∧ (parseMethodDescriptor y_Ke_isBetween.desc).map (fun d => d.parameters.length) = some 3 := by decide +kernel
theorem wq_Ke_needNumber : y_Ke_needNumber.cls = R_Ke ∧ y_Ke_needNumber.cls ≠ "java/lang/invoke/MethodHandle" ∧ y_Ke_needNumber.cls ≠ "java/lang/invoke/VarHandle" ∧ (parseMethodDescriptor y_Ke_needNumber.desc).map (fun d => d.parameters.length) = some 1 := by decide +kernel
theorem wq_Ke_needFound : y_Ke_needFound.cls = R_Ke ∧ y_Ke_needFound.cls ≠ "java/lang/invoke/MethodHandle" ∧ y_Ke_needFound.cls ≠ "java/lang/invoke/VarHandle" ∧ (parseMethodDescriptor y_Ke_needFound.desc).map (fun d => d.parameters.length) = some 1 := by decide +kernel
theorem wq_Ke_needAllowed : y_Ke_needAllowed.cls = R_Ke ∧ y_Ke_needAllowed.cls ≠ "java/lang/invoke/MethodHandle" ∧ y_Ke_needAllowed.cls ≠ "java/lang/invoke/VarHandle" ∧ (parseMethodDescriptor y_Ke_needAllowed.desc).map (fun d => d.parameters.length) = some 1 := by decide +kernel
theorem wq_Ke_needRoom : y_Ke_needRoom.cls = R_Ke ∧ y_Ke_needRoom.cls ≠ "java/lang/invoke/MethodHandle" ∧ y_Ke_needRoom.cls ≠ "java/lang/invoke/VarHandle" ∧ (parseMethodDescriptor y_Ke_needRoom.desc).map (fun d => d.parameters.length) = some 1 := by decide +kernel
theorem wq_Ke_needThread : y_Ke_needThread.cls = R_Ke ∧ y_Ke_needThread.cls ≠ "java/lang/invoke/MethodHandle" ∧ y_Ke_needThread.cls ≠ "java/lang/invoke/VarHandle" ∧ (parseMethodDescriptor y_Ke_needThread.desc).map (fun d => d.parameters.length) = some 1 := by decide +kernel
theorem wq_Ke_needThreadAndContainer : y_Ke_needThreadAndContainer.cls = R_Ke ∧ y_Ke_needThreadAndContainer.cls ≠ "java/lang/invoke/MethodHandle" ∧ y_Ke_needThreadAndContainer.cls ≠ "java/lang/invoke/VarHandle" ∧ (parseMethodDescriptor y_Ke_needThreadAndContainer.desc).map (fun d => d.parameters.length) = some 2 := by decide +kernel
theorem wq_Ke_needThere : y_Ke_needThere.cls = R_Ke ∧ y_Ke_needThere.cls ≠ "java/lang/invoke/MethodHandle" ∧ y_Ke_needThere.cls ≠ "java/lang/invoke/VarHandle" ∧ (parseMethodDescriptor y_Ke_needThere.desc).map (fun d => d.parameters.length) = some 3 := by decide +kernel
theorem wq_Ke_needObjectIn : y_Ke_needObjectIn.cls = R_Ke ∧ y_Ke_needObjectIn.cls ≠ "java/lang/invoke/MethodHandle" ∧ y_Ke_needObjectIn.cls ≠ "java/lang/invoke/VarHandle" ∧ (parseMethodDescriptor y_Ke_needObjectIn.desc).map (fun d => d.parameters.length) = some 3 := by decide +kernel
theorem wq_Ke_needCell : y_Ke_needCell.cls = R_Ke ∧ y_Ke_needCell.cls ≠ "java/lang/invoke/MethodHandle" ∧ y_Ke_needCell.cls ≠ "java/lang/invoke/VarHandle" ∧ (parseMethodDescriptor y_Ke_needCell.desc).map (fun d => d.parameters.length) = some 4 := by decide +kernel
theorem wq_Ke_needMayMake : y_Ke_needMayMake.cls = R_Ke ∧ y_Ke_needMayMake.cls ≠ "java/lang/invoke/MethodHandle" ∧ y_Ke_needMayMake.cls ≠ "java/lang/invoke/VarHandle" ∧ (parseMethodDescriptor y_Ke_needMayMake.desc).map (fun d => d.parameters.length) = some 3 := by decide +kernel
theorem wq_Ke_needRoomIn : y_Ke_needRoomIn.cls = R_Ke ∧ y_Ke_needRoomIn.cls ≠ "java/lang/invoke/MethodHandle" ∧ y_Ke_needRoomIn.cls ≠ "java/lang/invoke/VarHandle" ∧ (parseMethodDescriptor y_Ke_needRoomIn.desc).map (fun d => d.parameters.length) = some 2 := by decide +kernel
theorem wq_Mo_within : y_Mo_within.cls = R_Mo ∧ y_Mo_within.cls ≠ "java/lang/invoke/MethodHandle" ∧ y_Mo_within.cls ≠ "java/lang/invoke/VarHandle" ∧ (parseMethodDescriptor y_Mo_within.desc).map (fun d => d.parameters.length) = some 3 := by decide +kernel
theorem wq_Mo_fail : y_Mo_fail.cls = R_Mo ∧ y_Mo_fail.cls ≠ "java/lang/invoke/MethodHandle" ∧ y_Mo_fail.cls ≠ "java/lang/invoke/VarHandle" ∧ (parseMethodDescriptor y_Mo_fail.desc).map (fun d => d.parameters.length) = some 1 := by decide +kernel
theorem wq_Mo_thrown : y_Mo_thrown.cls = R_Mo ∧ y_Mo_thrown.cls ≠ "java/lang/invoke/MethodHandle" ∧ y_Mo_thrown.cls ≠ "java/lang/invoke/VarHandle" ∧ (parseMethodDescriptor y_Mo_thrown.desc).map (fun d => d.parameters.length) = some 0 := by decide +kernel
theorem wq_Mo_at : y_Mo_at.cls = R_Mo ∧ y_Mo_at.cls ≠ "java/lang/invoke/MethodHandle" ∧ y_Mo_at.cls ≠ "java/lang/invoke/VarHandle" ∧ (parseMethodDescriptor y_Mo_at.desc).map (fun d => d.parameters.length) = some 2 := by decide +kernel
theorem wq_Mo_lev : y_Mo_lev.cls = R_Mo ∧ y_Mo_lev.cls ≠ "java/lang/invoke/MethodHandle" ∧ y_Mo_lev.cls ≠ "java/lang/invoke/VarHandle" ∧ (parseMethodDescriptor y_Mo_lev.desc).map (fun d => d.parameters.length) = some 2 := by decide +kernel
theorem wq_Mo_low : y_Mo_low.cls = R_Mo ∧ y_Mo_low.cls ≠ "java/lang/invoke/MethodHandle" ∧ y_Mo_low.cls ≠ "java/lang/invoke/VarHandle" ∧ (parseMethodDescriptor y_Mo_low.desc).map (fun d => d.parameters.length) = some 1 := by decide +kernel
theorem wq_Mo_under : y_Mo_under.cls = R_Mo ∧ y_Mo_under.cls ≠ "java/lang/invoke/MethodHandle" ∧ y_Mo_under.cls ≠ "java/lang/invoke/VarHandle" ∧ (parseMethodDescriptor y_Mo_under.desc).map (fun d => d.parameters.length) = some 3 := by decide +kernel
theorem wq_Mo_isLabel : y_Mo_isLabel.cls = R_Mo ∧ y_Mo_isLabel.cls ≠ "java/lang/invoke/MethodHandle" ∧ y_Mo_isLabel.cls ≠ "java/lang/invoke/VarHandle" ∧ (parseMethodDescriptor y_Mo_isLabel.desc).map (fun d => d.parameters.length) = some 1 := by decide +kernel
theorem wq_Mo_starless : y_Mo_starless.cls = R_Mo ∧ y_Mo_starless.cls ≠ "java/lang/invoke/MethodHandle" ∧ y_Mo_starless.cls ≠ "java/lang/invoke/VarHandle" ∧ (parseMethodDescriptor y_Mo_starless.desc).map (fun d => d.parameters.length) = some 1 := by decide +kernel
theorem wq_Mo_there : y_Mo_there.cls = R_Mo ∧ y_Mo_there.cls ≠ "java/lang/invoke/MethodHandle" ∧ y_Mo_there.cls ≠ "java/lang/invoke/VarHandle" ∧ (parseMethodDescriptor y_Mo_there.desc).map (fun d => d.parameters.length) = some 1 := by decide +kernel
theorem wq_Mo_sees : y_Mo_sees.cls = R_Mo ∧ y_Mo_sees.cls ≠ "java/lang/invoke/MethodHandle" ∧ y_Mo_sees.cls ≠ "java/lang/invoke/VarHandle" ∧ (parseMethodDescriptor y_Mo_sees.desc).map (fun d => d.parameters.length) = some 2 := by decide +kernel
theorem wq_Mo_changes : y_Mo_changes.cls = R_Mo ∧ y_Mo_changes.cls ≠ "java/lang/invoke/MethodHandle" ∧ y_Mo_changes.cls ≠ "java/lang/invoke/VarHandle" ∧ (parseMethodDescriptor y_Mo_changes.desc).map (fun d => d.parameters.length) = some 2 := by decide +kernel
theorem wq_Mo_use : y_Mo_use.cls = R_Mo ∧ y_Mo_use.cls ≠ "java/lang/invoke/MethodHandle" ∧ y_Mo_use.cls ≠ "java/lang/invoke/VarHandle" ∧ (parseMethodDescriptor y_Mo_use.desc).map (fun d => d.parameters.length) = some 1 := by decide +kernel
theorem wq_Mo_like : y_Mo_like.cls = R_Mo ∧ y_Mo_like.cls ≠ "java/lang/invoke/MethodHandle" ∧ y_Mo_like.cls ≠ "java/lang/invoke/VarHandle" ∧ (parseMethodDescriptor y_Mo_like.desc).map (fun d => d.parameters.length) = some 3 := by decide +kernel
theorem wq_Mo_made : y_Mo_made.cls = R_Mo ∧ y_Mo_made.cls ≠ "java/lang/invoke/MethodHandle" ∧ y_Mo_made.cls ≠ "java/lang/invoke/VarHandle" ∧ (parseMethodDescriptor y_Mo_made.desc).map (fun d => d.parameters.length) = some 3 := by decide +kernel
theorem wq_Mo_label : y_Mo_label.cls = R_Mo ∧ y_Mo_label.cls ≠ "java/lang/invoke/MethodHandle" ∧ y_Mo_label.cls ≠ "java/lang/invoke/VarHandle" ∧ (parseMethodDescriptor y_Mo_label.desc).map (fun d => d.parameters.length) = some 3 := by decide +kernel
theorem wq_Mo_level : y_Mo_level.cls = R_Mo ∧ y_Mo_level.cls ≠ "java/lang/invoke/MethodHandle" ∧ y_Mo_level.cls ≠ "java/lang/invoke/VarHandle" ∧ (parseMethodDescriptor y_Mo_level.desc).map (fun d => d.parameters.length) = some 2 := by decide +kernel
theorem wq_Mo_fits : y_Mo_fits.cls = R_Mo ∧ y_Mo_fits.cls ≠ "java/lang/invoke/MethodHandle" ∧ y_Mo_fits.cls ≠ "java/lang/invoke/VarHandle" ∧ (parseMethodDescriptor y_Mo_fits.desc).map (fun d => d.parameters.length) = some 3 := by decide +kernel
theorem wq_Mo_threadOnly : y_Mo_threadOnly.cls = R_Mo ∧ y_Mo_threadOnly.cls ≠ "java/lang/invoke/MethodHandle" ∧ y_Mo_threadOnly.cls ≠ "java/lang/invoke/VarHandle" ∧ (parseMethodDescriptor y_Mo_threadOnly.desc).map (fun d => d.parameters.length) = some 1 := by decide +kernel
theorem wq_Mo_giveCategory : y_Mo_giveCategory.cls = R_Mo ∧ y_Mo_giveCategory.cls ≠ "java/lang/invoke/MethodHandle" ∧ y_Mo_giveCategory.cls ≠ "java/lang/invoke/VarHandle" ∧ (parseMethodDescriptor y_Mo_giveCategory.desc).map (fun d => d.parameters.length) = some 1 := by decide +kernel
theorem wq_Mo_category : y_Mo_category.cls = R_Mo ∧ y_Mo_category.cls ≠ "java/lang/invoke/MethodHandle" ∧ y_Mo_category.cls ≠ "java/lang/invoke/VarHandle" ∧ (parseMethodDescriptor y_Mo_category.desc).map (fun d => d.parameters.length) = some 1 := by decide +kernel
theorem wq_Mo_deep : y_Mo_deep.cls = R_Mo ∧ y_Mo_deep.cls ≠ "java/lang/invoke/MethodHandle" ∧ y_Mo_deep.cls ≠ "java/lang/invoke/VarHandle" ∧ (parseMethodDescriptor y_Mo_deep.desc).map (fun d => d.parameters.length) = some 1 := by decide +kernel
theorem wq_Mo_starsWithin : y_Mo_starsWithin.cls = R_Mo ∧ y_Mo_starsWithin.cls ≠ "java/lang/invoke/MethodHandle" ∧ y_Mo_starsWithin.cls ≠ "java/lang/invoke/VarHandle" ∧ (parseMethodDescriptor y_Mo_starsWithin.desc).map (fun d => d.parameters.length) = some 2 := by decide +kernel
theorem wq_Mo_starsOf : y_Mo_starsOf.cls = R_Mo ∧ y_Mo_starsOf.cls ≠ "java/lang/invoke/MethodHandle" ∧ y_Mo_starsOf.cls ≠ "java/lang/invoke/VarHandle" ∧ (parseMethodDescriptor y_Mo_starsOf.desc).map (fun d => d.parameters.length) = some 2 := by decide +kernel
theorem wq_Mo_make : y_Mo_make.cls = R_Mo ∧ y_Mo_make.cls ≠ "java/lang/invoke/MethodHandle" ∧ y_Mo_make.cls ≠ "java/lang/invoke/VarHandle" ∧ (parseMethodDescriptor y_Mo_make.desc).map (fun d => d.parameters.length) = some 6 := by decide +kernel
theorem wq_Mo_makeContainer : y_Mo_makeContainer.cls = R_Mo ∧ y_Mo_makeContainer.cls ≠ "java/lang/invoke/MethodHandle" ∧ y_Mo_makeContainer.cls ≠ "java/lang/invoke/VarHandle" ∧ (parseMethodDescriptor y_Mo_makeContainer.desc).map (fun d => d.parameters.length) = some 4 := by decide +kernel
theorem wq_Mo_container : y_Mo_container.cls = R_Mo ∧ y_Mo_container.cls ≠ "java/lang/invoke/MethodHandle" ∧ y_Mo_container.cls ≠ "java/lang/invoke/VarHandle" ∧ (parseMethodDescriptor y_Mo_container.desc).map (fun d => d.parameters.length) = some 4 := by decide +kernel
theorem wq_Mo_makeSegment : y_Mo_makeSegment.cls = R_Mo ∧ y_Mo_makeSegment.cls ≠ "java/lang/invoke/MethodHandle" ∧ y_Mo_makeSegment.cls ≠ "java/lang/invoke/VarHandle" ∧ (parseMethodDescriptor y_Mo_makeSegment.desc).map (fun d => d.parameters.length) = some 4 := by decide +kernel
theorem wq_Mo_segment : y_Mo_segment.cls = R_Mo ∧ y_Mo_segment.cls ≠ "java/lang/invoke/MethodHandle" ∧ y_Mo_segment.cls ≠ "java/lang/invoke/VarHandle" ∧ (parseMethodDescriptor y_Mo_segment.desc).map (fun d => d.parameters.length) = some 4 := by decide +kernel
theorem wq_Mo_makeGate : y_Mo_makeGate.cls = R_Mo ∧ y_Mo_makeGate.cls ≠ "java/lang/invoke/MethodHandle" ∧ y_Mo_makeGate.cls ≠ "java/lang/invoke/VarHandle" ∧ (parseMethodDescriptor y_Mo_makeGate.desc).map (fun d => d.parameters.length) = some 5 := by decide +kernel
theorem wq_Mo_gate : y_Mo_gate.cls = R_Mo ∧ y_Mo_gate.cls ≠ "java/lang/invoke/MethodHandle" ∧ y_Mo_gate.cls ≠ "java/lang/invoke/VarHandle" ∧ (parseMethodDescriptor y_Mo_gate.desc).map (fun d => d.parameters.length) = some 5 := by decide +kernel
theorem wq_Mo_thread : y_Mo_thread.cls = R_Mo ∧ y_Mo_thread.cls ≠ "java/lang/invoke/MethodHandle" ∧ y_Mo_thread.cls ≠ "java/lang/invoke/VarHandle" ∧ (parseMethodDescriptor y_Mo_thread.desc).map (fun d => d.parameters.length) = some 4 := by decide +kernel
theorem wq_Mo_named : y_Mo_named.cls = R_Mo ∧ y_Mo_named.cls ≠ "java/lang/invoke/MethodHandle" ∧ y_Mo_named.cls ≠ "java/lang/invoke/VarHandle" ∧ (parseMethodDescriptor y_Mo_named.desc).map (fun d => d.parameters.length) = some 4 := by decide +kernel
theorem wq_Mo_cell : y_Mo_cell.cls = R_Mo ∧ y_Mo_cell.cls ≠ "java/lang/invoke/MethodHandle" ∧ y_Mo_cell.cls ≠ "java/lang/invoke/VarHandle" ∧ (parseMethodDescriptor y_Mo_cell.desc).map (fun d => d.parameters.length) = some 6 := by decide +kernel
theorem wq_Mo_read : y_Mo_read.cls = R_Mo ∧ y_Mo_read.cls ≠ "java/lang/invoke/MethodHandle" ∧ y_Mo_read.cls ≠ "java/lang/invoke/VarHandle" ∧ (parseMethodDescriptor y_Mo_read.desc).map (fun d => d.parameters.length) = some 4 := by decide +kernel
theorem wq_Mo_write : y_Mo_write.cls = R_Mo ∧ y_Mo_write.cls ≠ "java/lang/invoke/MethodHandle" ∧ y_Mo_write.cls ≠ "java/lang/invoke/VarHandle" ∧ (parseMethodDescriptor y_Mo_write.desc).map (fun d => d.parameters.length) = some 5 := by decide +kernel
theorem wq_Mo_move : y_Mo_move.cls = R_Mo ∧ y_Mo_move.cls ≠ "java/lang/invoke/MethodHandle" ∧ y_Mo_move.cls ≠ "java/lang/invoke/VarHandle" ∧ (parseMethodDescriptor y_Mo_move.desc).map (fun d => d.parameters.length) = some 4 := by decide +kernel
theorem wq_Mo_remove : y_Mo_remove.cls = R_Mo ∧ y_Mo_remove.cls ≠ "java/lang/invoke/MethodHandle" ∧ y_Mo_remove.cls ≠ "java/lang/invoke/VarHandle" ∧ (parseMethodDescriptor y_Mo_remove.desc).map (fun d => d.parameters.length) = some 3 := by decide +kernel
theorem wq_Mo_drop : y_Mo_drop.cls = R_Mo ∧ y_Mo_drop.cls ≠ "java/lang/invoke/MethodHandle" ∧ y_Mo_drop.cls ≠ "java/lang/invoke/VarHandle" ∧ (parseMethodDescriptor y_Mo_drop.desc).map (fun d => d.parameters.length) = some 3 := by decide +kernel
theorem wq_Mo_become : y_Mo_become.cls = R_Mo ∧ y_Mo_become.cls ≠ "java/lang/invoke/MethodHandle" ∧ y_Mo_become.cls ≠ "java/lang/invoke/VarHandle" ∧ (parseMethodDescriptor y_Mo_become.desc).map (fun d => d.parameters.length) = some 2 := by decide +kernel
theorem wq_Mo_lower : y_Mo_lower.cls = R_Mo ∧ y_Mo_lower.cls ≠ "java/lang/invoke/MethodHandle" ∧ y_Mo_lower.cls ≠ "java/lang/invoke/VarHandle" ∧ (parseMethodDescriptor y_Mo_lower.desc).map (fun d => d.parameters.length) = some 2 := by decide +kernel
theorem wq_Mo_passes : y_Mo_passes.cls = R_Mo ∧ y_Mo_passes.cls ≠ "java/lang/invoke/MethodHandle" ∧ y_Mo_passes.cls ≠ "java/lang/invoke/VarHandle" ∧ (parseMethodDescriptor y_Mo_passes.desc).map (fun d => d.parameters.length) = some 4 := by decide +kernel
theorem wq_Mo_go : y_Mo_go.cls = R_Mo ∧ y_Mo_go.cls ≠ "java/lang/invoke/MethodHandle" ∧ y_Mo_go.cls ≠ "java/lang/invoke/VarHandle" ∧ (parseMethodDescriptor y_Mo_go.desc).map (fun d => d.parameters.length) = some 5 := by decide +kernel
theorem wq_Mo_enter : y_Mo_enter.cls = R_Mo ∧ y_Mo_enter.cls ≠ "java/lang/invoke/MethodHandle" ∧ y_Mo_enter.cls ≠ "java/lang/invoke/VarHandle" ∧ (parseMethodDescriptor y_Mo_enter.desc).map (fun d => d.parameters.length) = some 5 := by decide +kernel
theorem wq_Mo_of : y_Mo_of.cls = R_Mo ∧ y_Mo_of.cls ≠ "java/lang/invoke/MethodHandle" ∧ y_Mo_of.cls ≠ "java/lang/invoke/VarHandle" ∧ (parseMethodDescriptor y_Mo_of.desc).map (fun d => d.parameters.length) = some 2 := by decide +kernel
theorem wq_Mo_both : y_Mo_both.cls = R_Mo ∧ y_Mo_both.cls ≠ "java/lang/invoke/MethodHandle" ∧ y_Mo_both.cls ≠ "java/lang/invoke/VarHandle" ∧ (parseMethodDescriptor y_Mo_both.desc).map (fun d => d.parameters.length) = some 5 := by decide +kernel
theorem wq_Mo_user : y_Mo_user.cls = R_Mo ∧ y_Mo_user.cls ≠ "java/lang/invoke/MethodHandle" ∧ y_Mo_user.cls ≠ "java/lang/invoke/VarHandle" ∧ (parseMethodDescriptor y_Mo_user.desc).map (fun d => d.parameters.length) = some 3 := by decide +kernel
theorem wq_Mo_login : y_Mo_login.cls = R_Mo ∧ y_Mo_login.cls ≠ "java/lang/invoke/MethodHandle" ∧ y_Mo_login.cls ≠ "java/lang/invoke/VarHandle" ∧ (parseMethodDescriptor y_Mo_login.desc).map (fun d => d.parameters.length) = some 3 := by decide +kernel
theorem wq_Mo_file : y_Mo_file.cls = R_Mo ∧ y_Mo_file.cls ≠ "java/lang/invoke/MethodHandle" ∧ y_Mo_file.cls ≠ "java/lang/invoke/VarHandle" ∧ (parseMethodDescriptor y_Mo_file.desc).map (fun d => d.parameters.length) = some 4 := by decide +kernel
theorem wq_Mo_access : y_Mo_access.cls = R_Mo ∧ y_Mo_access.cls ≠ "java/lang/invoke/MethodHandle" ∧ y_Mo_access.cls ≠ "java/lang/invoke/VarHandle" ∧ (parseMethodDescriptor y_Mo_access.desc).map (fun d => d.parameters.length) = some 6 := by decide +kernel
theorem wq_Mo_objects : y_Mo_objects.cls = R_Mo ∧ y_Mo_objects.cls ≠ "java/lang/invoke/MethodHandle" ∧ y_Mo_objects.cls ≠ "java/lang/invoke/VarHandle" ∧ (parseMethodDescriptor y_Mo_objects.desc).map (fun d => d.parameters.length) = some 0 := by decide +kernel
theorem wq_Mo_snapshot : y_Mo_snapshot.cls = R_Mo ∧ y_Mo_snapshot.cls ≠ "java/lang/invoke/MethodHandle" ∧ y_Mo_snapshot.cls ≠ "java/lang/invoke/VarHandle" ∧ (parseMethodDescriptor y_Mo_snapshot.desc).map (fun d => d.parameters.length) = some 0 := by decide +kernel
theorem wq_Mo_crash : y_Mo_crash.cls = R_Mo ∧ y_Mo_crash.cls ≠ "java/lang/invoke/MethodHandle" ∧ y_Mo_crash.cls ≠ "java/lang/invoke/VarHandle" ∧ (parseMethodDescriptor y_Mo_crash.desc).map (fun d => d.parameters.length) = some 0 := by decide +kernel
theorem wq_Mo_object : y_Mo_object.cls = R_Mo ∧ y_Mo_object.cls ≠ "java/lang/invoke/MethodHandle" ∧ y_Mo_object.cls ≠ "java/lang/invoke/VarHandle" ∧ (parseMethodDescriptor y_Mo_object.desc).map (fun d => d.parameters.length) = some 2 := by decide +kernel
theorem wq_Mo_in : y_Mo_in.cls = R_Mo ∧ y_Mo_in.cls ≠ "java/lang/invoke/MethodHandle" ∧ y_Mo_in.cls ≠ "java/lang/invoke/VarHandle" ∧ (parseMethodDescriptor y_Mo_in.desc).map (fun d => d.parameters.length) = some 2 := by decide +kernel
theorem wq_Mo_count : y_Mo_count.cls = R_Mo ∧ y_Mo_count.cls ≠ "java/lang/invoke/MethodHandle" ∧ y_Mo_count.cls ≠ "java/lang/invoke/VarHandle" ∧ (parseMethodDescriptor y_Mo_count.desc).map (fun d => d.parameters.length) = some 1 := by decide +kernel
theorem wq_La_label : y_La_label.cls = R_La ∧ y_La_label.cls ≠ "java/lang/invoke/MethodHandle" ∧ y_La_label.cls ≠ "java/lang/invoke/VarHandle" ∧ (parseMethodDescriptor y_La_label.desc).map (fun d => d.parameters.length) = some 5 := by decide +kernel
theorem wq_La_level : y_La_level.cls = R_La ∧ y_La_level.cls ≠ "java/lang/invoke/MethodHandle" ∧ y_La_level.cls ≠ "java/lang/invoke/VarHandle" ∧ (parseMethodDescriptor y_La_level.desc).map (fun d => d.parameters.length) = some 4 := by decide +kernel
theorem wq_La_fits : y_La_fits.cls = R_La ∧ y_La_fits.cls ≠ "java/lang/invoke/MethodHandle" ∧ y_La_fits.cls ≠ "java/lang/invoke/VarHandle" ∧ (parseMethodDescriptor y_La_fits.desc).map (fun d => d.parameters.length) = some 5 := by decide +kernel
theorem wq_La_category : y_La_category.cls = R_La ∧ y_La_category.cls ≠ "java/lang/invoke/MethodHandle" ∧ y_La_category.cls ≠ "java/lang/invoke/VarHandle" ∧ (parseMethodDescriptor y_La_category.desc).map (fun d => d.parameters.length) = some 3 := by decide +kernel
theorem wq_La_container : y_La_container.cls = R_La ∧ y_La_container.cls ≠ "java/lang/invoke/MethodHandle" ∧ y_La_container.cls ≠ "java/lang/invoke/VarHandle" ∧ (parseMethodDescriptor y_La_container.desc).map (fun d => d.parameters.length) = some 6 := by decide +kernel
theorem wq_La_segment : y_La_segment.cls = R_La ∧ y_La_segment.cls ≠ "java/lang/invoke/MethodHandle" ∧ y_La_segment.cls ≠ "java/lang/invoke/VarHandle" ∧ (parseMethodDescriptor y_La_segment.desc).map (fun d => d.parameters.length) = some 6 := by decide +kernel
theorem wq_La_gate : y_La_gate.cls = R_La ∧ y_La_gate.cls ≠ "java/lang/invoke/MethodHandle" ∧ y_La_gate.cls ≠ "java/lang/invoke/VarHandle" ∧ (parseMethodDescriptor y_La_gate.desc).map (fun d => d.parameters.length) = some 7 := by decide +kernel
theorem wq_La_thread : y_La_thread.cls = R_La ∧ y_La_thread.cls ≠ "java/lang/invoke/MethodHandle" ∧ y_La_thread.cls ≠ "java/lang/invoke/VarHandle" ∧ (parseMethodDescriptor y_La_thread.desc).map (fun d => d.parameters.length) = some 6 := by decide +kernel
theorem wq_La_read : y_La_read.cls = R_La ∧ y_La_read.cls ≠ "java/lang/invoke/MethodHandle" ∧ y_La_read.cls ≠ "java/lang/invoke/VarHandle" ∧ (parseMethodDescriptor y_La_read.desc).map (fun d => d.parameters.length) = some 6 := by decide +kernel
theorem wq_La_write : y_La_write.cls = R_La ∧ y_La_write.cls ≠ "java/lang/invoke/MethodHandle" ∧ y_La_write.cls ≠ "java/lang/invoke/VarHandle" ∧ (parseMethodDescriptor y_La_write.desc).map (fun d => d.parameters.length) = some 7 := by decide +kernel
theorem wq_La_move : y_La_move.cls = R_La ∧ y_La_move.cls ≠ "java/lang/invoke/MethodHandle" ∧ y_La_move.cls ≠ "java/lang/invoke/VarHandle" ∧ (parseMethodDescriptor y_La_move.desc).map (fun d => d.parameters.length) = some 6 := by decide +kernel
theorem wq_La_drop : y_La_drop.cls = R_La ∧ y_La_drop.cls ≠ "java/lang/invoke/MethodHandle" ∧ y_La_drop.cls ≠ "java/lang/invoke/VarHandle" ∧ (parseMethodDescriptor y_La_drop.desc).map (fun d => d.parameters.length) = some 5 := by decide +kernel
theorem wq_La_become : y_La_become.cls = R_La ∧ y_La_become.cls ≠ "java/lang/invoke/MethodHandle" ∧ y_La_become.cls ≠ "java/lang/invoke/VarHandle" ∧ (parseMethodDescriptor y_La_become.desc).map (fun d => d.parameters.length) = some 4 := by decide +kernel
theorem wq_La_lower : y_La_lower.cls = R_La ∧ y_La_lower.cls ≠ "java/lang/invoke/MethodHandle" ∧ y_La_lower.cls ≠ "java/lang/invoke/VarHandle" ∧ (parseMethodDescriptor y_La_lower.desc).map (fun d => d.parameters.length) = some 4 := by decide +kernel
theorem wq_La_enter : y_La_enter.cls = R_La ∧ y_La_enter.cls ≠ "java/lang/invoke/MethodHandle" ∧ y_La_enter.cls ≠ "java/lang/invoke/VarHandle" ∧ (parseMethodDescriptor y_La_enter.desc).map (fun d => d.parameters.length) = some 7 := by decide +kernel
theorem wq_La_user : y_La_user.cls = R_La ∧ y_La_user.cls ≠ "java/lang/invoke/MethodHandle" ∧ y_La_user.cls ≠ "java/lang/invoke/VarHandle" ∧ (parseMethodDescriptor y_La_user.desc).map (fun d => d.parameters.length) = some 5 := by decide +kernel
theorem wq_La_login : y_La_login.cls = R_La ∧ y_La_login.cls ≠ "java/lang/invoke/MethodHandle" ∧ y_La_login.cls ≠ "java/lang/invoke/VarHandle" ∧ (parseMethodDescriptor y_La_login.desc).map (fun d => d.parameters.length) = some 5 := by decide +kernel
theorem wq_La_file : y_La_file.cls = R_La ∧ y_La_file.cls ≠ "java/lang/invoke/MethodHandle" ∧ y_La_file.cls ≠ "java/lang/invoke/VarHandle" ∧ (parseMethodDescriptor y_La_file.desc).map (fun d => d.parameters.length) = some 6 := by decide +kernel
theorem wq_La_access : y_La_access.cls = R_La ∧ y_La_access.cls ≠ "java/lang/invoke/MethodHandle" ∧ y_La_access.cls ≠ "java/lang/invoke/VarHandle" ∧ (parseMethodDescriptor y_La_access.desc).map (fun d => d.parameters.length) = some 8 := by decide +kernel
theorem wq_La_object : y_La_object.cls = R_La ∧ y_La_object.cls ≠ "java/lang/invoke/MethodHandle" ∧ y_La_object.cls ≠ "java/lang/invoke/VarHandle" ∧ (parseMethodDescriptor y_La_object.desc).map (fun d => d.parameters.length) = some 4 := by decide +kernel
theorem wq_La_in : y_La_in.cls = R_La ∧ y_La_in.cls ≠ "java/lang/invoke/MethodHandle" ∧ y_La_in.cls ≠ "java/lang/invoke/VarHandle" ∧ (parseMethodDescriptor y_La_in.desc).map (fun d => d.parameters.length) = some 4 := by decide +kernel
theorem tg_in {l : List Cond} (h : ∀ w ∈ l, w ∈ T0) : GoodIn T0 l := fun w hw => ⟨h w hw, good_of_word (T0_good w (h w hw))⟩
theorem tg_V {own C : String} {i : Nat} {y : MethodName} {b : ByteArray} {n : Nat} {r : Option FieldType} (h1 : Cond.methodLink own i y ∈ T0) (h2 : Cond.instanceMethod y ∈ T0) (h3 : Cond.selects C y y ∈ T0) (h4 : Cond.initialized C ∈ T0) (h5 : Cond.code y b n r ∈ T0) : GoodIn T0 (wsV own i C y (Cond.code y b n r :: T0)) := by
  refine tg_in (fun w hw => ?_)
  unfold wsV at hw
  simp only [List.cons_append, List.nil_append, List.mem_cons] at hw
  rcases hw with rfl | rfl | rfl | rfl | rfl | hw
  · exact h1
  · exact h2
  · exact h3
  · exact h4
  · exact h5
  · exact hw
theorem tg_S {own : String} {i : Nat} {y : MethodName} {b : ByteArray} {n : Nat} {r : Option FieldType} (h1 : Cond.methodLink own i y ∈ T0) (h2 : Cond.static y ∈ T0) (h4 : Cond.initialized own ∈ T0) (h5 : Cond.code y b n r ∈ T0) : GoodIn T0 (wsS own i y (Cond.code y b n r :: T0)) := by
  refine tg_in (fun w hw => ?_)
  unfold wsS at hw
  simp only [List.cons_append, List.nil_append, List.mem_cons] at hw
  rcases hw with rfl | rfl | rfl | rfl | hw
  · exact h1
  · exact h2
  · exact h4
  · exact h5
  · exact hw
theorem tg_I {y : MethodName} {b : ByteArray} {n : Nat} {r : Option FieldType} (h5 : Cond.code y b n r ∈ T0) : GoodIn T0 (Cond.code y b n r :: T0) := by
  refine tg_in (fun w hw => ?_)
  rcases List.mem_cons.mp hw with rfl | hw
  · exact h5
  · exact hw
