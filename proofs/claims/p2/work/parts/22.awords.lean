abbrev hh_La_label : List (Nat × Nat × Nat × Nat) := [(0, 12, 15, 13), (0, 12, 19, 15), (0, 12, 23, 17), (0, 12, 27, 19)]
set_option maxRecDepth 20000 in
theorem wo_La_label : (Cond.codeWith y_La_label b_La_label 6 (some .int) hh_La_label) ∈ T0 := tw_1 205 rfl rfl
abbrev hh_La_level : List (Nat × Nat × Nat × Nat) := [(0, 10, 13, 13), (0, 10, 17, 15), (0, 10, 21, 17), (0, 10, 25, 19)]
set_option maxRecDepth 20000 in
theorem wo_La_level : (Cond.codeWith y_La_level b_La_level 5 (some .int) hh_La_level) ∈ T0 := tw_2 88 rfl rfl
abbrev hh_La_fits : List (Nat × Nat × Nat × Nat) := [(0, 19, 22, 13), (0, 19, 26, 15), (0, 19, 30, 17), (0, 19, 34, 19)]
set_option maxRecDepth 20000 in
theorem wo_La_fits : (Cond.codeWith y_La_fits b_La_fits 6 (some .int) hh_La_fits) ∈ T0 := tw_2 99 rfl rfl
abbrev hh_La_category : List (Nat × Nat × Nat × Nat) := [(0, 9, 12, 13), (0, 9, 15, 15), (0, 9, 18, 17), (0, 9, 21, 19)]
set_option maxRecDepth 20000 in
theorem wo_La_category : (Cond.codeWith y_La_category b_La_category 4 (some .int) hh_La_category) ∈ T0 := tw_2 118 rfl rfl
abbrev hh_La_container : List (Nat × Nat × Nat × Nat) := [(0, 14, 17, 13), (0, 14, 21, 15), (0, 14, 25, 17), (0, 14, 29, 19)]
set_option maxRecDepth 20000 in
theorem wo_La_container : (Cond.codeWith y_La_container b_La_container 7 (some .int) hh_La_container) ∈ T0 := tw_2 168 rfl rfl
abbrev hh_La_segment : List (Nat × Nat × Nat × Nat) := [(0, 14, 17, 13), (0, 14, 21, 15), (0, 14, 25, 17), (0, 14, 29, 19)]
set_option maxRecDepth 20000 in
theorem wo_La_segment : (Cond.codeWith y_La_segment b_La_segment 7 (some .int) hh_La_segment) ∈ T0 := tw_3 12 rfl rfl
abbrev hh_La_gate : List (Nat × Nat × Nat × Nat) := [(0, 16, 19, 13), (0, 16, 23, 15), (0, 16, 27, 17), (0, 16, 31, 19)]
set_option maxRecDepth 20000 in
theorem wo_La_gate : (Cond.codeWith y_La_gate b_La_gate 8 (some .int) hh_La_gate) ∈ T0 := tw_3 23 rfl rfl
abbrev hh_La_thread : List (Nat × Nat × Nat × Nat) := [(0, 14, 17, 13), (0, 14, 21, 15), (0, 14, 25, 17), (0, 14, 29, 19)]
set_option maxRecDepth 20000 in
theorem wo_La_thread : (Cond.codeWith y_La_thread b_La_thread 7 (some .int) hh_La_thread) ∈ T0 := tw_3 34 rfl rfl
abbrev hh_La_read : List (Nat × Nat × Nat × Nat) := [(0, 14, 17, 13), (0, 14, 21, 15), (0, 14, 25, 17), (0, 14, 29, 19)]
set_option maxRecDepth 20000 in
theorem wo_La_read : (Cond.codeWith y_La_read b_La_read 7 (some .int) hh_La_read) ∈ T0 := tw_3 41 rfl rfl
abbrev hh_La_write : List (Nat × Nat × Nat × Nat) := [(0, 16, 19, 13), (0, 16, 23, 15), (0, 16, 27, 17), (0, 16, 31, 19)]
set_option maxRecDepth 20000 in
theorem wo_La_write : (Cond.codeWith y_La_write b_La_write 8 (some .int) hh_La_write) ∈ T0 := tw_3 65 rfl rfl
abbrev hh_La_move : List (Nat × Nat × Nat × Nat) := [(0, 14, 17, 13), (0, 14, 21, 15), (0, 14, 25, 17), (0, 14, 29, 19)]
set_option maxRecDepth 20000 in
theorem wo_La_move : (Cond.codeWith y_La_move b_La_move 7 (some .int) hh_La_move) ∈ T0 := tw_3 76 rfl rfl
abbrev hh_La_drop : List (Nat × Nat × Nat × Nat) := [(0, 12, 15, 13), (0, 12, 19, 15), (0, 12, 23, 17), (0, 12, 27, 19)]
set_option maxRecDepth 20000 in
theorem wo_La_drop : (Cond.codeWith y_La_drop b_La_drop 6 (some .int) hh_La_drop) ∈ T0 := tw_3 91 rfl rfl
abbrev hh_La_become : List (Nat × Nat × Nat × Nat) := [(0, 10, 13, 13), (0, 10, 17, 15), (0, 10, 21, 17), (0, 10, 25, 19)]
set_option maxRecDepth 20000 in
theorem wo_La_become : (Cond.codeWith y_La_become b_La_become 5 (some .int) hh_La_become) ∈ T0 := tw_3 102 rfl rfl
abbrev hh_La_lower : List (Nat × Nat × Nat × Nat) := [(0, 10, 13, 13), (0, 10, 17, 15), (0, 10, 21, 17), (0, 10, 25, 19)]
set_option maxRecDepth 20000 in
theorem wo_La_lower : (Cond.codeWith y_La_lower b_La_lower 5 (some .int) hh_La_lower) ∈ T0 := tw_3 109 rfl rfl
abbrev hh_La_enter : List (Nat × Nat × Nat × Nat) := [(0, 16, 19, 13), (0, 16, 23, 15), (0, 16, 27, 17), (0, 16, 31, 19)]
set_option maxRecDepth 20000 in
theorem wo_La_enter : (Cond.codeWith y_La_enter b_La_enter 8 (some .int) hh_La_enter) ∈ T0 := tw_3 116 rfl rfl
abbrev hh_La_user : List (Nat × Nat × Nat × Nat) := [(0, 12, 15, 13), (0, 12, 19, 15), (0, 12, 23, 17), (0, 12, 27, 19)]
set_option maxRecDepth 20000 in
theorem wo_La_user : (Cond.codeWith y_La_user b_La_user 6 (some .int) hh_La_user) ∈ T0 := tw_3 143 rfl rfl
abbrev hh_La_login : List (Nat × Nat × Nat × Nat) := [(0, 12, 15, 13), (0, 12, 19, 15), (0, 12, 23, 17), (0, 12, 27, 19)]
set_option maxRecDepth 20000 in
theorem wo_La_login : (Cond.codeWith y_La_login b_La_login 6 (some .int) hh_La_login) ∈ T0 := tw_3 171 rfl rfl
abbrev hh_La_file : List (Nat × Nat × Nat × Nat) := [(0, 14, 17, 13), (0, 14, 21, 15), (0, 14, 25, 17), (0, 14, 29, 19)]
set_option maxRecDepth 20000 in
theorem wo_La_file : (Cond.codeWith y_La_file b_La_file 7 (some .int) hh_La_file) ∈ T0 := tw_3 195 rfl rfl
abbrev hh_La_access : List (Nat × Nat × Nat × Nat) := [(0, 18, 21, 13), (0, 18, 25, 15), (0, 18, 29, 17), (0, 18, 33, 19)]
set_option maxRecDepth 20000 in
theorem wo_La_access : (Cond.codeWith y_La_access b_La_access 9 (some .int) hh_La_access) ∈ T0 := tw_3 213 rfl rfl
abbrev hh_La_object : List (Nat × Nat × Nat × Nat) := [(0, 10, 13, 13), (0, 10, 17, 15), (0, 10, 21, 17), (0, 10, 25, 19)]
set_option maxRecDepth 20000 in
theorem wo_La_object : (Cond.codeWith y_La_object b_La_object 5 (some .int) hh_La_object) ∈ T0 := tw_3 220 rfl rfl
abbrev hh_La_in : List (Nat × Nat × Nat × Nat) := [(0, 10, 13, 13), (0, 10, 17, 15), (0, 10, 21, 17), (0, 10, 25, 19)]
set_option maxRecDepth 20000 in
theorem wo_La_in : (Cond.codeWith y_La_in b_La_in 5 (some .int) hh_La_in) ∈ T0 := tw_3 235 rfl rfl
theorem wq_La_label : y_La_label.cls = R_La ∧ y_La_label.cls ≠ "java/lang/invoke/MethodHandle" ∧ y_La_label.cls ≠ "java/lang/invoke/VarHandle" ∧ (parseMethodDescriptor y_La_label.desc).map (fun d => d.parameters.length) = some 5 := by decide +kernel
theorem wq_La_level : y_La_level.cls = R_La ∧ y_La_level.cls ≠ "java/lang/invoke/MethodHandle" ∧ y_La_level.cls ≠ "java/lang/invoke/VarHandle" ∧ (parseMethodDescriptor y_La_level.desc).map (fun d => d.parameters.length) = some 4 := by decide +kernel
theorem wq_La_fits : y_La_fits.cls = R_La ∧ y_La_fits.cls ≠ "java/lang/invoke/MethodHandle" ∧ y_La_fits.cls ≠ "java/lang/invoke/VarHandle" ∧ (parseMethodDescriptor y_La_fits.desc).map (fun d => d.parameters.length) = some 5 := by decide +kernel
theorem wq_La_category : y_La_category.cls = R_La ∧ y_La_category.cls ≠ "java/lang/invoke/MethodHandle" ∧ y_La_category.cls ≠ "java/lang/invoke/VarHandle" ∧ (parseMethodDescriptor y_La_category.desc).map (fun d => d.parameters.length) = some 3 := by decide +kernel
theorem wq_La_container : y_La_container.cls = R_La ∧ y_La_container.cls ≠ "java/lang/invoke/MethodHandle" ∧ y_La_container.cls ≠ "java/lang/invoke/VarHandle" ∧ (parseMethodDescriptor y_La_container.desc).map (fun d => d.parameters.length) = some 6 := by decide +kernel
theorem wq_La_segment : y_La_segment.cls = R_La ∧ y_La_segment.cls ≠ "java/lang/invoke/MethodHandle" ∧ y_La_segment.cls ≠ "java/lang/invoke/VarHandle" ∧ (parseMethodDescriptor y_La_segment.desc).map (fun d => d.parameters.length) = some 6 := by decide +kernel
theorem wq_La_gate : y_La_gate.cls = R_La ∧ y_La_gate.cls ≠ "java/lang/invoke/MethodHandle" ∧ y_La_gate.cls ≠ "java/lang/invoke/VarHandle" ∧ (parseMethodDescriptor y_La_gate.desc).map (fun d => d.parameters.length) = some 7 := by decide +kernel
theorem wq_La_thread : y_La_thread.cls = R_La ∧ y_La_thread.cls ≠ "java/lang/invoke/MethodHandle" ∧ y_La_thread.cls ≠ "java/lang/invoke/VarHandle" ∧ (parseMethodDescriptor y_La_thread.desc).map (fun d => d.parameters.length) = some 6 := by decide +kernel
theorem wq_La_read : y_La_read.cls = R_La ∧ y_La_read.cls ≠ "java/lang/invoke/MethodHandle" ∧ y_La_read.cls ≠ "java/lang/invoke/VarHandle" ∧ (parseMethodDescriptor y_La_read.desc).map (fun d => d.parameters.length) = some 6 := by decide +kernel
theorem wq_La_write : y_La_write.cls = R_La ∧ y_La_write.cls ≠ "java/lang/invoke/MethodHandle" ∧ y_La_write.cls ≠ "java/lang/invoke/VarHandle" ∧ (parseMethodDescriptor y_La_write.desc).map (fun d => d.parameters.length) = some 7 := by decide +kernel
theorem wq_La_move : y_La_move.cls = R_La ∧ y_La_move.cls ≠ "java/lang/invoke/MethodHandle" ∧ y_La_move.cls ≠ "java/lang/invoke/VarHandle" ∧ (parseMethodDescriptor y_La_move.desc).map (fun d => d.parameters.length) = some 6 := by decide +kernel
theorem wq_La_drop : y_La_drop.cls = R_La ∧ y_La_drop.cls ≠ "java/lang/invoke/MethodHandle" ∧ y_La_drop.cls ≠ "java/lang/invoke/VarHandle" ∧ (parseMethodDescriptor y_La_drop.desc).map (fun d => d.parameters.length) = some 5 := by decide +kernel
theorem wq_La_become : y_La_become.cls = R_La ∧ y_La_become.cls ≠ "java/lang/invoke/MethodHandle" ∧ y_La_become.cls ≠ "java/lang/invoke/VarHandle" ∧ (parseMethodDescriptor y_La_become.desc).map (fun d => d.parameters.length) = some 4 := by decide +kernel
theorem wq_La_lower : y_La_lower.cls = R_La ∧ y_La_lower.cls ≠ "java/lang/invoke/MethodHandle" ∧ y_La_lower.cls ≠ "java/lang/invoke/VarHandle" ∧ (parseMethodDescriptor y_La_lower.desc).map (fun d => d.parameters.length) = some 4 := by decide +kernel
theorem wq_La_enter : y_La_enter.cls = R_La ∧ y_La_enter.cls ≠ "java/lang/invoke/MethodHandle" ∧ y_La_enter.cls ≠ "java/lang/invoke/VarHandle" ∧ (parseMethodDescriptor y_La_enter.desc).map (fun d => d.parameters.length) = some 7 := by decide +kernel
theorem wq_La_user : y_La_user.cls = R_La ∧ y_La_user.cls ≠ "java/lang/invoke/MethodHandle" ∧ y_La_user.cls ≠ "java/lang/invoke/VarHandle" ∧ (parseMethodDescriptor y_La_user.desc).map (fun d => d.parameters.length) = some 5 := by decide +kernel
theorem wq_La_login : y_La_login.cls = R_La ∧ y_La_login.cls ≠ "java/lang/invoke/MethodHandle" ∧ y_La_login.cls ≠ "java/lang/invoke/VarHandle" ∧ (parseMethodDescriptor y_La_login.desc).map (fun d => d.parameters.length) = some 5 := by decide +kernel
theorem wq_La_file : y_La_file.cls = R_La ∧ y_La_file.cls ≠ "java/lang/invoke/MethodHandle" ∧ y_La_file.cls ≠ "java/lang/invoke/VarHandle" ∧ (parseMethodDescriptor y_La_file.desc).map (fun d => d.parameters.length) = some 6 := by decide +kernel
theorem wq_La_access : y_La_access.cls = R_La ∧ y_La_access.cls ≠ "java/lang/invoke/MethodHandle" ∧ y_La_access.cls ≠ "java/lang/invoke/VarHandle" ∧ (parseMethodDescriptor y_La_access.desc).map (fun d => d.parameters.length) = some 8 := by decide +kernel
theorem wq_La_object : y_La_object.cls = R_La ∧ y_La_object.cls ≠ "java/lang/invoke/MethodHandle" ∧ y_La_object.cls ≠ "java/lang/invoke/VarHandle" ∧ (parseMethodDescriptor y_La_object.desc).map (fun d => d.parameters.length) = some 4 := by decide +kernel
theorem wq_La_in : y_La_in.cls = R_La ∧ y_La_in.cls ≠ "java/lang/invoke/MethodHandle" ∧ y_La_in.cls ≠ "java/lang/invoke/VarHandle" ∧ (parseMethodDescriptor y_La_in.desc).map (fun d => d.parameters.length) = some 4 := by decide +kernel
