theorem kt_X11_fold : Cond.instanceMethod yX11_fold ∈ bg_L := bg_in 880 (by decide +kernel) rfl
theorem ke_X11_fold : Cond.selects RX11 yX11_fold yX11_fold ∈ bg_L := bg_in 881 (by decide +kernel) rfl
theorem kc_X11_heightAfterRoll : (yX11_heightAfterRoll.cls ≠ "java/lang/invoke/MethodHandle" ∧ yX11_heightAfterRoll.cls ≠ "java/lang/invoke/VarHandle" ∧ (parseMethodDescriptor yX11_heightAfterRoll.desc).map (fun d => d.parameters.length) = some 2) ∧ Cond.code yX11_heightAfterRoll cX11_heightAfterRoll 4 (some .int) ∈ bg_L ∧ Cond.initialized yX11_heightAfterRoll.cls ∈ bg_L ∧ plainName yX11_heightAfterRoll.cls = true := ⟨⟨by decide +kernel, by decide +kernel, by decide +kernel⟩, bg_in 906 (by decide +kernel) rfl, bg_in 9 (by decide +kernel) rfl, by decide +kernel⟩
theorem kt_X11_heightAfterRoll : Cond.instanceMethod yX11_heightAfterRoll ∈ bg_L := bg_in 904 (by decide +kernel) rfl
theorem ke_X11_heightAfterRoll : Cond.selects RX11 yX11_heightAfterRoll yX11_heightAfterRoll ∈ bg_L := bg_in 905 (by decide +kernel) rfl
theorem kc_X11_roll : (yX11_roll.cls ≠ "java/lang/invoke/MethodHandle" ∧ yX11_roll.cls ≠ "java/lang/invoke/VarHandle" ∧ (parseMethodDescriptor yX11_roll.desc).map (fun d => d.parameters.length) = some 2) ∧ Cond.code yX11_roll cX11_roll 3 (some .int) ∈ bg_L ∧ Cond.initialized yX11_roll.cls ∈ bg_L ∧ plainName yX11_roll.cls = true := ⟨⟨by decide +kernel, by decide +kernel, by decide +kernel⟩, bg_in 914 (by decide +kernel) rfl, bg_in 9 (by decide +kernel) rfl, by decide +kernel⟩
theorem kt_X11_roll : Cond.instanceMethod yX11_roll ∈ bg_L := bg_in 912 (by decide +kernel) rfl
theorem ke_X11_roll : Cond.selects RX11 yX11_roll yX11_roll ∈ bg_L := bg_in 913 (by decide +kernel) rfl
theorem kc_X11_dust : (yX11_dust.cls ≠ "java/lang/invoke/MethodHandle" ∧ yX11_dust.cls ≠ "java/lang/invoke/VarHandle" ∧ (parseMethodDescriptor yX11_dust.desc).map (fun d => d.parameters.length) = some 1) ∧ Cond.code yX11_dust cX11_dust 2 (some .int) ∈ bg_L ∧ Cond.initialized yX11_dust.cls ∈ bg_L ∧ plainName yX11_dust.cls = true := ⟨⟨by decide +kernel, by decide +kernel, by decide +kernel⟩, bg_in 932 (by decide +kernel) rfl, bg_in 9 (by decide +kernel) rfl, by decide +kernel⟩
theorem kt_X11_dust : Cond.instanceMethod yX11_dust ∈ bg_L := bg_in 930 (by decide +kernel) rfl
theorem ke_X11_dust : Cond.selects RX11 yX11_dust yX11_dust ∈ bg_L := bg_in 931 (by decide +kernel) rfl
theorem kc_X11_seal : (yX11_seal.cls ≠ "java/lang/invoke/MethodHandle" ∧ yX11_seal.cls ≠ "java/lang/invoke/VarHandle" ∧ (parseMethodDescriptor yX11_seal.desc).map (fun d => d.parameters.length) = some 1) ∧ Cond.code yX11_seal cX11_seal 2 (some .int) ∈ bg_L ∧ Cond.initialized yX11_seal.cls ∈ bg_L ∧ plainName yX11_seal.cls = true := ⟨⟨by decide +kernel, by decide +kernel, by decide +kernel⟩, bg_in 944 (by decide +kernel) rfl, bg_in 9 (by decide +kernel) rfl, by decide +kernel⟩
theorem kt_X11_seal : Cond.instanceMethod yX11_seal ∈ bg_L := bg_in 942 (by decide +kernel) rfl
theorem ke_X11_seal : Cond.selects RX11 yX11_seal yX11_seal ∈ bg_L := bg_in 943 (by decide +kernel) rfl
theorem kc_X11_takeOut : (yX11_takeOut.cls ≠ "java/lang/invoke/MethodHandle" ∧ yX11_takeOut.cls ≠ "java/lang/invoke/VarHandle" ∧ (parseMethodDescriptor yX11_takeOut.desc).map (fun d => d.parameters.length) = some 1) ∧ Cond.code yX11_takeOut cX11_takeOut 2 (some .int) ∈ bg_L ∧ Cond.initialized yX11_takeOut.cls ∈ bg_L ∧ plainName yX11_takeOut.cls = true := ⟨⟨by decide +kernel, by decide +kernel, by decide +kernel⟩, bg_in 960 (by decide +kernel) rfl, bg_in 9 (by decide +kernel) rfl, by decide +kernel⟩
theorem kt_X11_takeOut : Cond.instanceMethod yX11_takeOut ∈ bg_L := bg_in 958 (by decide +kernel) rfl
theorem ke_X11_takeOut : Cond.selects RX11 yX11_takeOut yX11_takeOut ∈ bg_L := bg_in 959 (by decide +kernel) rfl
theorem kc_X11_cool : (yX11_cool.cls ≠ "java/lang/invoke/MethodHandle" ∧ yX11_cool.cls ≠ "java/lang/invoke/VarHandle" ∧ (parseMethodDescriptor yX11_cool.desc).map (fun d => d.parameters.length) = some 1) ∧ Cond.code yX11_cool cX11_cool 2 (some .int) ∈ bg_L ∧ Cond.initialized yX11_cool.cls ∈ bg_L ∧ plainName yX11_cool.cls = true := ⟨⟨by decide +kernel, by decide +kernel, by decide +kernel⟩, bg_in 972 (by decide +kernel) rfl, bg_in 9 (by decide +kernel) rfl, by decide +kernel⟩
theorem kt_X11_cool : Cond.instanceMethod yX11_cool ∈ bg_L := bg_in 970 (by decide +kernel) rfl
theorem ke_X11_cool : Cond.selects RX11 yX11_cool yX11_cool ∈ bg_L := bg_in 971 (by decide +kernel) rfl
theorem kc_X11_passHours : (yX11_passHours.cls ≠ "java/lang/invoke/MethodHandle" ∧ yX11_passHours.cls ≠ "java/lang/invoke/VarHandle" ∧ (parseMethodDescriptor yX11_passHours.desc).map (fun d => d.parameters.length) = some 1) ∧ Cond.code yX11_passHours cX11_passHours 2 (some .int) ∈ bg_L ∧ Cond.initialized yX11_passHours.cls ∈ bg_L ∧ plainName yX11_passHours.cls = true := ⟨⟨by decide +kernel, by decide +kernel, by decide +kernel⟩, bg_in 988 (by decide +kernel) rfl, bg_in 9 (by decide +kernel) rfl, by decide +kernel⟩
theorem kt_X11_passHours : Cond.instanceMethod yX11_passHours ∈ bg_L := bg_in 986 (by decide +kernel) rfl
theorem ke_X11_passHours : Cond.selects RX11 yX11_passHours yX11_passHours ∈ bg_L := bg_in 987 (by decide +kernel) rfl
theorem kc_X11_cut : (yX11_cut.cls ≠ "java/lang/invoke/MethodHandle" ∧ yX11_cut.cls ≠ "java/lang/invoke/VarHandle" ∧ (parseMethodDescriptor yX11_cut.desc).map (fun d => d.parameters.length) = some 1) ∧ Cond.code yX11_cut cX11_cut 2 (some .int) ∈ bg_L ∧ Cond.initialized yX11_cut.cls ∈ bg_L ∧ plainName yX11_cut.cls = true := ⟨⟨by decide +kernel, by decide +kernel, by decide +kernel⟩, bg_in 1005 (by decide +kernel) rfl, bg_in 9 (by decide +kernel) rfl, by decide +kernel⟩
theorem kt_X11_cut : Cond.instanceMethod yX11_cut ∈ bg_L := bg_in 1003 (by decide +kernel) rfl
theorem ke_X11_cut : Cond.selects RX11 yX11_cut yX11_cut ∈ bg_L := bg_in 1004 (by decide +kernel) rfl
theorem kc_X11_stack : (yX11_stack.cls ≠ "java/lang/invoke/MethodHandle" ∧ yX11_stack.cls ≠ "java/lang/invoke/VarHandle" ∧ (parseMethodDescriptor yX11_stack.desc).map (fun d => d.parameters.length) = some 2) ∧ Cond.code yX11_stack cX11_stack 3 (some .int) ∈ bg_L ∧ Cond.initialized yX11_stack.cls ∈ bg_L ∧ plainName yX11_stack.cls = true := ⟨⟨by decide +kernel, by decide +kernel, by decide +kernel⟩, bg_in 1017 (by decide +kernel) rfl, bg_in 9 (by decide +kernel) rfl, by decide +kernel⟩
theorem kt_X11_stack : Cond.instanceMethod yX11_stack ∈ bg_L := bg_in 1015 (by decide +kernel) rfl
theorem ke_X11_stack : Cond.selects RX11 yX11_stack yX11_stack ∈ bg_L := bg_in 1016 (by decide +kernel) rfl
theorem kc_X11_addButter : (yX11_addButter.cls ≠ "java/lang/invoke/MethodHandle" ∧ yX11_addButter.cls ≠ "java/lang/invoke/VarHandle" ∧ (parseMethodDescriptor yX11_addButter.desc).map (fun d => d.parameters.length) = some 2) ∧ Cond.code yX11_addButter cX11_addButter 3 (some .int) ∈ bg_L ∧ Cond.initialized yX11_addButter.cls ∈ bg_L ∧ plainName yX11_addButter.cls = true := ⟨⟨by decide +kernel, by decide +kernel, by decide +kernel⟩, bg_in 1046 (by decide +kernel) rfl, bg_in 9 (by decide +kernel) rfl, by decide +kernel⟩
theorem kt_X11_addButter : Cond.instanceMethod yX11_addButter ∈ bg_L := bg_in 1044 (by decide +kernel) rfl
theorem ke_X11_addButter : Cond.selects RX11 yX11_addButter yX11_addButter ∈ bg_L := bg_in 1045 (by decide +kernel) rfl
theorem kc_X11_init : (yX11_init.cls ≠ "java/lang/invoke/MethodHandle" ∧ yX11_init.cls ≠ "java/lang/invoke/VarHandle" ∧ (parseMethodDescriptor yX11_init.desc).map (fun d => d.parameters.length) = some 0) ∧ Cond.code yX11_init cX11_init 1 none ∈ bg_L ∧ Cond.initialized yX11_init.cls ∈ bg_L ∧ plainName yX11_init.cls = true := ⟨⟨by decide +kernel, by decide +kernel, by decide +kernel⟩, bg_in 41 (by decide +kernel) rfl, bg_in 9 (by decide +kernel) rfl, by decide +kernel⟩
theorem kt_X11_init : Cond.instanceMethod yX11_init ∈ bg_L := bg_in 40 (by decide +kernel) rfl
theorem kc_L_cell : (yL_cell.cls ≠ "java/lang/invoke/MethodHandle" ∧ yL_cell.cls ≠ "java/lang/invoke/VarHandle" ∧ (parseMethodDescriptor yL_cell.desc).map (fun d => d.parameters.length) = some 2) ∧ Cond.code yL_cell cL_cell 2 (some .int) ∈ bg_L ∧ Cond.initialized yL_cell.cls ∈ bg_L ∧ plainName yL_cell.cls = true := ⟨⟨by decide +kernel, by decide +kernel, by decide +kernel⟩, bg_in 561 (by decide +kernel) rfl, bg_in 8 (by decide +kernel) rfl, by decide +kernel⟩
theorem kt_L_cell : Cond.static yL_cell ∈ bg_L := bg_in 560 (by decide +kernel) rfl
theorem kc_J4_init_a7421 : (yJ4_init_a7421.cls ≠ "java/lang/invoke/MethodHandle" ∧ yJ4_init_a7421.cls ≠ "java/lang/invoke/VarHandle" ∧ (parseMethodDescriptor yJ4_init_a7421.desc).map (fun d => d.parameters.length) = some 1) ∧ Cond.code yJ4_init_a7421 cJ4_init_a7421 2 none ∈ bg_L ∧ Cond.initialized yJ4_init_a7421.cls ∈ bg_L ∧ plainName yJ4_init_a7421.cls = true := ⟨⟨by decide +kernel, by decide +kernel, by decide +kernel⟩, bg_in 1063 (by decide +kernel) rfl, bg_in 20 (by decide +kernel) rfl, by decide +kernel⟩
theorem kt_J4_init_a7421 : Cond.instanceMethod yJ4_init_a7421 ∈ bg_L := bg_in 1062 (by decide +kernel) rfl
theorem kc_J4_append_bf812 : (yJ4_append_bf812.cls ≠ "java/lang/invoke/MethodHandle" ∧ yJ4_append_bf812.cls ≠ "java/lang/invoke/VarHandle" ∧ (parseMethodDescriptor yJ4_append_bf812.desc).map (fun d => d.parameters.length) = some 1) ∧ Cond.code yJ4_append_bf812 cJ4_append_bf812 2 (some (.object "java/lang/StringBuilder")) ∈ bg_L ∧ Cond.initialized yJ4_append_bf812.cls ∈ bg_L ∧ plainName yJ4_append_bf812.cls = true := ⟨⟨by decide +kernel, by decide +kernel, by decide +kernel⟩, bg_in 1209 (by decide +kernel) rfl, bg_in 20 (by decide +kernel) rfl, by decide +kernel⟩
theorem kt_J4_append_bf812 : Cond.instanceMethod yJ4_append_bf812 ∈ bg_L := bg_in 1207 (by decide +kernel) rfl
theorem ke_J4_append_bf812 : Cond.selects RJ4 yJ4_append_bf812 yJ4_append_bf812 ∈ bg_L := bg_in 1208 (by decide +kernel) rfl
theorem kc_J4_append_cf468 : (yJ4_append_cf468.cls ≠ "java/lang/invoke/MethodHandle" ∧ yJ4_append_cf468.cls ≠ "java/lang/invoke/VarHandle" ∧ (parseMethodDescriptor yJ4_append_cf468.desc).map (fun d => d.parameters.length) = some 1) ∧ Cond.code yJ4_append_cf468 cJ4_append_cf468 2 (some (.object "java/lang/StringBuilder")) ∈ bg_L ∧ Cond.initialized yJ4_append_cf468.cls ∈ bg_L ∧ plainName yJ4_append_cf468.cls = true := ⟨⟨by decide +kernel, by decide +kernel, by decide +kernel⟩, bg_in 1196 (by decide +kernel) rfl, bg_in 20 (by decide +kernel) rfl, by decide +kernel⟩
theorem kt_J4_append_cf468 : Cond.instanceMethod yJ4_append_cf468 ∈ bg_L := bg_in 1194 (by decide +kernel) rfl
theorem ke_J4_append_cf468 : Cond.selects RJ4 yJ4_append_cf468 yJ4_append_cf468 ∈ bg_L := bg_in 1195 (by decide +kernel) rfl
theorem kc_J4_toString_0e30d : (yJ4_toString_0e30d.cls ≠ "java/lang/invoke/MethodHandle" ∧ yJ4_toString_0e30d.cls ≠ "java/lang/invoke/VarHandle" ∧ (parseMethodDescriptor yJ4_toString_0e30d.desc).map (fun d => d.parameters.length) = some 0) ∧ Cond.code yJ4_toString_0e30d cJ4_toString_0e30d 1 (some (.object "java/lang/String")) ∈ bg_L ∧ Cond.initialized yJ4_toString_0e30d.cls ∈ bg_L ∧ plainName yJ4_toString_0e30d.cls = true := ⟨⟨by decide +kernel, by decide +kernel, by decide +kernel⟩, bg_in 1234 (by decide +kernel) rfl, bg_in 20 (by decide +kernel) rfl, by decide +kernel⟩
theorem kt_J4_toString_0e30d : Cond.instanceMethod yJ4_toString_0e30d ∈ bg_L := bg_in 1232 (by decide +kernel) rfl
theorem ke_J4_toString_0e30d : Cond.selects RJ4 yJ4_toString_0e30d yJ4_toString_0e30d ∈ bg_L := bg_in 1233 (by decide +kernel) rfl
theorem kc_L_say : (yL_say.cls ≠ "java/lang/invoke/MethodHandle" ∧ yL_say.cls ≠ "java/lang/invoke/VarHandle" ∧ (parseMethodDescriptor yL_say.desc).map (fun d => d.parameters.length) = some 3) ∧ Cond.code yL_say cL_say 4 none ∈ bg_L ∧ Cond.initialized yL_say.cls ∈ bg_L ∧ plainName yL_say.cls = true := ⟨⟨by decide +kernel, by decide +kernel, by decide +kernel⟩, bg_in 564 (by decide +kernel) rfl, bg_in 8 (by decide +kernel) rfl, by decide +kernel⟩
theorem kt_L_say : Cond.static yL_say ∈ bg_L := bg_in 563 (by decide +kernel) rfl
theorem kc_L_end : (yL_end.cls ≠ "java/lang/invoke/MethodHandle" ∧ yL_end.cls ≠ "java/lang/invoke/VarHandle" ∧ (parseMethodDescriptor yL_end.desc).map (fun d => d.parameters.length) = some 2) ∧ Cond.code yL_end cL_end 3 (some .int) ∈ bg_L ∧ Cond.initialized yL_end.cls ∈ bg_L ∧ plainName yL_end.cls = true := ⟨⟨by decide +kernel, by decide +kernel, by decide +kernel⟩, bg_in 580 (by decide +kernel) rfl, bg_in 8 (by decide +kernel) rfl, by decide +kernel⟩
theorem kt_L_end : Cond.static yL_end ∈ bg_L := bg_in 579 (by decide +kernel) rfl
theorem kc_X11_loadBench : (yX11_loadBench.cls ≠ "java/lang/invoke/MethodHandle" ∧ yX11_loadBench.cls ≠ "java/lang/invoke/VarHandle" ∧ (parseMethodDescriptor yX11_loadBench.desc).map (fun d => d.parameters.length) = some 1) ∧ Cond.code yX11_loadBench cX11_loadBench 3 (some .int) ∈ bg_L ∧ Cond.initialized yX11_loadBench.cls ∈ bg_L ∧ plainName yX11_loadBench.cls = true := ⟨⟨by decide +kernel, by decide +kernel, by decide +kernel⟩, bg_in 300 (by decide +kernel) rfl, bg_in 9 (by decide +kernel) rfl, by decide +kernel⟩
theorem kt_X11_loadBench : Cond.instanceMethod yX11_loadBench ∈ bg_L := bg_in 298 (by decide +kernel) rfl
theorem ke_X11_loadBench : Cond.selects RX11 yX11_loadBench yX11_loadBench ∈ bg_L := bg_in 299 (by decide +kernel) rfl
theorem kc_X11_undoableCount : (yX11_undoableCount.cls ≠ "java/lang/invoke/MethodHandle" ∧ yX11_undoableCount.cls ≠ "java/lang/invoke/VarHandle" ∧ (parseMethodDescriptor yX11_undoableCount.desc).map (fun d => d.parameters.length) = some 0) ∧ Cond.code yX11_undoableCount cX11_undoableCount 1 (some .int) ∈ bg_L ∧ Cond.initialized yX11_undoableCount.cls ∈ bg_L ∧ plainName yX11_undoableCount.cls = true := ⟨⟨by decide +kernel, by decide +kernel, by decide +kernel⟩, bg_in 520 (by decide +kernel) rfl, bg_in 9 (by decide +kernel) rfl, by decide +kernel⟩
theorem kt_X11_undoableCount : Cond.instanceMethod yX11_undoableCount ∈ bg_L := bg_in 518 (by decide +kernel) rfl
theorem ke_X11_undoableCount : Cond.selects RX11 yX11_undoableCount yX11_undoableCount ∈ bg_L := bg_in 519 (by decide +kernel) rfl
set_option maxRecDepth 100000 in
set_option maxHeartbeats 4000000 in
theorem kc_L_isBench : (yL_isBench.cls ≠ "java/lang/invoke/MethodHandle" ∧ yL_isBench.cls ≠ "java/lang/invoke/VarHandle" ∧ (parseMethodDescriptor yL_isBench.desc).map (fun d => d.parameters.length) = some 1) ∧ Cond.code yL_isBench cL_isBench 14 (some .boolean) ∈ bg_L ∧ Cond.initialized yL_isBench.cls ∈ bg_L ∧ plainName yL_isBench.cls = true := ⟨⟨by decide +kernel, by decide +kernel, by decide +kernel⟩, bg_in 673 rfl rfl, bg_in 8 (by decide +kernel) rfl, by decide +kernel⟩
theorem kt_L_isBench : Cond.static yL_isBench ∈ bg_L := bg_in 672 (by decide +kernel) rfl
theorem kc_L_all : (yL_all.cls ≠ "java/lang/invoke/MethodHandle" ∧ yL_all.cls ≠ "java/lang/invoke/VarHandle" ∧ (parseMethodDescriptor yL_all.desc).map (fun d => d.parameters.length) = some 1) ∧ Cond.code yL_all cL_all 7 (some (.array .int)) ∈ bg_L ∧ Cond.initialized yL_all.cls ∈ bg_L ∧ plainName yL_all.cls = true := ⟨⟨by decide +kernel, by decide +kernel, by decide +kernel⟩, bg_in 583 (by decide +kernel) rfl, bg_in 8 (by decide +kernel) rfl, by decide +kernel⟩
theorem kt_L_all : Cond.static yL_all ∈ bg_L := bg_in 582 (by decide +kernel) rfl
set_option maxRecDepth 100000 in
set_option maxHeartbeats 4000000 in
theorem kc_L_act : (yL_act.cls ≠ "java/lang/invoke/MethodHandle" ∧ yL_act.cls ≠ "java/lang/invoke/VarHandle" ∧ (parseMethodDescriptor yL_act.desc).map (fun d => d.parameters.length) = some 2) ∧ Cond.code yL_act cL_act 16 (some .boolean) ∈ bg_L ∧ Cond.initialized yL_act.cls ∈ bg_L ∧ plainName yL_act.cls = true := ⟨⟨by decide +kernel, by decide +kernel, by decide +kernel⟩, bg_in 832 rfl rfl, bg_in 8 (by decide +kernel) rfl, by decide +kernel⟩
theorem kt_L_act : Cond.static yL_act ∈ bg_L := bg_in 831 (by decide +kernel) rfl
theorem kc_X11_undo : (yX11_undo.cls ≠ "java/lang/invoke/MethodHandle" ∧ yX11_undo.cls ≠ "java/lang/invoke/VarHandle" ∧ (parseMethodDescriptor yX11_undo.desc).map (fun d => d.parameters.length) = some 0) ∧ Cond.code yX11_undo cX11_undo 1 (some .int) ∈ bg_L ∧ Cond.initialized yX11_undo.cls ∈ bg_L ∧ plainName yX11_undo.cls = true := ⟨⟨by decide +kernel, by decide +kernel, by decide +kernel⟩, bg_in 524 (by decide +kernel) rfl, bg_in 9 (by decide +kernel) rfl, by decide +kernel⟩
theorem kt_X11_undo : Cond.instanceMethod yX11_undo ∈ bg_L := bg_in 522 (by decide +kernel) rfl
theorem ke_X11_undo : Cond.selects RX11 yX11_undo yX11_undo ∈ bg_L := bg_in 523 (by decide +kernel) rfl
theorem kc_L_alike : (yL_alike.cls ≠ "java/lang/invoke/MethodHandle" ∧ yL_alike.cls ≠ "java/lang/invoke/VarHandle" ∧ (parseMethodDescriptor yL_alike.desc).map (fun d => d.parameters.length) = some 2) ∧ Cond.code yL_alike cL_alike 3 (some .boolean) ∈ bg_L ∧ Cond.initialized yL_alike.cls ∈ bg_L ∧ plainName yL_alike.cls = true := ⟨⟨by decide +kernel, by decide +kernel, by decide +kernel⟩, bg_in 670 (by decide +kernel) rfl, bg_in 8 (by decide +kernel) rfl, by decide +kernel⟩
theorem kt_L_alike : Cond.static yL_alike ∈ bg_L := bg_in 669 (by decide +kernel) rfl
theorem kc_X11_saveSnapshot : (yX11_saveSnapshot.cls ≠ "java/lang/invoke/MethodHandle" ∧ yX11_saveSnapshot.cls ≠ "java/lang/invoke/VarHandle" ∧ (parseMethodDescriptor yX11_saveSnapshot.desc).map (fun d => d.parameters.length) = some 0) ∧ Cond.code yX11_saveSnapshot cX11_saveSnapshot 1 none ∈ bg_L ∧ Cond.initialized yX11_saveSnapshot.cls ∈ bg_L ∧ plainName yX11_saveSnapshot.cls = true := ⟨⟨by decide +kernel, by decide +kernel, by decide +kernel⟩, bg_in 549 (by decide +kernel) rfl, bg_in 9 (by decide +kernel) rfl, by decide +kernel⟩
theorem kt_X11_saveSnapshot : Cond.instanceMethod yX11_saveSnapshot ∈ bg_L := bg_in 547 (by decide +kernel) rfl
theorem ke_X11_saveSnapshot : Cond.selects RX11 yX11_saveSnapshot yX11_saveSnapshot ∈ bg_L := bg_in 548 (by decide +kernel) rfl
theorem kc_X11_restoreSnapshot : (yX11_restoreSnapshot.cls ≠ "java/lang/invoke/MethodHandle" ∧ yX11_restoreSnapshot.cls ≠ "java/lang/invoke/VarHandle" ∧ (parseMethodDescriptor yX11_restoreSnapshot.desc).map (fun d => d.parameters.length) = some 0) ∧ Cond.code yX11_restoreSnapshot cX11_restoreSnapshot 1 (some .int) ∈ bg_L ∧ Cond.initialized yX11_restoreSnapshot.cls ∈ bg_L ∧ plainName yX11_restoreSnapshot.cls = true := ⟨⟨by decide +kernel, by decide +kernel, by decide +kernel⟩, bg_in 553 (by decide +kernel) rfl, bg_in 9 (by decide +kernel) rfl, by decide +kernel⟩
theorem kt_X11_restoreSnapshot : Cond.instanceMethod yX11_restoreSnapshot ∈ bg_L := bg_in 551 (by decide +kernel) rfl
theorem ke_X11_restoreSnapshot : Cond.selects RX11 yX11_restoreSnapshot yX11_restoreSnapshot ∈ bg_L := bg_in 552 (by decide +kernel) rfl
theorem km_X8_3 : Cond.methodLink RX8 3 Lib.objectInit ∈ bg_L := bg_in 130 (by decide +kernel) rfl
theorem km_X1_3 : Cond.methodLink RX1 3 Lib.objectInit ∈ bg_L := bg_in 123 (by decide +kernel) rfl
theorem km_X1_53 : Cond.methodLink RX1 53 yX8_begin ∈ bg_L := bg_in 215 (by decide +kernel) rfl
theorem km_X8_46 : Cond.methodLink RX8 46 yX8_wouldJoin ∈ bg_L := bg_in 231 (by decide +kernel) rfl
theorem km_X8_42 : Cond.methodLink RX8 42 yX8_putLayer ∈ bg_L := bg_in 227 (by decide +kernel) rfl
theorem km_X1_55 : Cond.methodLink RX1 55 yX8_load ∈ bg_L := bg_in 223 (by decide +kernel) rfl
theorem km_X1_18 : Cond.methodLink RX1 18 yX1_init ∈ bg_L := bg_in 120 (by decide +kernel) rfl
theorem km_X1_19 : Cond.methodLink RX1 19 yX1_begin ∈ bg_L := bg_in 207 (by decide +kernel) rfl
theorem km_X1_23 : Cond.methodLink RX1 23 yX1_addSheet ∈ bg_L := bg_in 211 (by decide +kernel) rfl
theorem km_X1_27 : Cond.methodLink RX1 27 yX1_addLayer ∈ bg_L := bg_in 219 (by decide +kernel) rfl
theorem km_X1_58 : Cond.methodLink RX1 58 yX8_copyFrom ∈ bg_L := bg_in 509 (by decide +kernel) rfl
theorem km_X8_54 : Cond.methodLink RX8 54 yX8_totalHeight ∈ bg_L := bg_in 804 (by decide +kernel) rfl
theorem km_X1_84 : Cond.methodLink RX1 84 yX1_hasSheet ∈ bg_L := bg_in 887 (by decide +kernel) rfl
theorem km_X1_97 : Cond.methodLink RX1 97 yX8_findFoldObstacle ∈ bg_L := bg_in 890 (by decide +kernel) rfl
theorem km_X1_101 : Cond.methodLink RX1 101 yX1_stateRefusal ∈ bg_L := bg_in 843 (by decide +kernel) rfl
theorem km_X11_359 : Cond.methodLink RX11 359 Lib.Math.min.name ∈ bg_L := bg_in 902 (by decide +kernel) rfl
theorem km_X1_105 : Cond.methodLink RX1 105 yX8_foldUp ∈ bg_L := bg_in 895 (by decide +kernel) rfl
theorem km_X8_62 : Cond.methodLink RX8 62 Lib.Math.max.name ∈ bg_L := bg_in 706 (by decide +kernel) rfl
theorem km_X8_68 : Cond.methodLink RX8 68 yX8_lossPerLayer ∈ bg_L := bg_in 702 (by decide +kernel) rfl
theorem km_X8_74 : Cond.methodLink RX8 74 yX8_thicknessRolled ∈ bg_L := bg_in 826 (by decide +kernel) rfl
theorem km_X1_108 : Cond.methodLink RX1 108 yX8_sumRolled ∈ bg_L := bg_in 919 (by decide +kernel) rfl
theorem km_X8_71 : Cond.methodLink RX8 71 Lib.Math.min.name ∈ bg_L := bg_in 709 (by decide +kernel) rfl
theorem km_X1_112 : Cond.methodLink RX1 112 yX8_sumEscaping ∈ bg_L := bg_in 924 (by decide +kernel) rfl
theorem km_X1_115 : Cond.methodLink RX1 115 yX8_rollOut ∈ bg_L := bg_in 925 (by decide +kernel) rfl
theorem km_X1_121 : Cond.methodLink RX1 121 yX1_countSealed ∈ bg_L := bg_in 953 (by decide +kernel) rfl
theorem km_X1_125 : Cond.methodLink RX1 125 yX1_countCooling ∈ bg_L := bg_in 977 (by decide +kernel) rfl
theorem km_X11_364 : Cond.methodLink RX11 364 Lib.Math.max.name ∈ bg_L := bg_in 745 (by decide +kernel) rfl
theorem km_X1_128 : Cond.methodLink RX1 128 yX8_warmthAfter ∈ bg_L := bg_in 997 (by decide +kernel) rfl
theorem km_X1_131 : Cond.methodLink RX1 131 yX1_countUnsafe ∈ bg_L := bg_in 998 (by decide +kernel) rfl
theorem km_X8_84 : Cond.methodLink RX8 84 yX8_joinsWith ∈ bg_L := bg_in 1026 (by decide +kernel) rfl
theorem km_X1_134 : Cond.methodLink RX1 134 yX8_layersWith ∈ bg_L := bg_in 1022 (by decide +kernel) rfl
theorem km_X1_138 : Cond.methodLink RX1 138 yX8_totalHeight ∈ bg_L := bg_in 1030 (by decide +kernel) rfl
theorem km_X1_141 : Cond.methodLink RX1 141 yX8_carry ∈ bg_L := bg_in 1035 (by decide +kernel) rfl
theorem km_X1_144 : Cond.methodLink RX1 144 yX1_removeSheet ∈ bg_L := bg_in 1039 (by decide +kernel) rfl
theorem km_X1_147 : Cond.methodLink RX1 147 yX8_butterTop ∈ bg_L := bg_in 1055 (by decide +kernel) rfl
theorem km_X3_3 : Cond.methodLink RX3 3 Lib.objectInit ∈ bg_L := bg_in 242 (by decide +kernel) rfl
theorem km_X3_17 : Cond.methodLink RX3 17 yX1_init ∈ bg_L := bg_in 245 (by decide +kernel) rfl
theorem km_X3_22 : Cond.methodLink RX3 22 yX3_dropOldest ∈ bg_L := bg_in 863 (by decide +kernel) rfl
theorem km_X3_25 : Cond.methodLink RX3 25 yX1_copyFrom ∈ bg_L := bg_in 545 (by decide +kernel) rfl
theorem km_X4_3 : Cond.methodLink RX4 3 Lib.objectInit ∈ bg_L := bg_in 259 (by decide +kernel) rfl
theorem km_X10_3 : Cond.methodLink RX10 3 Lib.objectInit ∈ bg_L := bg_in 56 (by decide +kernel) rfl
theorem km_X5_3 : Cond.methodLink RX5 3 Lib.objectInit ∈ bg_L := bg_in 50 (by decide +kernel) rfl
theorem km_X10_40 : Cond.methodLink RX10 40 yX10_isSeparator ∈ bg_L := bg_in 392 (by decide +kernel) rfl
theorem km_X10_47 : Cond.methodLink RX10 47 yX10_isLetter ∈ bg_L := bg_in 395 (by decide +kernel) rfl
theorem km_X10_53 : Cond.methodLink RX10 53 yX10_isDigit ∈ bg_L := bg_in 400 (by decide +kernel) rfl
theorem km_X10_24 : Cond.methodLink RX10 24 Lib.Math.min.name ∈ bg_L := bg_in 385 (by decide +kernel) rfl
theorem km_X10_37 : Cond.methodLink RX10 37 yX10_advance ∈ bg_L := bg_in 388 (by decide +kernel) rfl
theorem km_X5_25 : Cond.methodLink RX5 25 yX10_begin ∈ bg_L := bg_in 381 (by decide +kernel) rfl
theorem km_J0_335 : Cond.methodLink RJ0 335 yJ0_coder_7d493 ∈ bg_L := bg_in 427 (by decide +kernel) rfl
theorem km_J0_1059 : Cond.methodLink RJ0 1059 yJ3_checkIndex_8e157 ∈ bg_L := bg_in 449 (by decide +kernel) rfl
theorem km_J1_9 : Cond.methodLink RJ1 9 yJ0_checkIndex_df160 ∈ bg_L := bg_in 444 (by decide +kernel) rfl
theorem km_J2_48 : Cond.methodLink RJ2 48 yJ2_length_9d52b ∈ bg_L := bg_in 458 (by decide +kernel) rfl
theorem km_J2_414 : Cond.methodLink RJ2 414 yJ0_checkIndex_df160 ∈ bg_L := bg_in 461 (by decide +kernel) rfl
theorem km_J2_67 : Cond.methodLink RJ2 67 yJ2_checkIndex_2214a ∈ bg_L := bg_in 455 (by decide +kernel) rfl
theorem km_J2_71 : Cond.methodLink RJ2 71 yJ2_getChar_3b067 ∈ bg_L := bg_in 462 (by decide +kernel) rfl
theorem km_J0_492 : Cond.methodLink RJ0 492 yJ0_isLatin1_aae02 ∈ bg_L := bg_in 437 (by decide +kernel) rfl
theorem km_J0_495 : Cond.methodLink RJ0 495 yJ1_charAt_3b067 ∈ bg_L := bg_in 441 (by decide +kernel) rfl
theorem km_J0_498 : Cond.methodLink RJ0 498 yJ2_charAt_3b067 ∈ bg_L := bg_in 452 (by decide +kernel) rfl
theorem km_X10_69 : Cond.methodLink RX10 69 yJ0_length_8abf5 ∈ bg_L := bg_in 423 (by decide +kernel) rfl
theorem km_X10_74 : Cond.methodLink RX10 74 yJ0_charAt_5068e ∈ bg_L := bg_in 433 (by decide +kernel) rfl
theorem km_X5_32 : Cond.methodLink RX5 32 yX10_isWord ∈ bg_L := bg_in 419 (by decide +kernel) rfl
theorem km_X5_36 : Cond.methodLink RX5 36 yX5_fail ∈ bg_L := bg_in 471 (by decide +kernel) rfl
theorem km_X5_40 : Cond.methodLink RX5 40 yX10_advance ∈ bg_L := bg_in 475 (by decide +kernel) rfl
theorem km_X5_76 : Cond.methodLink RX5 76 yX5_takeWord ∈ bg_L := bg_in 415 (by decide +kernel) rfl
theorem km_X5_79 : Cond.methodLink RX5 79 yX5_takeNumber ∈ bg_L := bg_in 476 (by decide +kernel) rfl
theorem km_X5_83 : Cond.methodLink RX5 83 yX1_begin ∈ bg_L := bg_in 481 (by decide +kernel) rfl
theorem km_X5_88 : Cond.methodLink RX5 88 yX5_takeSemicolon ∈ bg_L := bg_in 482 (by decide +kernel) rfl
theorem km_X5_99 : Cond.methodLink RX5 99 yX5_isLayerWord ∈ bg_L := bg_in 498 (by decide +kernel) rfl
theorem km_X5_106 : Cond.methodLink RX5 106 yX1_addLayer ∈ bg_L := bg_in 504 (by decide +kernel) rfl
theorem km_X5_92 : Cond.methodLink RX5 92 yX1_addSheet ∈ bg_L := bg_in 493 (by decide +kernel) rfl
theorem km_X5_96 : Cond.methodLink RX5 96 yX5_readLayer ∈ bg_L := bg_in 494 (by decide +kernel) rfl
theorem km_X5_61 : Cond.methodLink RX5 61 yX5_begin ∈ bg_L := bg_in 377 (by decide +kernel) rfl
theorem km_X5_62 : Cond.methodLink RX5 62 yX5_readHeader ∈ bg_L := bg_in 410 (by decide +kernel) rfl
theorem km_X5_69 : Cond.methodLink RX5 69 yX5_readSheet ∈ bg_L := bg_in 488 (by decide +kernel) rfl
theorem km_X7_3 : Cond.methodLink RX7 3 Lib.objectInit ∈ bg_L := bg_in 100 (by decide +kernel) rfl
theorem km_X11_1 : Cond.methodLink RX11 1 Lib.objectInit ∈ bg_L := bg_in 42 (by decide +kernel) rfl
theorem km_X11_27 : Cond.methodLink RX11 27 yX1_first ∈ bg_L := bg_in 115 (by decide +kernel) rfl
theorem km_X11_37 : Cond.methodLink RX11 37 yX1_init ∈ bg_L := bg_in 236 (by decide +kernel) rfl
theorem km_X11_46 : Cond.methodLink RX11 46 yX3_init ∈ bg_L := bg_in 239 (by decide +kernel) rfl
theorem km_X11_62 : Cond.methodLink RX11 62 yX11_appendWord ∈ bg_L := bg_in 574 (by decide +kernel) rfl
theorem km_X11_66 : Cond.methodLink RX11 66 yX11_requireLength ∈ bg_L := bg_in 301 (by decide +kernel) rfl
theorem km_X11_69 : Cond.methodLink RX11 69 yX5_readBench ∈ bg_L := bg_in 373 (by decide +kernel) rfl
theorem km_X11_73 : Cond.methodLink RX11 73 yX1_copyFrom ∈ bg_L := bg_in 505 (by decide +kernel) rfl
theorem km_X11_77 : Cond.methodLink RX11 77 yX3_forget ∈ bg_L := bg_in 513 (by decide +kernel) rfl
theorem km_X11_111 : Cond.methodLink RX11 111 yX1_findWarmest ∈ bg_L := bg_in 770 (by decide +kernel) rfl
theorem km_X11_115 : Cond.methodLink RX11 115 yX1_findFinest ∈ bg_L := bg_in 778 (by decide +kernel) rfl
theorem km_X11_326 : Cond.methodLink RX11 326 yX1_hasSheet ∈ bg_L := bg_in 596 (by decide +kernel) rfl
theorem km_X11_118 : Cond.methodLink RX11 118 yX11_sheetAt ∈ bg_L := bg_in 592 (by decide +kernel) rfl
theorem km_X11_127 : Cond.methodLink RX11 127 yX8_countButterLayers ∈ bg_L := bg_in 730 (by decide +kernel) rfl
theorem km_X11_130 : Cond.methodLink RX11 130 yX11_requireLayer ∈ bg_L := bg_in 660 (by decide +kernel) rfl
theorem km_X11_141 : Cond.methodLink RX11 141 yX8_totalHeight ∈ bg_L := bg_in 714 (by decide +kernel) rfl
theorem km_X11_144 : Cond.methodLink RX11 144 yX8_totalButter ∈ bg_L := bg_in 722 (by decide +kernel) rfl
theorem km_X11_147 : Cond.methodLink RX11 147 yX8_findThinnest ∈ bg_L := bg_in 678 (by decide +kernel) rfl
theorem km_X11_150 : Cond.methodLink RX11 150 yX8_findThickest ∈ bg_L := bg_in 686 (by decide +kernel) rfl
theorem km_X11_153 : Cond.methodLink RX11 153 yX8_countSeams ∈ bg_L := bg_in 762 (by decide +kernel) rfl
theorem km_X11_156 : Cond.methodLink RX11 156 yX8_sameFromBothSides ∈ bg_L := bg_in 875 (by decide +kernel) rfl
theorem km_X11_338 : Cond.methodLink RX11 338 yX11_isFactor ∈ bg_L := bg_in 793 (by decide +kernel) rfl
theorem km_X11_178 : Cond.methodLink RX11 178 yX11_requireFactor ∈ bg_L := bg_in 790 (by decide +kernel) rfl
theorem km_X11_181 : Cond.methodLink RX11 181 yX8_findFoldObstacle ∈ bg_L := bg_in 797 (by decide +kernel) rfl
theorem km_X11_185 : Cond.methodLink RX11 185 yX11_layersFolded ∈ bg_L := bg_in 809 (by decide +kernel) rfl
theorem km_X11_189 : Cond.methodLink RX11 189 yX8_countPossibleFolds ∈ bg_L := bg_in 814 (by decide +kernel) rfl
theorem km_X11_192 : Cond.methodLink RX11 192 yX8_sumEscaping ∈ bg_L := bg_in 698 (by decide +kernel) rfl
theorem km_X11_195 : Cond.methodLink RX11 195 yX8_countBreaking ∈ bg_L := bg_in 822 (by decide +kernel) rfl
theorem km_X11_199 : Cond.methodLink RX11 199 yX8_sumRolled ∈ bg_L := bg_in 907 (by decide +kernel) rfl
theorem km_X11_209 : Cond.methodLink RX11 209 yX8_warmthAfter ∈ bg_L := bg_in 751 (by decide +kernel) rfl
theorem km_X11_212 : Cond.methodLink RX11 212 yX8_countHoursToSafety ∈ bg_L := bg_in 738 (by decide +kernel) rfl
theorem km_X11_215 : Cond.methodLink RX11 215 yX1_refusalOfFold ∈ bg_L := bg_in 883 (by decide +kernel) rfl
theorem km_X11_219 : Cond.methodLink RX11 219 yX11_throwIfRefused ∈ bg_L := bg_in 850 (by decide +kernel) rfl
theorem km_X11_223 : Cond.methodLink RX11 223 yX3_remember ∈ bg_L := bg_in 859 (by decide +kernel) rfl
theorem km_X11_226 : Cond.methodLink RX11 226 yX1_applyFold ∈ bg_L := bg_in 891 (by decide +kernel) rfl
theorem km_X11_229 : Cond.methodLink RX11 229 yX1_refusalOfRoll ∈ bg_L := bg_in 915 (by decide +kernel) rfl
theorem km_X11_232 : Cond.methodLink RX11 232 yX1_applyRoll ∈ bg_L := bg_in 920 (by decide +kernel) rfl
theorem km_X11_235 : Cond.methodLink RX11 235 yX1_refusalOfDust ∈ bg_L := bg_in 933 (by decide +kernel) rfl
theorem km_X11_239 : Cond.methodLink RX11 239 yX1_applyDust ∈ bg_L := bg_in 937 (by decide +kernel) rfl
theorem km_X11_242 : Cond.methodLink RX11 242 yX1_refusalOfSeal ∈ bg_L := bg_in 945 (by decide +kernel) rfl
theorem km_X11_245 : Cond.methodLink RX11 245 yX1_applySeal ∈ bg_L := bg_in 949 (by decide +kernel) rfl
theorem km_X11_248 : Cond.methodLink RX11 248 yX1_refusalOfCool ∈ bg_L := bg_in 973 (by decide +kernel) rfl
theorem km_X11_251 : Cond.methodLink RX11 251 yX1_applyCool ∈ bg_L := bg_in 981 (by decide +kernel) rfl
theorem km_X11_254 : Cond.methodLink RX11 254 yX1_refusalOfTakeOut ∈ bg_L := bg_in 961 (by decide +kernel) rfl
theorem km_X11_257 : Cond.methodLink RX11 257 yX1_applyTakeOut ∈ bg_L := bg_in 965 (by decide +kernel) rfl
theorem km_X11_260 : Cond.methodLink RX11 260 yX1_refusalOfHours ∈ bg_L := bg_in 989 (by decide +kernel) rfl
theorem km_X11_263 : Cond.methodLink RX11 263 yX1_applyHours ∈ bg_L := bg_in 993 (by decide +kernel) rfl
theorem km_X11_266 : Cond.methodLink RX11 266 yX1_refusalOfCut ∈ bg_L := bg_in 1006 (by decide +kernel) rfl
theorem km_X11_269 : Cond.methodLink RX11 269 yX1_applyCut ∈ bg_L := bg_in 1010 (by decide +kernel) rfl
theorem km_X11_272 : Cond.methodLink RX11 272 yX1_refusalOfStack ∈ bg_L := bg_in 1018 (by decide +kernel) rfl
theorem km_X11_275 : Cond.methodLink RX11 275 yX1_applyStack ∈ bg_L := bg_in 1031 (by decide +kernel) rfl
theorem km_X11_278 : Cond.methodLink RX11 278 yX1_refusalOfButter ∈ bg_L := bg_in 1047 (by decide +kernel) rfl
theorem km_X11_281 : Cond.methodLink RX11 281 yX1_applyButter ∈ bg_L := bg_in 1051 (by decide +kernel) rfl
theorem km_X11_284 : Cond.methodLink RX11 284 yX1_refusalOfFlour ∈ bg_L := bg_in 837 (by decide +kernel) rfl
theorem km_X11_287 : Cond.methodLink RX11 287 yX1_applyFlour ∈ bg_L := bg_in 867 (by decide +kernel) rfl
theorem km_X11_319 : Cond.methodLink RX11 319 yX3_takeBack ∈ bg_L := bg_in 541 (by decide +kernel) rfl
theorem km_J2_11 : Cond.methodLink RJ2 11 yJ2_newBytesLength_0f7a4 ∈ bg_L := bg_in 1075 (by decide +kernel) rfl
theorem km_J8_194 : Cond.methodLink RJ8 194 Lib.Math.max.name ∈ bg_L := bg_in 1107 (by decide +kernel) rfl
theorem km_J8_201 : Cond.methodLink RJ8 201 yJ8_hugeLength_7cf53 ∈ bg_L := bg_in 1109 (by decide +kernel) rfl
theorem km_J5_114 : Cond.methodLink RJ5 114 yJ8_newLength_cabcc ∈ bg_L := bg_in 1104 (by decide +kernel) rfl
theorem km_J7_304 : Cond.methodLink RJ7 304 Lib.Math.min.name ∈ bg_L := bg_in 1122 (by decide +kernel) rfl
theorem km_J7_150 : Cond.methodLink RJ7 150 arraycopyName ∈ bg_L := bg_in 1123 (by decide +kernel) rfl
theorem km_J5_104 : Cond.methodLink RJ5 104 yJ5_newCapacity_0f7a4 ∈ bg_L := bg_in 1100 (by decide +kernel) rfl
theorem km_J5_108 : Cond.methodLink RJ5 108 yJ7_copyOf_9075b ∈ bg_L := bg_in 1112 (by decide +kernel) rfl
theorem km_J0_1062 : Cond.methodLink RJ0 1062 yJ3_checkFromToIndex_8c36e ∈ bg_L := bg_in 1141 (by decide +kernel) rfl
theorem km_J2_241 : Cond.methodLink RJ2 241 yJ0_checkBoundsBeginEnd_23922 ∈ bg_L := bg_in 1138 (by decide +kernel) rfl
theorem km_J2_96 : Cond.methodLink RJ2 96 yJ2_checkBoundsBeginEnd_d044e ∈ bg_L := bg_in 1135 (by decide +kernel) rfl
theorem km_J2_111 : Cond.methodLink RJ2 111 yJ2_putChar_b72d1 ∈ bg_L := bg_in 1144 (by decide +kernel) rfl
theorem km_J5_100 : Cond.methodLink RJ5 100 yJ5_ensureCapacityInternal_d00df ∈ bg_L := bg_in 1096 (by decide +kernel) rfl
theorem km_J5_83 : Cond.methodLink RJ5 83 yJ5_isLatin1_aae02 ∈ bg_L := bg_in 1126 (by decide +kernel) rfl
theorem km_J5_226 : Cond.methodLink RJ5 226 yJ2_putCharsAt_cd4e5 ∈ bg_L := bg_in 1132 (by decide +kernel) rfl
theorem km_J0_1065 : Cond.methodLink RJ0 1065 yJ3_checkFromIndexSize_8c36e ∈ bg_L := bg_in 1171 (by decide +kernel) rfl
theorem km_J2_419 : Cond.methodLink RJ2 419 yJ0_checkBoundsOffCount_cabcc ∈ bg_L := bg_in 1168 (by decide +kernel) rfl
theorem km_J2_173 : Cond.methodLink RJ2 173 yJ2_checkBoundsOffCount_d044e ∈ bg_L := bg_in 1165 (by decide +kernel) rfl
theorem km_J1_240 : Cond.methodLink RJ1 240 yJ2_inflate_0e8fd ∈ bg_L := bg_in 1162 (by decide +kernel) rfl
theorem km_J5_26 : Cond.methodLink RJ5 26 yJ2_newBytesFor_77867 ∈ bg_L := bg_in 1072 (by decide +kernel) rfl
theorem km_J5_125 : Cond.methodLink RJ5 125 yJ1_inflate_0e8fd ∈ bg_L := bg_in 1159 (by decide +kernel) rfl
theorem km_J5_40 : Cond.methodLink RJ5 40 yJ0_coder_7d493 ∈ bg_L := bg_in 1071 (by decide +kernel) rfl
theorem km_J5_195 : Cond.methodLink RJ5 195 yJ5_inflate_da8c8 ∈ bg_L := bg_in 1155 (by decide +kernel) rfl
theorem km_J0_212 : Cond.methodLink RJ0 212 arraycopyName ∈ bg_L := bg_in 1178 (by decide +kernel) rfl
theorem km_J0_106 : Cond.methodLink RJ0 106 yJ1_inflate_0e8fd ∈ bg_L := bg_in 1179 (by decide +kernel) rfl
theorem km_J5_397 : Cond.methodLink RJ5 397 yJ5_inflateIfNeededFor_a7421 ∈ bg_L := bg_in 1151 (by decide +kernel) rfl
theorem km_J5_399 : Cond.methodLink RJ5 399 yJ0_getBytes_840e7 ∈ bg_L := bg_in 1174 (by decide +kernel) rfl
theorem km_J5_204 : Cond.methodLink RJ5 204 yJ5_appendNull_278bc ∈ bg_L := bg_in 1092 (by decide +kernel) rfl
theorem km_J5_32 : Cond.methodLink RJ5 32 yJ0_length_8abf5 ∈ bg_L := bg_in 1068 (by decide +kernel) rfl
theorem km_J5_208 : Cond.methodLink RJ5 208 yJ5_putStringAt_47b60 ∈ bg_L := bg_in 1147 (by decide +kernel) rfl
theorem km_J4_29 : Cond.methodLink RJ4 29 yJ5_append_cf1ce ∈ bg_L := bg_in 1089 (by decide +kernel) rfl
theorem km_J4_23 : Cond.methodLink RJ4 23 yJ4_append_15ec4 ∈ bg_L := bg_in 1085 (by decide +kernel) rfl
theorem km_J5_3 : Cond.methodLink RJ5 3 Lib.objectInit ∈ bg_L := bg_in 1067 (by decide +kernel) rfl
theorem km_J5_43 : Cond.methodLink RJ5 43 yJ5_append_cf1ce ∈ bg_L := bg_in 1079 (by decide +kernel) rfl
theorem km_J5_191 : Cond.methodLink RJ5 191 yJ1_canEncode_fc78d ∈ bg_L := bg_in 1200 (by decide +kernel) rfl
theorem km_J5_197 : Cond.methodLink RJ5 197 yJ2_putCharSB_b72d1 ∈ bg_L := bg_in 1203 (by decide +kernel) rfl
theorem km_J2_393 : Cond.methodLink RJ2 393 yJ2_getChars_ba4f3 ∈ bg_L := bg_in 1226 (by decide +kernel) rfl
theorem km_J5_245 : Cond.methodLink RJ5 245 yJ6_stringSize_0f7a4 ∈ bg_L := bg_in 1213 (by decide +kernel) rfl
theorem km_J5_248 : Cond.methodLink RJ5 248 yJ6_getChars_ba4f3 ∈ bg_L := bg_in 1216 (by decide +kernel) rfl
theorem km_J5_251 : Cond.methodLink RJ5 251 yJ2_getChars_46870 ∈ bg_L := bg_in 1223 (by decide +kernel) rfl
theorem km_J4_343 : Cond.methodLink RJ4 343 yJ5_length_8abf5 ∈ bg_L := bg_in 1255 (by decide +kernel) rfl
theorem km_J7_343 : Cond.methodLink RJ7 343 yJ7_checkLength_df160 ∈ bg_L := bg_in 1264 (by decide +kernel) rfl
theorem km_J7_339 : Cond.methodLink RJ7 339 yJ7_copyOfRangeByte_39247 ∈ bg_L := bg_in 1261 (by decide +kernel) rfl
theorem km_J2_123 : Cond.methodLink RJ2 123 yJ2_compress_5af95 ∈ bg_L := bg_in 1270 (by decide +kernel) rfl
theorem km_J2_126 : Cond.methodLink RJ2 126 yJ7_copyOfRange_39247 ∈ bg_L := bg_in 1273 (by decide +kernel) rfl
theorem km_J0_1 : Cond.methodLink RJ0 1 Lib.objectInit ∈ bg_L := bg_in 1243 (by decide +kernel) rfl
theorem km_J0_552 : Cond.methodLink RJ0 552 yJ5_getValue_6d5f1 ∈ bg_L := bg_in 1244 (by decide +kernel) rfl
theorem km_J0_549 : Cond.methodLink RJ0 549 yJ5_length_8abf5 ∈ bg_L := bg_in 1249 (by decide +kernel) rfl
theorem km_J0_1047 : Cond.methodLink RJ0 1047 yJ5_isLatin1_aae02 ∈ bg_L := bg_in 1257 (by decide +kernel) rfl
theorem km_J0_54 : Cond.methodLink RJ0 54 yJ7_copyOfRange_39247 ∈ bg_L := bg_in 1258 (by decide +kernel) rfl
theorem km_J0_1051 : Cond.methodLink RJ0 1051 yJ2_compress_39247 ∈ bg_L := bg_in 1267 (by decide +kernel) rfl
theorem km_J0_47 : Cond.methodLink RJ0 47 yJ2_coderFromArrayLen_85cad ∈ bg_L := bg_in 1274 (by decide +kernel) rfl
theorem km_J0_489 : Cond.methodLink RJ0 489 yJ0_init_db425 ∈ bg_L := bg_in 1240 (by decide +kernel) rfl
theorem km_J4_7 : Cond.methodLink RJ4 7 yJ5_init_a7421 ∈ bg_L := bg_in 1064 (by decide +kernel) rfl
theorem km_J4_50 : Cond.methodLink RJ4 50 yJ5_append_3fe6f ∈ bg_L := bg_in 1197 (by decide +kernel) rfl
theorem km_J4_53 : Cond.methodLink RJ4 53 yJ5_append_c97b9 ∈ bg_L := bg_in 1210 (by decide +kernel) rfl
theorem km_J4_137 : Cond.methodLink RJ4 137 yJ0_init_81219 ∈ bg_L := bg_in 1237 (by decide +kernel) rfl
theorem km_L_8 : Cond.methodLink RL 8 yX11_appendText ∈ bg_L := bg_in 570 (by decide +kernel) rfl
theorem km_L_14 : Cond.methodLink RL 14 yJ0_length_8abf5 ∈ bg_L := bg_in 565 (by decide +kernel) rfl
theorem km_L_20 : Cond.methodLink RL 20 yJ0_charAt_5068e ∈ bg_L := bg_in 566 (by decide +kernel) rfl
theorem km_L_24 : Cond.methodLink RL 24 yL_add ∈ bg_L := bg_in 567 (by decide +kernel) rfl
theorem km_L_30 : Cond.methodLink RL 30 yX11_sheetCount ∈ bg_L := bg_in 584 (by decide +kernel) rfl
theorem km_L_33 : Cond.methodLink RL 33 yX11_layerCount ∈ bg_L := bg_in 588 (by decide +kernel) rfl
theorem km_L_37 : Cond.methodLink RL 37 yX11_flour ∈ bg_L := bg_in 616 (by decide +kernel) rfl
theorem km_L_40 : Cond.methodLink RL 40 yX11_hoursPassed ∈ bg_L := bg_in 620 (by decide +kernel) rfl
theorem km_L_43 : Cond.methodLink RL 43 yX11_escapedButter ∈ bg_L := bg_in 624 (by decide +kernel) rfl
theorem km_L_46 : Cond.methodLink RL 46 yX11_brokenLayers ∈ bg_L := bg_in 628 (by decide +kernel) rfl
theorem km_L_49 : Cond.methodLink RL 49 yX11_expectedLayers ∈ bg_L := bg_in 632 (by decide +kernel) rfl
theorem km_L_52 : Cond.methodLink RL 52 yX11_temperature ∈ bg_L := bg_in 636 (by decide +kernel) rfl
theorem km_L_55 : Cond.methodLink RL 55 yX11_foldCount ∈ bg_L := bg_in 640 (by decide +kernel) rfl
theorem km_L_58 : Cond.methodLink RL 58 yX11_isDusted ∈ bg_L := bg_in 644 (by decide +kernel) rfl
theorem km_L_62 : Cond.methodLink RL 62 yX11_isSealed ∈ bg_L := bg_in 648 (by decide +kernel) rfl
theorem km_L_65 : Cond.methodLink RL 65 yX11_isCooling ∈ bg_L := bg_in 652 (by decide +kernel) rfl
theorem km_L_68 : Cond.methodLink RL 68 yX11_isButter ∈ bg_L := bg_in 656 (by decide +kernel) rfl
theorem km_L_72 : Cond.methodLink RL 72 yX11_thickness ∈ bg_L := bg_in 664 (by decide +kernel) rfl
theorem km_L_76 : Cond.methodLink RL 76 yX11_thinnestLayer ∈ bg_L := bg_in 674 (by decide +kernel) rfl
theorem km_L_79 : Cond.methodLink RL 79 yX11_thickestLayer ∈ bg_L := bg_in 682 (by decide +kernel) rfl
theorem km_L_82 : Cond.methodLink RL 82 yX11_meltingPoint ∈ bg_L := bg_in 690 (by decide +kernel) rfl
theorem km_L_85 : Cond.methodLink RL 85 yX11_butterAtRisk ∈ bg_L := bg_in 694 (by decide +kernel) rfl
theorem km_L_88 : Cond.methodLink RL 88 yX11_height ∈ bg_L := bg_in 710 (by decide +kernel) rfl
theorem km_L_91 : Cond.methodLink RL 91 yX11_butterHeight ∈ bg_L := bg_in 718 (by decide +kernel) rfl
theorem km_L_94 : Cond.methodLink RL 94 yX11_butterLayerCount ∈ bg_L := bg_in 726 (by decide +kernel) rfl
theorem km_L_97 : Cond.methodLink RL 97 yX11_hoursToSafety ∈ bg_L := bg_in 734 (by decide +kernel) rfl
theorem km_L_100 : Cond.methodLink RL 100 yX11_temperatureAfter ∈ bg_L := bg_in 746 (by decide +kernel) rfl
theorem km_L_103 : Cond.methodLink RL 103 yX11_seamCount ∈ bg_L := bg_in 758 (by decide +kernel) rfl
theorem km_L_106 : Cond.methodLink RL 106 yX11_warmestSheet ∈ bg_L := bg_in 766 (by decide +kernel) rfl
theorem km_L_109 : Cond.methodLink RL 109 yX11_finestSheet ∈ bg_L := bg_in 774 (by decide +kernel) rfl
theorem km_L_112 : Cond.methodLink RL 112 yX11_butterShare ∈ bg_L := bg_in 782 (by decide +kernel) rfl
theorem km_L_116 : Cond.methodLink RL 116 yX11_foldObstacle ∈ bg_L := bg_in 786 (by decide +kernel) rfl
theorem km_L_119 : Cond.methodLink RL 119 yX11_layersAfterFold ∈ bg_L := bg_in 805 (by decide +kernel) rfl
theorem km_L_122 : Cond.methodLink RL 122 yX11_foldsPossible ∈ bg_L := bg_in 810 (by decide +kernel) rfl
theorem km_L_125 : Cond.methodLink RL 125 yX11_layersAtRisk ∈ bg_L := bg_in 818 (by decide +kernel) rfl
theorem km_L_128 : Cond.methodLink RL 128 yL_most ∈ bg_L := bg_in 555 (by decide +kernel) rfl
theorem km_L_131 : Cond.methodLink RL 131 yX11_buyFlour ∈ bg_L := bg_in 833 (by decide +kernel) rfl
theorem km_L_134 : Cond.methodLink RL 134 yX11_isSymmetric ∈ bg_L := bg_in 871 (by decide +kernel) rfl
