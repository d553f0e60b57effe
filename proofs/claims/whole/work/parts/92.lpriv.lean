/-! ===== the law's own methods: what comes back, what is caught ===== -/
def lB (b : Bool) : Int64 := if b then Int64.ofNat 1 else Int64.ofNat 0
set_option maxRecDepth 20000 in
set_option maxHeartbeats 1000000 in
theorem l_loadBench_ok {G : xG} {h : xH} {x o : Nat} {z : Int} (hrv : x_RV G h RX11 x) {v : Int32} {P : xH → Prop} (spec : CC G MX11_loadBench [.ref x, .int (iI z)] h (fun o9 h9 => o9 = .inl (some (.int v)) ∧ P h9)) (hP : ∀ h9, P h9 → o ∈ h9.1 ∧ ∃ g, h9.2 o = .inl (G.2.1 2, 1, .inr (.inl g))) : CC G ML_loadBench [.ref x, .int (iI z), .ref o] h (fun o9 h2 => o9 = .inl (some (.int (iI 0))) ∧ ∃ h9, P h9 ∧ h2.1 = h9.1 ∧ (∃ g, h2.2 o = .inl (G.2.1 2, 1, .inr (.inl g)) ∧ g 0 = v.toInt64) ∧ ∀ q9, q9 ≠ o → h2.2 q9 = h9.2 q9) := by
  show RR G ML_loadBench 0 [(0, .ref x), (1, .int (iI z)), (2, .ref o)] [] h (xm_R ML_loadBench).cells (xm_R ML_loadBench).slots (fun o9 h2 => o9 = .inl (some (.int (iI 0))) ∧ ∃ h9, P h9 ∧ h2.1 = h9.1 ∧ (∃ g, h2.2 o = .inl (G.2.1 2, 1, .inr (.inl g)) ∧ g 0 = v.toInt64) ∧ ∀ q9, q9 ≠ o → h2.2 q9 = h9.2 q9)
  refine r_aload_n dL_loadBench_0 2 rfl ?_
  refine i_const (0) dL_loadBench_1 ?_
  refine r_aload_n dL_loadBench_2 0 rfl ?_
  refine r_iload_n dL_loadBench_3 1 rfl ?_
  refine k_callV (As := [.int (iI z)]) (b := x) (rest := [.int (iI 0), .ref o]) (w := (some (.int v))) (st' := [.int v, .int (iI 0), .ref o]) kv_L_loadBench_7 dL_loadBench_4 rfl rfl (Nat.le_of_ble_eq_true rfl) (Nat.le_of_ble_eq_true rfl) hrv (Nat.le_of_ble_eq_true rfl) (Nat.le_of_ble_eq_true rfl) (spec) rfl (fun h9 e9 => ?_)
  obtain ⟨mo9, g9, fo9⟩ := hP h9 e9
  refine r_i2l dL_loadBench_7 ?_
  refine i_last 0 rfl dL_loadBench_8 mo9 fo9 (by decide) (by decide) (fun h1 e0_1 e1_1 e2_1 => ?_)
  refine r_goto dL_loadBench_9 (tgt := 15) (by decide) ?_
  refine i_const (0) dL_loadBench_15 ?_
  refine r_ireturn rfl rfl dL_loadBench_16 ?_
  exact ⟨rfl, h9, e9, e0_1, ⟨_, e1_1, rfl⟩, e2_1⟩
set_option maxRecDepth 20000 in
set_option maxHeartbeats 1000000 in
theorem l_loadBench_A {G : xG} {h : xH} {x o : Nat} {z : Int} (hrv : x_RV G h RX11 x) (hCA : GCA G) (spec : CC G MX11_loadBench [.ref x, .int (iI z)] h (fun o9 h9 => o9 = .inr eA ∧ h9 = h)) : CC G ML_loadBench [.ref x, .int (iI z), .ref o] h (fun o9 h2 => o9 = .inl (some (.int (iI 1))) ∧ h2 = h) := by
  show RR G ML_loadBench 0 [(0, .ref x), (1, .int (iI z)), (2, .ref o)] [] h (xm_R ML_loadBench).cells (xm_R ML_loadBench).slots (fun o9 h2 => o9 = .inl (some (.int (iI 1))) ∧ h2 = h)
  refine r_aload_n dL_loadBench_0 2 rfl ?_
  refine i_const (0) dL_loadBench_1 ?_
  refine r_aload_n dL_loadBench_2 0 rfl ?_
  refine r_iload_n dL_loadBench_3 1 rfl ?_
  refine x_callV (E := eA) (As := [.int (iI z)]) (b := x) (rest := [.int (iI 0), .ref o]) kv_L_loadBench_7 dL_loadBench_4 rfl rfl (Nat.le_of_ble_eq_true rfl) (Nat.le_of_ble_eq_true rfl) hrv (Nat.le_of_ble_eq_true rfl) (Nat.le_of_ble_eq_true rfl) spec (fun h9 e9 => ?_)
  rw [show h9 = h from e9]
  refine rx_catch [] ⟨0, 9, 12, 13⟩ [] rfl (fun z9 hz9 => absurd hz9 List.not_mem_nil) rfl (by decide) kl_L_13 (hCA.1 eA (by simp)) (fun qe => ?_)
  refine r_astore_n (ls' := [(0, .ref x), (1, .int (iI z)), (2, .ref o), (3, .ref qe)]) dL_loadBench_12 (by decide) rfl ?_
  refine i_const (1) dL_loadBench_13 ?_
  refine r_ireturn rfl rfl dL_loadBench_14 ?_
  exact ⟨rfl, rfl⟩
set_option maxRecDepth 20000 in
set_option maxHeartbeats 1000000 in
theorem l_layerCount_ok {G : xG} {h : xH} {x o : Nat} {z : Int} (hrv : x_RV G h RX11 x) {v : Int32} {P : xH → Prop} (spec : CC G MX11_layerCount [.ref x, .int (iI z)] h (fun o9 h9 => o9 = .inl (some (.int v)) ∧ P h9)) (hP : ∀ h9, P h9 → o ∈ h9.1 ∧ ∃ g, h9.2 o = .inl (G.2.1 2, 1, .inr (.inl g))) : CC G ML_layerCount [.ref x, .int (iI z), .ref o] h (fun o9 h2 => o9 = .inl (some (.int (iI 0))) ∧ ∃ h9, P h9 ∧ h2.1 = h9.1 ∧ (∃ g, h2.2 o = .inl (G.2.1 2, 1, .inr (.inl g)) ∧ g 0 = v.toInt64) ∧ ∀ q9, q9 ≠ o → h2.2 q9 = h9.2 q9) := by
  show RR G ML_layerCount 0 [(0, .ref x), (1, .int (iI z)), (2, .ref o)] [] h (xm_R ML_layerCount).cells (xm_R ML_layerCount).slots (fun o9 h2 => o9 = .inl (some (.int (iI 0))) ∧ ∃ h9, P h9 ∧ h2.1 = h9.1 ∧ (∃ g, h2.2 o = .inl (G.2.1 2, 1, .inr (.inl g)) ∧ g 0 = v.toInt64) ∧ ∀ q9, q9 ≠ o → h2.2 q9 = h9.2 q9)
  refine r_aload_n dL_layerCount_0 2 rfl ?_
  refine i_const (0) dL_layerCount_1 ?_
  refine r_aload_n dL_layerCount_2 0 rfl ?_
  refine r_iload_n dL_layerCount_3 1 rfl ?_
  refine k_callV (As := [.int (iI z)]) (b := x) (rest := [.int (iI 0), .ref o]) (w := (some (.int v))) (st' := [.int v, .int (iI 0), .ref o]) kv_L_layerCount_15 dL_layerCount_4 rfl rfl (Nat.le_of_ble_eq_true rfl) (Nat.le_of_ble_eq_true rfl) hrv (Nat.le_of_ble_eq_true rfl) (Nat.le_of_ble_eq_true rfl) (spec) rfl (fun h9 e9 => ?_)
  obtain ⟨mo9, g9, fo9⟩ := hP h9 e9
  refine r_i2l dL_layerCount_7 ?_
  refine i_last 0 rfl dL_layerCount_8 mo9 fo9 (by decide) (by decide) (fun h1 e0_1 e1_1 e2_1 => ?_)
  refine r_goto dL_layerCount_9 (tgt := 15) (by decide) ?_
  refine i_const (0) dL_layerCount_15 ?_
  refine r_ireturn rfl rfl dL_layerCount_16 ?_
  exact ⟨rfl, h9, e9, e0_1, ⟨_, e1_1, rfl⟩, e2_1⟩
set_option maxRecDepth 20000 in
set_option maxHeartbeats 1000000 in
theorem l_layerCount_I {G : xG} {h : xH} {x o : Nat} {z : Int} (hrv : x_RV G h RX11 x) (hCA : GCA G) (spec : CC G MX11_layerCount [.ref x, .int (iI z)] h (fun o9 h9 => o9 = .inr eI ∧ h9 = h)) : CC G ML_layerCount [.ref x, .int (iI z), .ref o] h (fun o9 h2 => o9 = .inl (some (.int (iI 1))) ∧ h2 = h) := by
  show RR G ML_layerCount 0 [(0, .ref x), (1, .int (iI z)), (2, .ref o)] [] h (xm_R ML_layerCount).cells (xm_R ML_layerCount).slots (fun o9 h2 => o9 = .inl (some (.int (iI 1))) ∧ h2 = h)
  refine r_aload_n dL_layerCount_0 2 rfl ?_
  refine i_const (0) dL_layerCount_1 ?_
  refine r_aload_n dL_layerCount_2 0 rfl ?_
  refine r_iload_n dL_layerCount_3 1 rfl ?_
  refine x_callV (E := eI) (As := [.int (iI z)]) (b := x) (rest := [.int (iI 0), .ref o]) kv_L_layerCount_15 dL_layerCount_4 rfl rfl (Nat.le_of_ble_eq_true rfl) (Nat.le_of_ble_eq_true rfl) hrv (Nat.le_of_ble_eq_true rfl) (Nat.le_of_ble_eq_true rfl) spec (fun h9 e9 => ?_)
  rw [show h9 = h from e9]
  refine rx_catch [] ⟨0, 9, 12, 18⟩ [] rfl (fun z9 hz9 => absurd hz9 List.not_mem_nil) rfl (by decide) kl_L_18 (hCA.1 eI (by simp)) (fun qe => ?_)
  refine r_astore_n (ls' := [(0, .ref x), (1, .int (iI z)), (2, .ref o), (3, .ref qe)]) dL_layerCount_12 (by decide) rfl ?_
  refine i_const (1) dL_layerCount_13 ?_
  refine r_ireturn rfl rfl dL_layerCount_14 ?_
  exact ⟨rfl, rfl⟩
set_option maxRecDepth 20000 in
set_option maxHeartbeats 1000000 in
theorem l_butterLayerCount_ok {G : xG} {h : xH} {x o : Nat} {z : Int} (hrv : x_RV G h RX11 x) {v : Int32} {P : xH → Prop} (spec : CC G MX11_butterLayerCount [.ref x, .int (iI z)] h (fun o9 h9 => o9 = .inl (some (.int v)) ∧ P h9)) (hP : ∀ h9, P h9 → o ∈ h9.1 ∧ ∃ g, h9.2 o = .inl (G.2.1 2, 1, .inr (.inl g))) : CC G ML_butterLayerCount [.ref x, .int (iI z), .ref o] h (fun o9 h2 => o9 = .inl (some (.int (iI 0))) ∧ ∃ h9, P h9 ∧ h2.1 = h9.1 ∧ (∃ g, h2.2 o = .inl (G.2.1 2, 1, .inr (.inl g)) ∧ g 0 = v.toInt64) ∧ ∀ q9, q9 ≠ o → h2.2 q9 = h9.2 q9) := by
  show RR G ML_butterLayerCount 0 [(0, .ref x), (1, .int (iI z)), (2, .ref o)] [] h (xm_R ML_butterLayerCount).cells (xm_R ML_butterLayerCount).slots (fun o9 h2 => o9 = .inl (some (.int (iI 0))) ∧ ∃ h9, P h9 ∧ h2.1 = h9.1 ∧ (∃ g, h2.2 o = .inl (G.2.1 2, 1, .inr (.inl g)) ∧ g 0 = v.toInt64) ∧ ∀ q9, q9 ≠ o → h2.2 q9 = h9.2 q9)
  refine r_aload_n dL_butterLayerCount_0 2 rfl ?_
  refine i_const (0) dL_butterLayerCount_1 ?_
  refine r_aload_n dL_butterLayerCount_2 0 rfl ?_
  refine r_iload_n dL_butterLayerCount_3 1 rfl ?_
  refine k_callV (As := [.int (iI z)]) (b := x) (rest := [.int (iI 0), .ref o]) (w := (some (.int v))) (st' := [.int v, .int (iI 0), .ref o]) kv_L_butterLayerCount_20 dL_butterLayerCount_4 rfl rfl (Nat.le_of_ble_eq_true rfl) (Nat.le_of_ble_eq_true rfl) hrv (Nat.le_of_ble_eq_true rfl) (Nat.le_of_ble_eq_true rfl) (spec) rfl (fun h9 e9 => ?_)
  obtain ⟨mo9, g9, fo9⟩ := hP h9 e9
  refine r_i2l dL_butterLayerCount_7 ?_
  refine i_last 0 rfl dL_butterLayerCount_8 mo9 fo9 (by decide) (by decide) (fun h1 e0_1 e1_1 e2_1 => ?_)
  refine r_goto dL_butterLayerCount_9 (tgt := 15) (by decide) ?_
  refine i_const (0) dL_butterLayerCount_15 ?_
  refine r_ireturn rfl rfl dL_butterLayerCount_16 ?_
  exact ⟨rfl, h9, e9, e0_1, ⟨_, e1_1, rfl⟩, e2_1⟩
set_option maxRecDepth 20000 in
set_option maxHeartbeats 1000000 in
theorem l_butterLayerCount_I {G : xG} {h : xH} {x o : Nat} {z : Int} (hrv : x_RV G h RX11 x) (hCA : GCA G) (spec : CC G MX11_butterLayerCount [.ref x, .int (iI z)] h (fun o9 h9 => o9 = .inr eI ∧ h9 = h)) : CC G ML_butterLayerCount [.ref x, .int (iI z), .ref o] h (fun o9 h2 => o9 = .inl (some (.int (iI 1))) ∧ h2 = h) := by
  show RR G ML_butterLayerCount 0 [(0, .ref x), (1, .int (iI z)), (2, .ref o)] [] h (xm_R ML_butterLayerCount).cells (xm_R ML_butterLayerCount).slots (fun o9 h2 => o9 = .inl (some (.int (iI 1))) ∧ h2 = h)
  refine r_aload_n dL_butterLayerCount_0 2 rfl ?_
  refine i_const (0) dL_butterLayerCount_1 ?_
  refine r_aload_n dL_butterLayerCount_2 0 rfl ?_
  refine r_iload_n dL_butterLayerCount_3 1 rfl ?_
  refine x_callV (E := eI) (As := [.int (iI z)]) (b := x) (rest := [.int (iI 0), .ref o]) kv_L_butterLayerCount_20 dL_butterLayerCount_4 rfl rfl (Nat.le_of_ble_eq_true rfl) (Nat.le_of_ble_eq_true rfl) hrv (Nat.le_of_ble_eq_true rfl) (Nat.le_of_ble_eq_true rfl) spec (fun h9 e9 => ?_)
  rw [show h9 = h from e9]
  refine rx_catch [] ⟨0, 9, 12, 18⟩ [] rfl (fun z9 hz9 => absurd hz9 List.not_mem_nil) rfl (by decide) kl_L_18 (hCA.1 eI (by simp)) (fun qe => ?_)
  refine r_astore_n (ls' := [(0, .ref x), (1, .int (iI z)), (2, .ref o), (3, .ref qe)]) dL_butterLayerCount_12 (by decide) rfl ?_
  refine i_const (1) dL_butterLayerCount_13 ?_
  refine r_ireturn rfl rfl dL_butterLayerCount_14 ?_
  exact ⟨rfl, rfl⟩
set_option maxRecDepth 20000 in
set_option maxHeartbeats 1000000 in
theorem l_isButter_ok {G : xG} {h : xH} {x o : Nat} {z q : Int} (hrv : x_RV G h RX11 x) {v : Bool} {P : xH → Prop} (spec : CC G MX11_isButter [.ref x, .int (iI z), .int (iI q)] h (fun o9 h9 => o9 = .inl (some (.int (iI (b2 v)))) ∧ P h9)) (hP : ∀ h9, P h9 → o ∈ h9.1 ∧ ∃ g, h9.2 o = .inl (G.2.1 2, 1, .inr (.inl g))) : CC G ML_isButter [.ref x, .int (iI z), .int (iI q), .ref o] h (fun o9 h2 => o9 = .inl (some (.int (iI 0))) ∧ ∃ h9, P h9 ∧ h2.1 = h9.1 ∧ (∃ g, h2.2 o = .inl (G.2.1 2, 1, .inr (.inl g)) ∧ g 0 = lB v) ∧ ∀ q9, q9 ≠ o → h2.2 q9 = h9.2 q9) := by
  show RR G ML_isButter 0 [(0, .ref x), (1, .int (iI z)), (2, .int (iI q)), (3, .ref o)] [] h (xm_R ML_isButter).cells (xm_R ML_isButter).slots (fun o9 h2 => o9 = .inl (some (.int (iI 0))) ∧ ∃ h9, P h9 ∧ h2.1 = h9.1 ∧ (∃ g, h2.2 o = .inl (G.2.1 2, 1, .inr (.inl g)) ∧ g 0 = lB v) ∧ ∀ q9, q9 ≠ o → h2.2 q9 = h9.2 q9)
  refine r_aload_n dL_isButter_0 3 rfl ?_
  refine i_const (0) dL_isButter_1 ?_
  refine r_aload_n dL_isButter_2 0 rfl ?_
  refine r_iload_n dL_isButter_3 1 rfl ?_
  refine r_iload_n dL_isButter_4 2 rfl ?_
  refine k_callV (As := [.int (iI z), .int (iI q)]) (b := x) (rest := [.int (iI 0), .ref o]) (w := (some (.int (iI (b2 v))))) (st' := [.int (iI (b2 v)), .int (iI 0), .ref o]) kv_L_isButter_23 dL_isButter_5 rfl rfl (Nat.le_of_ble_eq_true rfl) (Nat.le_of_ble_eq_true rfl) hrv (Nat.le_of_ble_eq_true rfl) (Nat.le_of_ble_eq_true rfl) (spec) rfl (fun h9 e9 => ?_)
  obtain ⟨mo9, g9, fo9⟩ := hP h9 e9
  refine i_ifeqb dL_isButter_8 (tgt := 15) (by decide) (fun c8 => ?_) (fun c8 => ?_)
  · refine r_lconst dL_isButter_15 ?_
    refine i_last 0 rfl dL_isButter_16 mo9 fo9 (by decide) (by decide) (fun h1 e0_1 e1_1 e2_1 => ?_)
    refine r_goto dL_isButter_17 (tgt := 24) (by decide) ?_
    refine i_const (0) dL_isButter_24 ?_
    refine r_ireturn rfl rfl dL_isButter_25 ?_
    exact ⟨rfl, h9, e9, e0_1, ⟨_, e1_1, by rw [c8]; rfl⟩, e2_1⟩
  · refine r_lconst dL_isButter_11 ?_
    refine r_goto dL_isButter_12 (tgt := 16) (by decide) ?_
    refine i_last 0 rfl dL_isButter_16 mo9 fo9 (by decide) (by decide) (fun h2 e0_2 e1_2 e2_2 => ?_)
    refine r_goto dL_isButter_17 (tgt := 24) (by decide) ?_
    refine i_const (0) dL_isButter_24 ?_
    refine r_ireturn rfl rfl dL_isButter_25 ?_
    exact ⟨rfl, h9, e9, e0_2, ⟨_, e1_2, by rw [c8]; rfl⟩, e2_2⟩
set_option maxRecDepth 20000 in
set_option maxHeartbeats 1000000 in
theorem l_isButter_I {G : xG} {h : xH} {x o : Nat} {z q : Int} (hrv : x_RV G h RX11 x) (hCA : GCA G) (spec : CC G MX11_isButter [.ref x, .int (iI z), .int (iI q)] h (fun o9 h9 => o9 = .inr eI ∧ h9 = h)) : CC G ML_isButter [.ref x, .int (iI z), .int (iI q), .ref o] h (fun o9 h2 => o9 = .inl (some (.int (iI 1))) ∧ h2 = h) := by
  show RR G ML_isButter 0 [(0, .ref x), (1, .int (iI z)), (2, .int (iI q)), (3, .ref o)] [] h (xm_R ML_isButter).cells (xm_R ML_isButter).slots (fun o9 h2 => o9 = .inl (some (.int (iI 1))) ∧ h2 = h)
  refine r_aload_n dL_isButter_0 3 rfl ?_
  refine i_const (0) dL_isButter_1 ?_
  refine r_aload_n dL_isButter_2 0 rfl ?_
  refine r_iload_n dL_isButter_3 1 rfl ?_
  refine r_iload_n dL_isButter_4 2 rfl ?_
  refine x_callV (E := eI) (As := [.int (iI z), .int (iI q)]) (b := x) (rest := [.int (iI 0), .ref o]) kv_L_isButter_23 dL_isButter_5 rfl rfl (Nat.le_of_ble_eq_true rfl) (Nat.le_of_ble_eq_true rfl) hrv (Nat.le_of_ble_eq_true rfl) (Nat.le_of_ble_eq_true rfl) spec (fun h9 e9 => ?_)
  rw [show h9 = h from e9]
  refine rx_catch [] ⟨0, 17, 20, 18⟩ [] rfl (fun z9 hz9 => absurd hz9 List.not_mem_nil) rfl (by decide) kl_L_18 (hCA.1 eI (by simp)) (fun qe => ?_)
  refine r_astore (ls' := [(0, .ref x), (1, .int (iI z)), (2, .int (iI q)), (3, .ref o), (4, .ref qe)]) dL_isButter_20 (by decide) rfl ?_
  refine i_const (1) dL_isButter_22 ?_
  refine r_ireturn rfl rfl dL_isButter_23 ?_
  exact ⟨rfl, rfl⟩
set_option maxRecDepth 20000 in
set_option maxHeartbeats 1000000 in
theorem l_thickness_ok {G : xG} {h : xH} {x o : Nat} {z q : Int} (hrv : x_RV G h RX11 x) {v : Int32} {P : xH → Prop} (spec : CC G MX11_thickness [.ref x, .int (iI z), .int (iI q)] h (fun o9 h9 => o9 = .inl (some (.int v)) ∧ P h9)) (hP : ∀ h9, P h9 → o ∈ h9.1 ∧ ∃ g, h9.2 o = .inl (G.2.1 2, 1, .inr (.inl g))) : CC G ML_thickness [.ref x, .int (iI z), .int (iI q), .ref o] h (fun o9 h2 => o9 = .inl (some (.int (iI 0))) ∧ ∃ h9, P h9 ∧ h2.1 = h9.1 ∧ (∃ g, h2.2 o = .inl (G.2.1 2, 1, .inr (.inl g)) ∧ g 0 = v.toInt64) ∧ ∀ q9, q9 ≠ o → h2.2 q9 = h9.2 q9) := by
  show RR G ML_thickness 0 [(0, .ref x), (1, .int (iI z)), (2, .int (iI q)), (3, .ref o)] [] h (xm_R ML_thickness).cells (xm_R ML_thickness).slots (fun o9 h2 => o9 = .inl (some (.int (iI 0))) ∧ ∃ h9, P h9 ∧ h2.1 = h9.1 ∧ (∃ g, h2.2 o = .inl (G.2.1 2, 1, .inr (.inl g)) ∧ g 0 = v.toInt64) ∧ ∀ q9, q9 ≠ o → h2.2 q9 = h9.2 q9)
  refine r_aload_n dL_thickness_0 3 rfl ?_
  refine i_const (0) dL_thickness_1 ?_
  refine r_aload_n dL_thickness_2 0 rfl ?_
  refine r_iload_n dL_thickness_3 1 rfl ?_
  refine r_iload_n dL_thickness_4 2 rfl ?_
  refine k_callV (As := [.int (iI z), .int (iI q)]) (b := x) (rest := [.int (iI 0), .ref o]) (w := (some (.int v))) (st' := [.int v, .int (iI 0), .ref o]) kv_L_thickness_27 dL_thickness_5 rfl rfl (Nat.le_of_ble_eq_true rfl) (Nat.le_of_ble_eq_true rfl) hrv (Nat.le_of_ble_eq_true rfl) (Nat.le_of_ble_eq_true rfl) (spec) rfl (fun h9 e9 => ?_)
  obtain ⟨mo9, g9, fo9⟩ := hP h9 e9
  refine r_i2l dL_thickness_8 ?_
  refine i_last 0 rfl dL_thickness_9 mo9 fo9 (by decide) (by decide) (fun h1 e0_1 e1_1 e2_1 => ?_)
  refine r_goto dL_thickness_10 (tgt := 17) (by decide) ?_
  refine i_const (0) dL_thickness_17 ?_
  refine r_ireturn rfl rfl dL_thickness_18 ?_
  exact ⟨rfl, h9, e9, e0_1, ⟨_, e1_1, rfl⟩, e2_1⟩
set_option maxRecDepth 20000 in
set_option maxHeartbeats 1000000 in
theorem l_thickness_I {G : xG} {h : xH} {x o : Nat} {z q : Int} (hrv : x_RV G h RX11 x) (hCA : GCA G) (spec : CC G MX11_thickness [.ref x, .int (iI z), .int (iI q)] h (fun o9 h9 => o9 = .inr eI ∧ h9 = h)) : CC G ML_thickness [.ref x, .int (iI z), .int (iI q), .ref o] h (fun o9 h2 => o9 = .inl (some (.int (iI 1))) ∧ h2 = h) := by
  show RR G ML_thickness 0 [(0, .ref x), (1, .int (iI z)), (2, .int (iI q)), (3, .ref o)] [] h (xm_R ML_thickness).cells (xm_R ML_thickness).slots (fun o9 h2 => o9 = .inl (some (.int (iI 1))) ∧ h2 = h)
  refine r_aload_n dL_thickness_0 3 rfl ?_
  refine i_const (0) dL_thickness_1 ?_
  refine r_aload_n dL_thickness_2 0 rfl ?_
  refine r_iload_n dL_thickness_3 1 rfl ?_
  refine r_iload_n dL_thickness_4 2 rfl ?_
  refine x_callV (E := eI) (As := [.int (iI z), .int (iI q)]) (b := x) (rest := [.int (iI 0), .ref o]) kv_L_thickness_27 dL_thickness_5 rfl rfl (Nat.le_of_ble_eq_true rfl) (Nat.le_of_ble_eq_true rfl) hrv (Nat.le_of_ble_eq_true rfl) (Nat.le_of_ble_eq_true rfl) spec (fun h9 e9 => ?_)
  rw [show h9 = h from e9]
  refine rx_catch [] ⟨0, 10, 13, 18⟩ [] rfl (fun z9 hz9 => absurd hz9 List.not_mem_nil) rfl (by decide) kl_L_18 (hCA.1 eI (by simp)) (fun qe => ?_)
  refine r_astore (ls' := [(0, .ref x), (1, .int (iI z)), (2, .int (iI q)), (3, .ref o), (4, .ref qe)]) dL_thickness_13 (by decide) rfl ?_
  refine i_const (1) dL_thickness_15 ?_
  refine r_ireturn rfl rfl dL_thickness_16 ?_
  exact ⟨rfl, rfl⟩
set_option maxRecDepth 20000 in
set_option maxHeartbeats 1000000 in
theorem l_height_ok {G : xG} {h : xH} {x o : Nat} {z : Int} (hrv : x_RV G h RX11 x) {v : Int32} {P : xH → Prop} (spec : CC G MX11_height [.ref x, .int (iI z)] h (fun o9 h9 => o9 = .inl (some (.int v)) ∧ P h9)) (hP : ∀ h9, P h9 → o ∈ h9.1 ∧ ∃ g, h9.2 o = .inl (G.2.1 2, 1, .inr (.inl g))) : CC G ML_height [.ref x, .int (iI z), .ref o] h (fun o9 h2 => o9 = .inl (some (.int (iI 0))) ∧ ∃ h9, P h9 ∧ h2.1 = h9.1 ∧ (∃ g, h2.2 o = .inl (G.2.1 2, 1, .inr (.inl g)) ∧ g 0 = v.toInt64) ∧ ∀ q9, q9 ≠ o → h2.2 q9 = h9.2 q9) := by
  show RR G ML_height 0 [(0, .ref x), (1, .int (iI z)), (2, .ref o)] [] h (xm_R ML_height).cells (xm_R ML_height).slots (fun o9 h2 => o9 = .inl (some (.int (iI 0))) ∧ ∃ h9, P h9 ∧ h2.1 = h9.1 ∧ (∃ g, h2.2 o = .inl (G.2.1 2, 1, .inr (.inl g)) ∧ g 0 = v.toInt64) ∧ ∀ q9, q9 ≠ o → h2.2 q9 = h9.2 q9)
  refine r_aload_n dL_height_0 2 rfl ?_
  refine i_const (0) dL_height_1 ?_
  refine r_aload_n dL_height_2 0 rfl ?_
  refine r_iload_n dL_height_3 1 rfl ?_
  refine k_callV (As := [.int (iI z)]) (b := x) (rest := [.int (iI 0), .ref o]) (w := (some (.int v))) (st' := [.int v, .int (iI 0), .ref o]) kv_L_height_31 dL_height_4 rfl rfl (Nat.le_of_ble_eq_true rfl) (Nat.le_of_ble_eq_true rfl) hrv (Nat.le_of_ble_eq_true rfl) (Nat.le_of_ble_eq_true rfl) (spec) rfl (fun h9 e9 => ?_)
  obtain ⟨mo9, g9, fo9⟩ := hP h9 e9
  refine r_i2l dL_height_7 ?_
  refine i_last 0 rfl dL_height_8 mo9 fo9 (by decide) (by decide) (fun h1 e0_1 e1_1 e2_1 => ?_)
  refine r_goto dL_height_9 (tgt := 15) (by decide) ?_
  refine i_const (0) dL_height_15 ?_
  refine r_ireturn rfl rfl dL_height_16 ?_
  exact ⟨rfl, h9, e9, e0_1, ⟨_, e1_1, rfl⟩, e2_1⟩
set_option maxRecDepth 20000 in
set_option maxHeartbeats 1000000 in
theorem l_height_I {G : xG} {h : xH} {x o : Nat} {z : Int} (hrv : x_RV G h RX11 x) (hCA : GCA G) (spec : CC G MX11_height [.ref x, .int (iI z)] h (fun o9 h9 => o9 = .inr eI ∧ h9 = h)) : CC G ML_height [.ref x, .int (iI z), .ref o] h (fun o9 h2 => o9 = .inl (some (.int (iI 1))) ∧ h2 = h) := by
  show RR G ML_height 0 [(0, .ref x), (1, .int (iI z)), (2, .ref o)] [] h (xm_R ML_height).cells (xm_R ML_height).slots (fun o9 h2 => o9 = .inl (some (.int (iI 1))) ∧ h2 = h)
  refine r_aload_n dL_height_0 2 rfl ?_
  refine i_const (0) dL_height_1 ?_
  refine r_aload_n dL_height_2 0 rfl ?_
  refine r_iload_n dL_height_3 1 rfl ?_
  refine x_callV (E := eI) (As := [.int (iI z)]) (b := x) (rest := [.int (iI 0), .ref o]) kv_L_height_31 dL_height_4 rfl rfl (Nat.le_of_ble_eq_true rfl) (Nat.le_of_ble_eq_true rfl) hrv (Nat.le_of_ble_eq_true rfl) (Nat.le_of_ble_eq_true rfl) spec (fun h9 e9 => ?_)
  rw [show h9 = h from e9]
  refine rx_catch [] ⟨0, 9, 12, 18⟩ [] rfl (fun z9 hz9 => absurd hz9 List.not_mem_nil) rfl (by decide) kl_L_18 (hCA.1 eI (by simp)) (fun qe => ?_)
  refine r_astore_n (ls' := [(0, .ref x), (1, .int (iI z)), (2, .ref o), (3, .ref qe)]) dL_height_12 (by decide) rfl ?_
  refine i_const (1) dL_height_13 ?_
  refine r_ireturn rfl rfl dL_height_14 ?_
  exact ⟨rfl, rfl⟩
set_option maxRecDepth 20000 in
set_option maxHeartbeats 1000000 in
theorem l_butterHeight_ok {G : xG} {h : xH} {x o : Nat} {z : Int} (hrv : x_RV G h RX11 x) {v : Int32} {P : xH → Prop} (spec : CC G MX11_butterHeight [.ref x, .int (iI z)] h (fun o9 h9 => o9 = .inl (some (.int v)) ∧ P h9)) (hP : ∀ h9, P h9 → o ∈ h9.1 ∧ ∃ g, h9.2 o = .inl (G.2.1 2, 1, .inr (.inl g))) : CC G ML_butterHeight [.ref x, .int (iI z), .ref o] h (fun o9 h2 => o9 = .inl (some (.int (iI 0))) ∧ ∃ h9, P h9 ∧ h2.1 = h9.1 ∧ (∃ g, h2.2 o = .inl (G.2.1 2, 1, .inr (.inl g)) ∧ g 0 = v.toInt64) ∧ ∀ q9, q9 ≠ o → h2.2 q9 = h9.2 q9) := by
  show RR G ML_butterHeight 0 [(0, .ref x), (1, .int (iI z)), (2, .ref o)] [] h (xm_R ML_butterHeight).cells (xm_R ML_butterHeight).slots (fun o9 h2 => o9 = .inl (some (.int (iI 0))) ∧ ∃ h9, P h9 ∧ h2.1 = h9.1 ∧ (∃ g, h2.2 o = .inl (G.2.1 2, 1, .inr (.inl g)) ∧ g 0 = v.toInt64) ∧ ∀ q9, q9 ≠ o → h2.2 q9 = h9.2 q9)
  refine r_aload_n dL_butterHeight_0 2 rfl ?_
  refine i_const (0) dL_butterHeight_1 ?_
  refine r_aload_n dL_butterHeight_2 0 rfl ?_
  refine r_iload_n dL_butterHeight_3 1 rfl ?_
  refine k_callV (As := [.int (iI z)]) (b := x) (rest := [.int (iI 0), .ref o]) (w := (some (.int v))) (st' := [.int v, .int (iI 0), .ref o]) kv_L_butterHeight_34 dL_butterHeight_4 rfl rfl (Nat.le_of_ble_eq_true rfl) (Nat.le_of_ble_eq_true rfl) hrv (Nat.le_of_ble_eq_true rfl) (Nat.le_of_ble_eq_true rfl) (spec) rfl (fun h9 e9 => ?_)
  obtain ⟨mo9, g9, fo9⟩ := hP h9 e9
  refine r_i2l dL_butterHeight_7 ?_
  refine i_last 0 rfl dL_butterHeight_8 mo9 fo9 (by decide) (by decide) (fun h1 e0_1 e1_1 e2_1 => ?_)
  refine r_goto dL_butterHeight_9 (tgt := 15) (by decide) ?_
  refine i_const (0) dL_butterHeight_15 ?_
  refine r_ireturn rfl rfl dL_butterHeight_16 ?_
  exact ⟨rfl, h9, e9, e0_1, ⟨_, e1_1, rfl⟩, e2_1⟩
set_option maxRecDepth 20000 in
set_option maxHeartbeats 1000000 in
theorem l_butterHeight_I {G : xG} {h : xH} {x o : Nat} {z : Int} (hrv : x_RV G h RX11 x) (hCA : GCA G) (spec : CC G MX11_butterHeight [.ref x, .int (iI z)] h (fun o9 h9 => o9 = .inr eI ∧ h9 = h)) : CC G ML_butterHeight [.ref x, .int (iI z), .ref o] h (fun o9 h2 => o9 = .inl (some (.int (iI 1))) ∧ h2 = h) := by
  show RR G ML_butterHeight 0 [(0, .ref x), (1, .int (iI z)), (2, .ref o)] [] h (xm_R ML_butterHeight).cells (xm_R ML_butterHeight).slots (fun o9 h2 => o9 = .inl (some (.int (iI 1))) ∧ h2 = h)
  refine r_aload_n dL_butterHeight_0 2 rfl ?_
  refine i_const (0) dL_butterHeight_1 ?_
  refine r_aload_n dL_butterHeight_2 0 rfl ?_
  refine r_iload_n dL_butterHeight_3 1 rfl ?_
  refine x_callV (E := eI) (As := [.int (iI z)]) (b := x) (rest := [.int (iI 0), .ref o]) kv_L_butterHeight_34 dL_butterHeight_4 rfl rfl (Nat.le_of_ble_eq_true rfl) (Nat.le_of_ble_eq_true rfl) hrv (Nat.le_of_ble_eq_true rfl) (Nat.le_of_ble_eq_true rfl) spec (fun h9 e9 => ?_)
  rw [show h9 = h from e9]
  refine rx_catch [] ⟨0, 9, 12, 18⟩ [] rfl (fun z9 hz9 => absurd hz9 List.not_mem_nil) rfl (by decide) kl_L_18 (hCA.1 eI (by simp)) (fun qe => ?_)
  refine r_astore_n (ls' := [(0, .ref x), (1, .int (iI z)), (2, .ref o), (3, .ref qe)]) dL_butterHeight_12 (by decide) rfl ?_
  refine i_const (1) dL_butterHeight_13 ?_
  refine r_ireturn rfl rfl dL_butterHeight_14 ?_
  exact ⟨rfl, rfl⟩
set_option maxRecDepth 20000 in
set_option maxHeartbeats 1000000 in
theorem l_thinnestLayer_ok {G : xG} {h : xH} {x o : Nat} {z : Int} (hrv : x_RV G h RX11 x) {v : Int32} {P : xH → Prop} (spec : CC G MX11_thinnestLayer [.ref x, .int (iI z)] h (fun o9 h9 => o9 = .inl (some (.int v)) ∧ P h9)) (hP : ∀ h9, P h9 → o ∈ h9.1 ∧ ∃ g, h9.2 o = .inl (G.2.1 2, 1, .inr (.inl g))) : CC G ML_thinnestLayer [.ref x, .int (iI z), .ref o] h (fun o9 h2 => o9 = .inl (some (.int (iI 0))) ∧ ∃ h9, P h9 ∧ h2.1 = h9.1 ∧ (∃ g, h2.2 o = .inl (G.2.1 2, 1, .inr (.inl g)) ∧ g 0 = v.toInt64) ∧ ∀ q9, q9 ≠ o → h2.2 q9 = h9.2 q9) := by
  show RR G ML_thinnestLayer 0 [(0, .ref x), (1, .int (iI z)), (2, .ref o)] [] h (xm_R ML_thinnestLayer).cells (xm_R ML_thinnestLayer).slots (fun o9 h2 => o9 = .inl (some (.int (iI 0))) ∧ ∃ h9, P h9 ∧ h2.1 = h9.1 ∧ (∃ g, h2.2 o = .inl (G.2.1 2, 1, .inr (.inl g)) ∧ g 0 = v.toInt64) ∧ ∀ q9, q9 ≠ o → h2.2 q9 = h9.2 q9)
  refine r_aload_n dL_thinnestLayer_0 2 rfl ?_
  refine i_const (0) dL_thinnestLayer_1 ?_
  refine r_aload_n dL_thinnestLayer_2 0 rfl ?_
  refine r_iload_n dL_thinnestLayer_3 1 rfl ?_
  refine k_callV (As := [.int (iI z)]) (b := x) (rest := [.int (iI 0), .ref o]) (w := (some (.int v))) (st' := [.int v, .int (iI 0), .ref o]) kv_L_thinnestLayer_37 dL_thinnestLayer_4 rfl rfl (Nat.le_of_ble_eq_true rfl) (Nat.le_of_ble_eq_true rfl) hrv (Nat.le_of_ble_eq_true rfl) (Nat.le_of_ble_eq_true rfl) (spec) rfl (fun h9 e9 => ?_)
  obtain ⟨mo9, g9, fo9⟩ := hP h9 e9
  refine r_i2l dL_thinnestLayer_7 ?_
  refine i_last 0 rfl dL_thinnestLayer_8 mo9 fo9 (by decide) (by decide) (fun h1 e0_1 e1_1 e2_1 => ?_)
  refine r_goto dL_thinnestLayer_9 (tgt := 15) (by decide) ?_
  refine i_const (0) dL_thinnestLayer_15 ?_
  refine r_ireturn rfl rfl dL_thinnestLayer_16 ?_
  exact ⟨rfl, h9, e9, e0_1, ⟨_, e1_1, rfl⟩, e2_1⟩
set_option maxRecDepth 20000 in
set_option maxHeartbeats 1000000 in
theorem l_thinnestLayer_I {G : xG} {h : xH} {x o : Nat} {z : Int} (hrv : x_RV G h RX11 x) (hCA : GCA G) (spec : CC G MX11_thinnestLayer [.ref x, .int (iI z)] h (fun o9 h9 => o9 = .inr eI ∧ h9 = h)) : CC G ML_thinnestLayer [.ref x, .int (iI z), .ref o] h (fun o9 h2 => o9 = .inl (some (.int (iI 1))) ∧ h2 = h) := by
  show RR G ML_thinnestLayer 0 [(0, .ref x), (1, .int (iI z)), (2, .ref o)] [] h (xm_R ML_thinnestLayer).cells (xm_R ML_thinnestLayer).slots (fun o9 h2 => o9 = .inl (some (.int (iI 1))) ∧ h2 = h)
  refine r_aload_n dL_thinnestLayer_0 2 rfl ?_
  refine i_const (0) dL_thinnestLayer_1 ?_
  refine r_aload_n dL_thinnestLayer_2 0 rfl ?_
  refine r_iload_n dL_thinnestLayer_3 1 rfl ?_
  refine x_callV (E := eI) (As := [.int (iI z)]) (b := x) (rest := [.int (iI 0), .ref o]) kv_L_thinnestLayer_37 dL_thinnestLayer_4 rfl rfl (Nat.le_of_ble_eq_true rfl) (Nat.le_of_ble_eq_true rfl) hrv (Nat.le_of_ble_eq_true rfl) (Nat.le_of_ble_eq_true rfl) spec (fun h9 e9 => ?_)
  rw [show h9 = h from e9]
  refine rx_catch [] ⟨0, 9, 12, 18⟩ [] rfl (fun z9 hz9 => absurd hz9 List.not_mem_nil) rfl (by decide) kl_L_18 (hCA.1 eI (by simp)) (fun qe => ?_)
  refine r_astore_n (ls' := [(0, .ref x), (1, .int (iI z)), (2, .ref o), (3, .ref qe)]) dL_thinnestLayer_12 (by decide) rfl ?_
  refine i_const (1) dL_thinnestLayer_13 ?_
  refine r_ireturn rfl rfl dL_thinnestLayer_14 ?_
  exact ⟨rfl, rfl⟩
set_option maxRecDepth 20000 in
set_option maxHeartbeats 1000000 in
theorem l_thickestLayer_ok {G : xG} {h : xH} {x o : Nat} {z : Int} (hrv : x_RV G h RX11 x) {v : Int32} {P : xH → Prop} (spec : CC G MX11_thickestLayer [.ref x, .int (iI z)] h (fun o9 h9 => o9 = .inl (some (.int v)) ∧ P h9)) (hP : ∀ h9, P h9 → o ∈ h9.1 ∧ ∃ g, h9.2 o = .inl (G.2.1 2, 1, .inr (.inl g))) : CC G ML_thickestLayer [.ref x, .int (iI z), .ref o] h (fun o9 h2 => o9 = .inl (some (.int (iI 0))) ∧ ∃ h9, P h9 ∧ h2.1 = h9.1 ∧ (∃ g, h2.2 o = .inl (G.2.1 2, 1, .inr (.inl g)) ∧ g 0 = v.toInt64) ∧ ∀ q9, q9 ≠ o → h2.2 q9 = h9.2 q9) := by
  show RR G ML_thickestLayer 0 [(0, .ref x), (1, .int (iI z)), (2, .ref o)] [] h (xm_R ML_thickestLayer).cells (xm_R ML_thickestLayer).slots (fun o9 h2 => o9 = .inl (some (.int (iI 0))) ∧ ∃ h9, P h9 ∧ h2.1 = h9.1 ∧ (∃ g, h2.2 o = .inl (G.2.1 2, 1, .inr (.inl g)) ∧ g 0 = v.toInt64) ∧ ∀ q9, q9 ≠ o → h2.2 q9 = h9.2 q9)
  refine r_aload_n dL_thickestLayer_0 2 rfl ?_
  refine i_const (0) dL_thickestLayer_1 ?_
  refine r_aload_n dL_thickestLayer_2 0 rfl ?_
  refine r_iload_n dL_thickestLayer_3 1 rfl ?_
  refine k_callV (As := [.int (iI z)]) (b := x) (rest := [.int (iI 0), .ref o]) (w := (some (.int v))) (st' := [.int v, .int (iI 0), .ref o]) kv_L_thickestLayer_40 dL_thickestLayer_4 rfl rfl (Nat.le_of_ble_eq_true rfl) (Nat.le_of_ble_eq_true rfl) hrv (Nat.le_of_ble_eq_true rfl) (Nat.le_of_ble_eq_true rfl) (spec) rfl (fun h9 e9 => ?_)
  obtain ⟨mo9, g9, fo9⟩ := hP h9 e9
  refine r_i2l dL_thickestLayer_7 ?_
  refine i_last 0 rfl dL_thickestLayer_8 mo9 fo9 (by decide) (by decide) (fun h1 e0_1 e1_1 e2_1 => ?_)
  refine r_goto dL_thickestLayer_9 (tgt := 15) (by decide) ?_
  refine i_const (0) dL_thickestLayer_15 ?_
  refine r_ireturn rfl rfl dL_thickestLayer_16 ?_
  exact ⟨rfl, h9, e9, e0_1, ⟨_, e1_1, rfl⟩, e2_1⟩
set_option maxRecDepth 20000 in
set_option maxHeartbeats 1000000 in
theorem l_thickestLayer_I {G : xG} {h : xH} {x o : Nat} {z : Int} (hrv : x_RV G h RX11 x) (hCA : GCA G) (spec : CC G MX11_thickestLayer [.ref x, .int (iI z)] h (fun o9 h9 => o9 = .inr eI ∧ h9 = h)) : CC G ML_thickestLayer [.ref x, .int (iI z), .ref o] h (fun o9 h2 => o9 = .inl (some (.int (iI 1))) ∧ h2 = h) := by
  show RR G ML_thickestLayer 0 [(0, .ref x), (1, .int (iI z)), (2, .ref o)] [] h (xm_R ML_thickestLayer).cells (xm_R ML_thickestLayer).slots (fun o9 h2 => o9 = .inl (some (.int (iI 1))) ∧ h2 = h)
  refine r_aload_n dL_thickestLayer_0 2 rfl ?_
  refine i_const (0) dL_thickestLayer_1 ?_
  refine r_aload_n dL_thickestLayer_2 0 rfl ?_
  refine r_iload_n dL_thickestLayer_3 1 rfl ?_
  refine x_callV (E := eI) (As := [.int (iI z)]) (b := x) (rest := [.int (iI 0), .ref o]) kv_L_thickestLayer_40 dL_thickestLayer_4 rfl rfl (Nat.le_of_ble_eq_true rfl) (Nat.le_of_ble_eq_true rfl) hrv (Nat.le_of_ble_eq_true rfl) (Nat.le_of_ble_eq_true rfl) spec (fun h9 e9 => ?_)
  rw [show h9 = h from e9]
  refine rx_catch [] ⟨0, 9, 12, 18⟩ [] rfl (fun z9 hz9 => absurd hz9 List.not_mem_nil) rfl (by decide) kl_L_18 (hCA.1 eI (by simp)) (fun qe => ?_)
  refine r_astore_n (ls' := [(0, .ref x), (1, .int (iI z)), (2, .ref o), (3, .ref qe)]) dL_thickestLayer_12 (by decide) rfl ?_
  refine i_const (1) dL_thickestLayer_13 ?_
  refine r_ireturn rfl rfl dL_thickestLayer_14 ?_
  exact ⟨rfl, rfl⟩
set_option maxRecDepth 20000 in
set_option maxHeartbeats 1000000 in
theorem l_seamCount_ok {G : xG} {h : xH} {x o : Nat} {z : Int} (hrv : x_RV G h RX11 x) {v : Int32} {P : xH → Prop} (spec : CC G MX11_seamCount [.ref x, .int (iI z)] h (fun o9 h9 => o9 = .inl (some (.int v)) ∧ P h9)) (hP : ∀ h9, P h9 → o ∈ h9.1 ∧ ∃ g, h9.2 o = .inl (G.2.1 2, 1, .inr (.inl g))) : CC G ML_seamCount [.ref x, .int (iI z), .ref o] h (fun o9 h2 => o9 = .inl (some (.int (iI 0))) ∧ ∃ h9, P h9 ∧ h2.1 = h9.1 ∧ (∃ g, h2.2 o = .inl (G.2.1 2, 1, .inr (.inl g)) ∧ g 0 = v.toInt64) ∧ ∀ q9, q9 ≠ o → h2.2 q9 = h9.2 q9) := by
  show RR G ML_seamCount 0 [(0, .ref x), (1, .int (iI z)), (2, .ref o)] [] h (xm_R ML_seamCount).cells (xm_R ML_seamCount).slots (fun o9 h2 => o9 = .inl (some (.int (iI 0))) ∧ ∃ h9, P h9 ∧ h2.1 = h9.1 ∧ (∃ g, h2.2 o = .inl (G.2.1 2, 1, .inr (.inl g)) ∧ g 0 = v.toInt64) ∧ ∀ q9, q9 ≠ o → h2.2 q9 = h9.2 q9)
  refine r_aload_n dL_seamCount_0 2 rfl ?_
  refine i_const (0) dL_seamCount_1 ?_
  refine r_aload_n dL_seamCount_2 0 rfl ?_
  refine r_iload_n dL_seamCount_3 1 rfl ?_
  refine k_callV (As := [.int (iI z)]) (b := x) (rest := [.int (iI 0), .ref o]) (w := (some (.int v))) (st' := [.int v, .int (iI 0), .ref o]) kv_L_seamCount_43 dL_seamCount_4 rfl rfl (Nat.le_of_ble_eq_true rfl) (Nat.le_of_ble_eq_true rfl) hrv (Nat.le_of_ble_eq_true rfl) (Nat.le_of_ble_eq_true rfl) (spec) rfl (fun h9 e9 => ?_)
  obtain ⟨mo9, g9, fo9⟩ := hP h9 e9
  refine r_i2l dL_seamCount_7 ?_
  refine i_last 0 rfl dL_seamCount_8 mo9 fo9 (by decide) (by decide) (fun h1 e0_1 e1_1 e2_1 => ?_)
  refine r_goto dL_seamCount_9 (tgt := 15) (by decide) ?_
  refine i_const (0) dL_seamCount_15 ?_
  refine r_ireturn rfl rfl dL_seamCount_16 ?_
  exact ⟨rfl, h9, e9, e0_1, ⟨_, e1_1, rfl⟩, e2_1⟩
set_option maxRecDepth 20000 in
set_option maxHeartbeats 1000000 in
theorem l_seamCount_I {G : xG} {h : xH} {x o : Nat} {z : Int} (hrv : x_RV G h RX11 x) (hCA : GCA G) (spec : CC G MX11_seamCount [.ref x, .int (iI z)] h (fun o9 h9 => o9 = .inr eI ∧ h9 = h)) : CC G ML_seamCount [.ref x, .int (iI z), .ref o] h (fun o9 h2 => o9 = .inl (some (.int (iI 1))) ∧ h2 = h) := by
  show RR G ML_seamCount 0 [(0, .ref x), (1, .int (iI z)), (2, .ref o)] [] h (xm_R ML_seamCount).cells (xm_R ML_seamCount).slots (fun o9 h2 => o9 = .inl (some (.int (iI 1))) ∧ h2 = h)
  refine r_aload_n dL_seamCount_0 2 rfl ?_
  refine i_const (0) dL_seamCount_1 ?_
  refine r_aload_n dL_seamCount_2 0 rfl ?_
  refine r_iload_n dL_seamCount_3 1 rfl ?_
  refine x_callV (E := eI) (As := [.int (iI z)]) (b := x) (rest := [.int (iI 0), .ref o]) kv_L_seamCount_43 dL_seamCount_4 rfl rfl (Nat.le_of_ble_eq_true rfl) (Nat.le_of_ble_eq_true rfl) hrv (Nat.le_of_ble_eq_true rfl) (Nat.le_of_ble_eq_true rfl) spec (fun h9 e9 => ?_)
  rw [show h9 = h from e9]
  refine rx_catch [] ⟨0, 9, 12, 18⟩ [] rfl (fun z9 hz9 => absurd hz9 List.not_mem_nil) rfl (by decide) kl_L_18 (hCA.1 eI (by simp)) (fun qe => ?_)
  refine r_astore_n (ls' := [(0, .ref x), (1, .int (iI z)), (2, .ref o), (3, .ref qe)]) dL_seamCount_12 (by decide) rfl ?_
  refine i_const (1) dL_seamCount_13 ?_
  refine r_ireturn rfl rfl dL_seamCount_14 ?_
  exact ⟨rfl, rfl⟩
set_option maxRecDepth 20000 in
set_option maxHeartbeats 1000000 in
theorem l_isSymmetric_ok {G : xG} {h : xH} {x o : Nat} {z : Int} (hrv : x_RV G h RX11 x) {v : Bool} {P : xH → Prop} (spec : CC G MX11_isSymmetric [.ref x, .int (iI z)] h (fun o9 h9 => o9 = .inl (some (.int (iI (b2 v)))) ∧ P h9)) (hP : ∀ h9, P h9 → o ∈ h9.1 ∧ ∃ g, h9.2 o = .inl (G.2.1 2, 1, .inr (.inl g))) : CC G ML_isSymmetric [.ref x, .int (iI z), .ref o] h (fun o9 h2 => o9 = .inl (some (.int (iI 0))) ∧ ∃ h9, P h9 ∧ h2.1 = h9.1 ∧ (∃ g, h2.2 o = .inl (G.2.1 2, 1, .inr (.inl g)) ∧ g 0 = lB v) ∧ ∀ q9, q9 ≠ o → h2.2 q9 = h9.2 q9) := by
  show RR G ML_isSymmetric 0 [(0, .ref x), (1, .int (iI z)), (2, .ref o)] [] h (xm_R ML_isSymmetric).cells (xm_R ML_isSymmetric).slots (fun o9 h2 => o9 = .inl (some (.int (iI 0))) ∧ ∃ h9, P h9 ∧ h2.1 = h9.1 ∧ (∃ g, h2.2 o = .inl (G.2.1 2, 1, .inr (.inl g)) ∧ g 0 = lB v) ∧ ∀ q9, q9 ≠ o → h2.2 q9 = h9.2 q9)
  refine r_aload_n dL_isSymmetric_0 2 rfl ?_
  refine i_const (0) dL_isSymmetric_1 ?_
  refine r_aload_n dL_isSymmetric_2 0 rfl ?_
  refine r_iload_n dL_isSymmetric_3 1 rfl ?_
  refine k_callV (As := [.int (iI z)]) (b := x) (rest := [.int (iI 0), .ref o]) (w := (some (.int (iI (b2 v))))) (st' := [.int (iI (b2 v)), .int (iI 0), .ref o]) kv_L_isSymmetric_46 dL_isSymmetric_4 rfl rfl (Nat.le_of_ble_eq_true rfl) (Nat.le_of_ble_eq_true rfl) hrv (Nat.le_of_ble_eq_true rfl) (Nat.le_of_ble_eq_true rfl) (spec) rfl (fun h9 e9 => ?_)
  obtain ⟨mo9, g9, fo9⟩ := hP h9 e9
  refine i_ifeqb dL_isSymmetric_7 (tgt := 14) (by decide) (fun c7 => ?_) (fun c7 => ?_)
  · refine r_lconst dL_isSymmetric_14 ?_
    refine i_last 0 rfl dL_isSymmetric_15 mo9 fo9 (by decide) (by decide) (fun h1 e0_1 e1_1 e2_1 => ?_)
    refine r_goto dL_isSymmetric_16 (tgt := 22) (by decide) ?_
    refine i_const (0) dL_isSymmetric_22 ?_
    refine r_ireturn rfl rfl dL_isSymmetric_23 ?_
    exact ⟨rfl, h9, e9, e0_1, ⟨_, e1_1, by rw [c7]; rfl⟩, e2_1⟩
  · refine r_lconst dL_isSymmetric_10 ?_
    refine r_goto dL_isSymmetric_11 (tgt := 15) (by decide) ?_
    refine i_last 0 rfl dL_isSymmetric_15 mo9 fo9 (by decide) (by decide) (fun h2 e0_2 e1_2 e2_2 => ?_)
    refine r_goto dL_isSymmetric_16 (tgt := 22) (by decide) ?_
    refine i_const (0) dL_isSymmetric_22 ?_
    refine r_ireturn rfl rfl dL_isSymmetric_23 ?_
    exact ⟨rfl, h9, e9, e0_2, ⟨_, e1_2, by rw [c7]; rfl⟩, e2_2⟩
set_option maxRecDepth 20000 in
set_option maxHeartbeats 1000000 in
theorem l_isSymmetric_I {G : xG} {h : xH} {x o : Nat} {z : Int} (hrv : x_RV G h RX11 x) (hCA : GCA G) (spec : CC G MX11_isSymmetric [.ref x, .int (iI z)] h (fun o9 h9 => o9 = .inr eI ∧ h9 = h)) : CC G ML_isSymmetric [.ref x, .int (iI z), .ref o] h (fun o9 h2 => o9 = .inl (some (.int (iI 1))) ∧ h2 = h) := by
  show RR G ML_isSymmetric 0 [(0, .ref x), (1, .int (iI z)), (2, .ref o)] [] h (xm_R ML_isSymmetric).cells (xm_R ML_isSymmetric).slots (fun o9 h2 => o9 = .inl (some (.int (iI 1))) ∧ h2 = h)
  refine r_aload_n dL_isSymmetric_0 2 rfl ?_
  refine i_const (0) dL_isSymmetric_1 ?_
  refine r_aload_n dL_isSymmetric_2 0 rfl ?_
  refine r_iload_n dL_isSymmetric_3 1 rfl ?_
  refine x_callV (E := eI) (As := [.int (iI z)]) (b := x) (rest := [.int (iI 0), .ref o]) kv_L_isSymmetric_46 dL_isSymmetric_4 rfl rfl (Nat.le_of_ble_eq_true rfl) (Nat.le_of_ble_eq_true rfl) hrv (Nat.le_of_ble_eq_true rfl) (Nat.le_of_ble_eq_true rfl) spec (fun h9 e9 => ?_)
  rw [show h9 = h from e9]
  refine rx_catch [] ⟨0, 16, 19, 18⟩ [] rfl (fun z9 hz9 => absurd hz9 List.not_mem_nil) rfl (by decide) kl_L_18 (hCA.1 eI (by simp)) (fun qe => ?_)
  refine r_astore_n (ls' := [(0, .ref x), (1, .int (iI z)), (2, .ref o), (3, .ref qe)]) dL_isSymmetric_19 (by decide) rfl ?_
  refine i_const (1) dL_isSymmetric_20 ?_
  refine r_ireturn rfl rfl dL_isSymmetric_21 ?_
  exact ⟨rfl, rfl⟩
set_option maxRecDepth 20000 in
set_option maxHeartbeats 1000000 in
theorem l_temperature_ok {G : xG} {h : xH} {x o : Nat} {z : Int} (hrv : x_RV G h RX11 x) {v : Int32} {P : xH → Prop} (spec : CC G MX11_temperature [.ref x, .int (iI z)] h (fun o9 h9 => o9 = .inl (some (.int v)) ∧ P h9)) (hP : ∀ h9, P h9 → o ∈ h9.1 ∧ ∃ g, h9.2 o = .inl (G.2.1 2, 1, .inr (.inl g))) : CC G ML_temperature [.ref x, .int (iI z), .ref o] h (fun o9 h2 => o9 = .inl (some (.int (iI 0))) ∧ ∃ h9, P h9 ∧ h2.1 = h9.1 ∧ (∃ g, h2.2 o = .inl (G.2.1 2, 1, .inr (.inl g)) ∧ g 0 = v.toInt64) ∧ ∀ q9, q9 ≠ o → h2.2 q9 = h9.2 q9) := by
  show RR G ML_temperature 0 [(0, .ref x), (1, .int (iI z)), (2, .ref o)] [] h (xm_R ML_temperature).cells (xm_R ML_temperature).slots (fun o9 h2 => o9 = .inl (some (.int (iI 0))) ∧ ∃ h9, P h9 ∧ h2.1 = h9.1 ∧ (∃ g, h2.2 o = .inl (G.2.1 2, 1, .inr (.inl g)) ∧ g 0 = v.toInt64) ∧ ∀ q9, q9 ≠ o → h2.2 q9 = h9.2 q9)
  refine r_aload_n dL_temperature_0 2 rfl ?_
  refine i_const (0) dL_temperature_1 ?_
  refine r_aload_n dL_temperature_2 0 rfl ?_
  refine r_iload_n dL_temperature_3 1 rfl ?_
  refine k_callV (As := [.int (iI z)]) (b := x) (rest := [.int (iI 0), .ref o]) (w := (some (.int v))) (st' := [.int v, .int (iI 0), .ref o]) kv_L_temperature_50 dL_temperature_4 rfl rfl (Nat.le_of_ble_eq_true rfl) (Nat.le_of_ble_eq_true rfl) hrv (Nat.le_of_ble_eq_true rfl) (Nat.le_of_ble_eq_true rfl) (spec) rfl (fun h9 e9 => ?_)
  obtain ⟨mo9, g9, fo9⟩ := hP h9 e9
  refine r_i2l dL_temperature_7 ?_
  refine i_last 0 rfl dL_temperature_8 mo9 fo9 (by decide) (by decide) (fun h1 e0_1 e1_1 e2_1 => ?_)
  refine r_goto dL_temperature_9 (tgt := 15) (by decide) ?_
  refine i_const (0) dL_temperature_15 ?_
  refine r_ireturn rfl rfl dL_temperature_16 ?_
  exact ⟨rfl, h9, e9, e0_1, ⟨_, e1_1, rfl⟩, e2_1⟩
set_option maxRecDepth 20000 in
set_option maxHeartbeats 1000000 in
theorem l_temperature_I {G : xG} {h : xH} {x o : Nat} {z : Int} (hrv : x_RV G h RX11 x) (hCA : GCA G) (spec : CC G MX11_temperature [.ref x, .int (iI z)] h (fun o9 h9 => o9 = .inr eI ∧ h9 = h)) : CC G ML_temperature [.ref x, .int (iI z), .ref o] h (fun o9 h2 => o9 = .inl (some (.int (iI 1))) ∧ h2 = h) := by
  show RR G ML_temperature 0 [(0, .ref x), (1, .int (iI z)), (2, .ref o)] [] h (xm_R ML_temperature).cells (xm_R ML_temperature).slots (fun o9 h2 => o9 = .inl (some (.int (iI 1))) ∧ h2 = h)
  refine r_aload_n dL_temperature_0 2 rfl ?_
  refine i_const (0) dL_temperature_1 ?_
  refine r_aload_n dL_temperature_2 0 rfl ?_
  refine r_iload_n dL_temperature_3 1 rfl ?_
  refine x_callV (E := eI) (As := [.int (iI z)]) (b := x) (rest := [.int (iI 0), .ref o]) kv_L_temperature_50 dL_temperature_4 rfl rfl (Nat.le_of_ble_eq_true rfl) (Nat.le_of_ble_eq_true rfl) hrv (Nat.le_of_ble_eq_true rfl) (Nat.le_of_ble_eq_true rfl) spec (fun h9 e9 => ?_)
  rw [show h9 = h from e9]
  refine rx_catch [] ⟨0, 9, 12, 18⟩ [] rfl (fun z9 hz9 => absurd hz9 List.not_mem_nil) rfl (by decide) kl_L_18 (hCA.1 eI (by simp)) (fun qe => ?_)
  refine r_astore_n (ls' := [(0, .ref x), (1, .int (iI z)), (2, .ref o), (3, .ref qe)]) dL_temperature_12 (by decide) rfl ?_
  refine i_const (1) dL_temperature_13 ?_
  refine r_ireturn rfl rfl dL_temperature_14 ?_
  exact ⟨rfl, rfl⟩
set_option maxRecDepth 20000 in
set_option maxHeartbeats 1000000 in
theorem l_isDusted_ok {G : xG} {h : xH} {x o : Nat} {z : Int} (hrv : x_RV G h RX11 x) {v : Bool} {P : xH → Prop} (spec : CC G MX11_isDusted [.ref x, .int (iI z)] h (fun o9 h9 => o9 = .inl (some (.int (iI (b2 v)))) ∧ P h9)) (hP : ∀ h9, P h9 → o ∈ h9.1 ∧ ∃ g, h9.2 o = .inl (G.2.1 2, 1, .inr (.inl g))) : CC G ML_isDusted [.ref x, .int (iI z), .ref o] h (fun o9 h2 => o9 = .inl (some (.int (iI 0))) ∧ ∃ h9, P h9 ∧ h2.1 = h9.1 ∧ (∃ g, h2.2 o = .inl (G.2.1 2, 1, .inr (.inl g)) ∧ g 0 = lB v) ∧ ∀ q9, q9 ≠ o → h2.2 q9 = h9.2 q9) := by
  show RR G ML_isDusted 0 [(0, .ref x), (1, .int (iI z)), (2, .ref o)] [] h (xm_R ML_isDusted).cells (xm_R ML_isDusted).slots (fun o9 h2 => o9 = .inl (some (.int (iI 0))) ∧ ∃ h9, P h9 ∧ h2.1 = h9.1 ∧ (∃ g, h2.2 o = .inl (G.2.1 2, 1, .inr (.inl g)) ∧ g 0 = lB v) ∧ ∀ q9, q9 ≠ o → h2.2 q9 = h9.2 q9)
  refine r_aload_n dL_isDusted_0 2 rfl ?_
  refine i_const (0) dL_isDusted_1 ?_
  refine r_aload_n dL_isDusted_2 0 rfl ?_
  refine r_iload_n dL_isDusted_3 1 rfl ?_
  refine k_callV (As := [.int (iI z)]) (b := x) (rest := [.int (iI 0), .ref o]) (w := (some (.int (iI (b2 v))))) (st' := [.int (iI (b2 v)), .int (iI 0), .ref o]) kv_L_isDusted_53 dL_isDusted_4 rfl rfl (Nat.le_of_ble_eq_true rfl) (Nat.le_of_ble_eq_true rfl) hrv (Nat.le_of_ble_eq_true rfl) (Nat.le_of_ble_eq_true rfl) (spec) rfl (fun h9 e9 => ?_)
  obtain ⟨mo9, g9, fo9⟩ := hP h9 e9
  refine i_ifeqb dL_isDusted_7 (tgt := 14) (by decide) (fun c7 => ?_) (fun c7 => ?_)
  · refine r_lconst dL_isDusted_14 ?_
    refine i_last 0 rfl dL_isDusted_15 mo9 fo9 (by decide) (by decide) (fun h1 e0_1 e1_1 e2_1 => ?_)
    refine r_goto dL_isDusted_16 (tgt := 22) (by decide) ?_
    refine i_const (0) dL_isDusted_22 ?_
    refine r_ireturn rfl rfl dL_isDusted_23 ?_
    exact ⟨rfl, h9, e9, e0_1, ⟨_, e1_1, by rw [c7]; rfl⟩, e2_1⟩
  · refine r_lconst dL_isDusted_10 ?_
    refine r_goto dL_isDusted_11 (tgt := 15) (by decide) ?_
    refine i_last 0 rfl dL_isDusted_15 mo9 fo9 (by decide) (by decide) (fun h2 e0_2 e1_2 e2_2 => ?_)
    refine r_goto dL_isDusted_16 (tgt := 22) (by decide) ?_
    refine i_const (0) dL_isDusted_22 ?_
    refine r_ireturn rfl rfl dL_isDusted_23 ?_
    exact ⟨rfl, h9, e9, e0_2, ⟨_, e1_2, by rw [c7]; rfl⟩, e2_2⟩
set_option maxRecDepth 20000 in
set_option maxHeartbeats 1000000 in
theorem l_isDusted_I {G : xG} {h : xH} {x o : Nat} {z : Int} (hrv : x_RV G h RX11 x) (hCA : GCA G) (spec : CC G MX11_isDusted [.ref x, .int (iI z)] h (fun o9 h9 => o9 = .inr eI ∧ h9 = h)) : CC G ML_isDusted [.ref x, .int (iI z), .ref o] h (fun o9 h2 => o9 = .inl (some (.int (iI 1))) ∧ h2 = h) := by
  show RR G ML_isDusted 0 [(0, .ref x), (1, .int (iI z)), (2, .ref o)] [] h (xm_R ML_isDusted).cells (xm_R ML_isDusted).slots (fun o9 h2 => o9 = .inl (some (.int (iI 1))) ∧ h2 = h)
  refine r_aload_n dL_isDusted_0 2 rfl ?_
  refine i_const (0) dL_isDusted_1 ?_
  refine r_aload_n dL_isDusted_2 0 rfl ?_
  refine r_iload_n dL_isDusted_3 1 rfl ?_
  refine x_callV (E := eI) (As := [.int (iI z)]) (b := x) (rest := [.int (iI 0), .ref o]) kv_L_isDusted_53 dL_isDusted_4 rfl rfl (Nat.le_of_ble_eq_true rfl) (Nat.le_of_ble_eq_true rfl) hrv (Nat.le_of_ble_eq_true rfl) (Nat.le_of_ble_eq_true rfl) spec (fun h9 e9 => ?_)
  rw [show h9 = h from e9]
  refine rx_catch [] ⟨0, 16, 19, 18⟩ [] rfl (fun z9 hz9 => absurd hz9 List.not_mem_nil) rfl (by decide) kl_L_18 (hCA.1 eI (by simp)) (fun qe => ?_)
  refine r_astore_n (ls' := [(0, .ref x), (1, .int (iI z)), (2, .ref o), (3, .ref qe)]) dL_isDusted_19 (by decide) rfl ?_
  refine i_const (1) dL_isDusted_20 ?_
  refine r_ireturn rfl rfl dL_isDusted_21 ?_
  exact ⟨rfl, rfl⟩
set_option maxRecDepth 20000 in
set_option maxHeartbeats 1000000 in
theorem l_isSealed_ok {G : xG} {h : xH} {x o : Nat} {z : Int} (hrv : x_RV G h RX11 x) {v : Bool} {P : xH → Prop} (spec : CC G MX11_isSealed [.ref x, .int (iI z)] h (fun o9 h9 => o9 = .inl (some (.int (iI (b2 v)))) ∧ P h9)) (hP : ∀ h9, P h9 → o ∈ h9.1 ∧ ∃ g, h9.2 o = .inl (G.2.1 2, 1, .inr (.inl g))) : CC G ML_isSealed [.ref x, .int (iI z), .ref o] h (fun o9 h2 => o9 = .inl (some (.int (iI 0))) ∧ ∃ h9, P h9 ∧ h2.1 = h9.1 ∧ (∃ g, h2.2 o = .inl (G.2.1 2, 1, .inr (.inl g)) ∧ g 0 = lB v) ∧ ∀ q9, q9 ≠ o → h2.2 q9 = h9.2 q9) := by
  show RR G ML_isSealed 0 [(0, .ref x), (1, .int (iI z)), (2, .ref o)] [] h (xm_R ML_isSealed).cells (xm_R ML_isSealed).slots (fun o9 h2 => o9 = .inl (some (.int (iI 0))) ∧ ∃ h9, P h9 ∧ h2.1 = h9.1 ∧ (∃ g, h2.2 o = .inl (G.2.1 2, 1, .inr (.inl g)) ∧ g 0 = lB v) ∧ ∀ q9, q9 ≠ o → h2.2 q9 = h9.2 q9)
  refine r_aload_n dL_isSealed_0 2 rfl ?_
  refine i_const (0) dL_isSealed_1 ?_
  refine r_aload_n dL_isSealed_2 0 rfl ?_
  refine r_iload_n dL_isSealed_3 1 rfl ?_
  refine k_callV (As := [.int (iI z)]) (b := x) (rest := [.int (iI 0), .ref o]) (w := (some (.int (iI (b2 v))))) (st' := [.int (iI (b2 v)), .int (iI 0), .ref o]) kv_L_isSealed_56 dL_isSealed_4 rfl rfl (Nat.le_of_ble_eq_true rfl) (Nat.le_of_ble_eq_true rfl) hrv (Nat.le_of_ble_eq_true rfl) (Nat.le_of_ble_eq_true rfl) (spec) rfl (fun h9 e9 => ?_)
  obtain ⟨mo9, g9, fo9⟩ := hP h9 e9
  refine i_ifeqb dL_isSealed_7 (tgt := 14) (by decide) (fun c7 => ?_) (fun c7 => ?_)
  · refine r_lconst dL_isSealed_14 ?_
    refine i_last 0 rfl dL_isSealed_15 mo9 fo9 (by decide) (by decide) (fun h1 e0_1 e1_1 e2_1 => ?_)
    refine r_goto dL_isSealed_16 (tgt := 22) (by decide) ?_
    refine i_const (0) dL_isSealed_22 ?_
    refine r_ireturn rfl rfl dL_isSealed_23 ?_
    exact ⟨rfl, h9, e9, e0_1, ⟨_, e1_1, by rw [c7]; rfl⟩, e2_1⟩
  · refine r_lconst dL_isSealed_10 ?_
    refine r_goto dL_isSealed_11 (tgt := 15) (by decide) ?_
    refine i_last 0 rfl dL_isSealed_15 mo9 fo9 (by decide) (by decide) (fun h2 e0_2 e1_2 e2_2 => ?_)
    refine r_goto dL_isSealed_16 (tgt := 22) (by decide) ?_
    refine i_const (0) dL_isSealed_22 ?_
    refine r_ireturn rfl rfl dL_isSealed_23 ?_
    exact ⟨rfl, h9, e9, e0_2, ⟨_, e1_2, by rw [c7]; rfl⟩, e2_2⟩
set_option maxRecDepth 20000 in
set_option maxHeartbeats 1000000 in
theorem l_isSealed_I {G : xG} {h : xH} {x o : Nat} {z : Int} (hrv : x_RV G h RX11 x) (hCA : GCA G) (spec : CC G MX11_isSealed [.ref x, .int (iI z)] h (fun o9 h9 => o9 = .inr eI ∧ h9 = h)) : CC G ML_isSealed [.ref x, .int (iI z), .ref o] h (fun o9 h2 => o9 = .inl (some (.int (iI 1))) ∧ h2 = h) := by
  show RR G ML_isSealed 0 [(0, .ref x), (1, .int (iI z)), (2, .ref o)] [] h (xm_R ML_isSealed).cells (xm_R ML_isSealed).slots (fun o9 h2 => o9 = .inl (some (.int (iI 1))) ∧ h2 = h)
  refine r_aload_n dL_isSealed_0 2 rfl ?_
  refine i_const (0) dL_isSealed_1 ?_
  refine r_aload_n dL_isSealed_2 0 rfl ?_
  refine r_iload_n dL_isSealed_3 1 rfl ?_
  refine x_callV (E := eI) (As := [.int (iI z)]) (b := x) (rest := [.int (iI 0), .ref o]) kv_L_isSealed_56 dL_isSealed_4 rfl rfl (Nat.le_of_ble_eq_true rfl) (Nat.le_of_ble_eq_true rfl) hrv (Nat.le_of_ble_eq_true rfl) (Nat.le_of_ble_eq_true rfl) spec (fun h9 e9 => ?_)
  rw [show h9 = h from e9]
  refine rx_catch [] ⟨0, 16, 19, 18⟩ [] rfl (fun z9 hz9 => absurd hz9 List.not_mem_nil) rfl (by decide) kl_L_18 (hCA.1 eI (by simp)) (fun qe => ?_)
  refine r_astore_n (ls' := [(0, .ref x), (1, .int (iI z)), (2, .ref o), (3, .ref qe)]) dL_isSealed_19 (by decide) rfl ?_
  refine i_const (1) dL_isSealed_20 ?_
  refine r_ireturn rfl rfl dL_isSealed_21 ?_
  exact ⟨rfl, rfl⟩
set_option maxRecDepth 20000 in
set_option maxHeartbeats 1000000 in
theorem l_isCooling_ok {G : xG} {h : xH} {x o : Nat} {z : Int} (hrv : x_RV G h RX11 x) {v : Bool} {P : xH → Prop} (spec : CC G MX11_isCooling [.ref x, .int (iI z)] h (fun o9 h9 => o9 = .inl (some (.int (iI (b2 v)))) ∧ P h9)) (hP : ∀ h9, P h9 → o ∈ h9.1 ∧ ∃ g, h9.2 o = .inl (G.2.1 2, 1, .inr (.inl g))) : CC G ML_isCooling [.ref x, .int (iI z), .ref o] h (fun o9 h2 => o9 = .inl (some (.int (iI 0))) ∧ ∃ h9, P h9 ∧ h2.1 = h9.1 ∧ (∃ g, h2.2 o = .inl (G.2.1 2, 1, .inr (.inl g)) ∧ g 0 = lB v) ∧ ∀ q9, q9 ≠ o → h2.2 q9 = h9.2 q9) := by
  show RR G ML_isCooling 0 [(0, .ref x), (1, .int (iI z)), (2, .ref o)] [] h (xm_R ML_isCooling).cells (xm_R ML_isCooling).slots (fun o9 h2 => o9 = .inl (some (.int (iI 0))) ∧ ∃ h9, P h9 ∧ h2.1 = h9.1 ∧ (∃ g, h2.2 o = .inl (G.2.1 2, 1, .inr (.inl g)) ∧ g 0 = lB v) ∧ ∀ q9, q9 ≠ o → h2.2 q9 = h9.2 q9)
  refine r_aload_n dL_isCooling_0 2 rfl ?_
  refine i_const (0) dL_isCooling_1 ?_
  refine r_aload_n dL_isCooling_2 0 rfl ?_
  refine r_iload_n dL_isCooling_3 1 rfl ?_
  refine k_callV (As := [.int (iI z)]) (b := x) (rest := [.int (iI 0), .ref o]) (w := (some (.int (iI (b2 v))))) (st' := [.int (iI (b2 v)), .int (iI 0), .ref o]) kv_L_isCooling_59 dL_isCooling_4 rfl rfl (Nat.le_of_ble_eq_true rfl) (Nat.le_of_ble_eq_true rfl) hrv (Nat.le_of_ble_eq_true rfl) (Nat.le_of_ble_eq_true rfl) (spec) rfl (fun h9 e9 => ?_)
  obtain ⟨mo9, g9, fo9⟩ := hP h9 e9
  refine i_ifeqb dL_isCooling_7 (tgt := 14) (by decide) (fun c7 => ?_) (fun c7 => ?_)
  · refine r_lconst dL_isCooling_14 ?_
    refine i_last 0 rfl dL_isCooling_15 mo9 fo9 (by decide) (by decide) (fun h1 e0_1 e1_1 e2_1 => ?_)
    refine r_goto dL_isCooling_16 (tgt := 22) (by decide) ?_
    refine i_const (0) dL_isCooling_22 ?_
    refine r_ireturn rfl rfl dL_isCooling_23 ?_
    exact ⟨rfl, h9, e9, e0_1, ⟨_, e1_1, by rw [c7]; rfl⟩, e2_1⟩
  · refine r_lconst dL_isCooling_10 ?_
    refine r_goto dL_isCooling_11 (tgt := 15) (by decide) ?_
    refine i_last 0 rfl dL_isCooling_15 mo9 fo9 (by decide) (by decide) (fun h2 e0_2 e1_2 e2_2 => ?_)
    refine r_goto dL_isCooling_16 (tgt := 22) (by decide) ?_
    refine i_const (0) dL_isCooling_22 ?_
    refine r_ireturn rfl rfl dL_isCooling_23 ?_
    exact ⟨rfl, h9, e9, e0_2, ⟨_, e1_2, by rw [c7]; rfl⟩, e2_2⟩
set_option maxRecDepth 20000 in
set_option maxHeartbeats 1000000 in
theorem l_isCooling_I {G : xG} {h : xH} {x o : Nat} {z : Int} (hrv : x_RV G h RX11 x) (hCA : GCA G) (spec : CC G MX11_isCooling [.ref x, .int (iI z)] h (fun o9 h9 => o9 = .inr eI ∧ h9 = h)) : CC G ML_isCooling [.ref x, .int (iI z), .ref o] h (fun o9 h2 => o9 = .inl (some (.int (iI 1))) ∧ h2 = h) := by
  show RR G ML_isCooling 0 [(0, .ref x), (1, .int (iI z)), (2, .ref o)] [] h (xm_R ML_isCooling).cells (xm_R ML_isCooling).slots (fun o9 h2 => o9 = .inl (some (.int (iI 1))) ∧ h2 = h)
  refine r_aload_n dL_isCooling_0 2 rfl ?_
  refine i_const (0) dL_isCooling_1 ?_
  refine r_aload_n dL_isCooling_2 0 rfl ?_
  refine r_iload_n dL_isCooling_3 1 rfl ?_
  refine x_callV (E := eI) (As := [.int (iI z)]) (b := x) (rest := [.int (iI 0), .ref o]) kv_L_isCooling_59 dL_isCooling_4 rfl rfl (Nat.le_of_ble_eq_true rfl) (Nat.le_of_ble_eq_true rfl) hrv (Nat.le_of_ble_eq_true rfl) (Nat.le_of_ble_eq_true rfl) spec (fun h9 e9 => ?_)
  rw [show h9 = h from e9]
  refine rx_catch [] ⟨0, 16, 19, 18⟩ [] rfl (fun z9 hz9 => absurd hz9 List.not_mem_nil) rfl (by decide) kl_L_18 (hCA.1 eI (by simp)) (fun qe => ?_)
  refine r_astore_n (ls' := [(0, .ref x), (1, .int (iI z)), (2, .ref o), (3, .ref qe)]) dL_isCooling_19 (by decide) rfl ?_
  refine i_const (1) dL_isCooling_20 ?_
  refine r_ireturn rfl rfl dL_isCooling_21 ?_
  exact ⟨rfl, rfl⟩
set_option maxRecDepth 20000 in
set_option maxHeartbeats 1000000 in
theorem l_foldCount_ok {G : xG} {h : xH} {x o : Nat} {z : Int} (hrv : x_RV G h RX11 x) {v : Int32} {P : xH → Prop} (spec : CC G MX11_foldCount [.ref x, .int (iI z)] h (fun o9 h9 => o9 = .inl (some (.int v)) ∧ P h9)) (hP : ∀ h9, P h9 → o ∈ h9.1 ∧ ∃ g, h9.2 o = .inl (G.2.1 2, 1, .inr (.inl g))) : CC G ML_foldCount [.ref x, .int (iI z), .ref o] h (fun o9 h2 => o9 = .inl (some (.int (iI 0))) ∧ ∃ h9, P h9 ∧ h2.1 = h9.1 ∧ (∃ g, h2.2 o = .inl (G.2.1 2, 1, .inr (.inl g)) ∧ g 0 = v.toInt64) ∧ ∀ q9, q9 ≠ o → h2.2 q9 = h9.2 q9) := by
  show RR G ML_foldCount 0 [(0, .ref x), (1, .int (iI z)), (2, .ref o)] [] h (xm_R ML_foldCount).cells (xm_R ML_foldCount).slots (fun o9 h2 => o9 = .inl (some (.int (iI 0))) ∧ ∃ h9, P h9 ∧ h2.1 = h9.1 ∧ (∃ g, h2.2 o = .inl (G.2.1 2, 1, .inr (.inl g)) ∧ g 0 = v.toInt64) ∧ ∀ q9, q9 ≠ o → h2.2 q9 = h9.2 q9)
  refine r_aload_n dL_foldCount_0 2 rfl ?_
  refine i_const (0) dL_foldCount_1 ?_
  refine r_aload_n dL_foldCount_2 0 rfl ?_
  refine r_iload_n dL_foldCount_3 1 rfl ?_
  refine k_callV (As := [.int (iI z)]) (b := x) (rest := [.int (iI 0), .ref o]) (w := (some (.int v))) (st' := [.int v, .int (iI 0), .ref o]) kv_L_foldCount_62 dL_foldCount_4 rfl rfl (Nat.le_of_ble_eq_true rfl) (Nat.le_of_ble_eq_true rfl) hrv (Nat.le_of_ble_eq_true rfl) (Nat.le_of_ble_eq_true rfl) (spec) rfl (fun h9 e9 => ?_)
  obtain ⟨mo9, g9, fo9⟩ := hP h9 e9
  refine r_i2l dL_foldCount_7 ?_
  refine i_last 0 rfl dL_foldCount_8 mo9 fo9 (by decide) (by decide) (fun h1 e0_1 e1_1 e2_1 => ?_)
  refine r_goto dL_foldCount_9 (tgt := 15) (by decide) ?_
  refine i_const (0) dL_foldCount_15 ?_
  refine r_ireturn rfl rfl dL_foldCount_16 ?_
  exact ⟨rfl, h9, e9, e0_1, ⟨_, e1_1, rfl⟩, e2_1⟩
set_option maxRecDepth 20000 in
set_option maxHeartbeats 1000000 in
theorem l_foldCount_I {G : xG} {h : xH} {x o : Nat} {z : Int} (hrv : x_RV G h RX11 x) (hCA : GCA G) (spec : CC G MX11_foldCount [.ref x, .int (iI z)] h (fun o9 h9 => o9 = .inr eI ∧ h9 = h)) : CC G ML_foldCount [.ref x, .int (iI z), .ref o] h (fun o9 h2 => o9 = .inl (some (.int (iI 1))) ∧ h2 = h) := by
  show RR G ML_foldCount 0 [(0, .ref x), (1, .int (iI z)), (2, .ref o)] [] h (xm_R ML_foldCount).cells (xm_R ML_foldCount).slots (fun o9 h2 => o9 = .inl (some (.int (iI 1))) ∧ h2 = h)
  refine r_aload_n dL_foldCount_0 2 rfl ?_
  refine i_const (0) dL_foldCount_1 ?_
  refine r_aload_n dL_foldCount_2 0 rfl ?_
  refine r_iload_n dL_foldCount_3 1 rfl ?_
  refine x_callV (E := eI) (As := [.int (iI z)]) (b := x) (rest := [.int (iI 0), .ref o]) kv_L_foldCount_62 dL_foldCount_4 rfl rfl (Nat.le_of_ble_eq_true rfl) (Nat.le_of_ble_eq_true rfl) hrv (Nat.le_of_ble_eq_true rfl) (Nat.le_of_ble_eq_true rfl) spec (fun h9 e9 => ?_)
  rw [show h9 = h from e9]
  refine rx_catch [] ⟨0, 9, 12, 18⟩ [] rfl (fun z9 hz9 => absurd hz9 List.not_mem_nil) rfl (by decide) kl_L_18 (hCA.1 eI (by simp)) (fun qe => ?_)
  refine r_astore_n (ls' := [(0, .ref x), (1, .int (iI z)), (2, .ref o), (3, .ref qe)]) dL_foldCount_12 (by decide) rfl ?_
  refine i_const (1) dL_foldCount_13 ?_
  refine r_ireturn rfl rfl dL_foldCount_14 ?_
  exact ⟨rfl, rfl⟩
set_option maxRecDepth 20000 in
set_option maxHeartbeats 1000000 in
theorem l_expectedLayers_ok {G : xG} {h : xH} {x o : Nat} {z : Int} (hrv : x_RV G h RX11 x) {v : Int32} {P : xH → Prop} (spec : CC G MX11_expectedLayers [.ref x, .int (iI z)] h (fun o9 h9 => o9 = .inl (some (.int v)) ∧ P h9)) (hP : ∀ h9, P h9 → o ∈ h9.1 ∧ ∃ g, h9.2 o = .inl (G.2.1 2, 1, .inr (.inl g))) : CC G ML_expectedLayers [.ref x, .int (iI z), .ref o] h (fun o9 h2 => o9 = .inl (some (.int (iI 0))) ∧ ∃ h9, P h9 ∧ h2.1 = h9.1 ∧ (∃ g, h2.2 o = .inl (G.2.1 2, 1, .inr (.inl g)) ∧ g 0 = v.toInt64) ∧ ∀ q9, q9 ≠ o → h2.2 q9 = h9.2 q9) := by
  show RR G ML_expectedLayers 0 [(0, .ref x), (1, .int (iI z)), (2, .ref o)] [] h (xm_R ML_expectedLayers).cells (xm_R ML_expectedLayers).slots (fun o9 h2 => o9 = .inl (some (.int (iI 0))) ∧ ∃ h9, P h9 ∧ h2.1 = h9.1 ∧ (∃ g, h2.2 o = .inl (G.2.1 2, 1, .inr (.inl g)) ∧ g 0 = v.toInt64) ∧ ∀ q9, q9 ≠ o → h2.2 q9 = h9.2 q9)
  refine r_aload_n dL_expectedLayers_0 2 rfl ?_
  refine i_const (0) dL_expectedLayers_1 ?_
  refine r_aload_n dL_expectedLayers_2 0 rfl ?_
  refine r_iload_n dL_expectedLayers_3 1 rfl ?_
  refine k_callV (As := [.int (iI z)]) (b := x) (rest := [.int (iI 0), .ref o]) (w := (some (.int v))) (st' := [.int v, .int (iI 0), .ref o]) kv_L_expectedLayers_65 dL_expectedLayers_4 rfl rfl (Nat.le_of_ble_eq_true rfl) (Nat.le_of_ble_eq_true rfl) hrv (Nat.le_of_ble_eq_true rfl) (Nat.le_of_ble_eq_true rfl) (spec) rfl (fun h9 e9 => ?_)
  obtain ⟨mo9, g9, fo9⟩ := hP h9 e9
  refine r_i2l dL_expectedLayers_7 ?_
  refine i_last 0 rfl dL_expectedLayers_8 mo9 fo9 (by decide) (by decide) (fun h1 e0_1 e1_1 e2_1 => ?_)
  refine r_goto dL_expectedLayers_9 (tgt := 15) (by decide) ?_
  refine i_const (0) dL_expectedLayers_15 ?_
  refine r_ireturn rfl rfl dL_expectedLayers_16 ?_
  exact ⟨rfl, h9, e9, e0_1, ⟨_, e1_1, rfl⟩, e2_1⟩
set_option maxRecDepth 20000 in
set_option maxHeartbeats 1000000 in
theorem l_expectedLayers_I {G : xG} {h : xH} {x o : Nat} {z : Int} (hrv : x_RV G h RX11 x) (hCA : GCA G) (spec : CC G MX11_expectedLayers [.ref x, .int (iI z)] h (fun o9 h9 => o9 = .inr eI ∧ h9 = h)) : CC G ML_expectedLayers [.ref x, .int (iI z), .ref o] h (fun o9 h2 => o9 = .inl (some (.int (iI 1))) ∧ h2 = h) := by
  show RR G ML_expectedLayers 0 [(0, .ref x), (1, .int (iI z)), (2, .ref o)] [] h (xm_R ML_expectedLayers).cells (xm_R ML_expectedLayers).slots (fun o9 h2 => o9 = .inl (some (.int (iI 1))) ∧ h2 = h)
  refine r_aload_n dL_expectedLayers_0 2 rfl ?_
  refine i_const (0) dL_expectedLayers_1 ?_
  refine r_aload_n dL_expectedLayers_2 0 rfl ?_
  refine r_iload_n dL_expectedLayers_3 1 rfl ?_
  refine x_callV (E := eI) (As := [.int (iI z)]) (b := x) (rest := [.int (iI 0), .ref o]) kv_L_expectedLayers_65 dL_expectedLayers_4 rfl rfl (Nat.le_of_ble_eq_true rfl) (Nat.le_of_ble_eq_true rfl) hrv (Nat.le_of_ble_eq_true rfl) (Nat.le_of_ble_eq_true rfl) spec (fun h9 e9 => ?_)
  rw [show h9 = h from e9]
  refine rx_catch [] ⟨0, 9, 12, 18⟩ [] rfl (fun z9 hz9 => absurd hz9 List.not_mem_nil) rfl (by decide) kl_L_18 (hCA.1 eI (by simp)) (fun qe => ?_)
  refine r_astore_n (ls' := [(0, .ref x), (1, .int (iI z)), (2, .ref o), (3, .ref qe)]) dL_expectedLayers_12 (by decide) rfl ?_
  refine i_const (1) dL_expectedLayers_13 ?_
  refine r_ireturn rfl rfl dL_expectedLayers_14 ?_
  exact ⟨rfl, rfl⟩
set_option maxRecDepth 20000 in
set_option maxHeartbeats 1000000 in
theorem l_butterShare_ok {G : xG} {h : xH} {x d : Nat} {z : Int} (hrv : x_RV G h RX11 x) {v : UInt32} (hv : vf_n32 v) {P : xH → Prop} (spec : CC G MX11_butterShare [.ref x, .int (iI z)] h (fun o9 h9 => o9 = .inl (some (.float v)) ∧ P h9)) (hP : ∀ h9, P h9 → d ∈ h9.1 ∧ ∃ g, h9.2 d = .inl (G.2.1 3, 1, .inr (.inr (.inr (.inl g))))) : CC G ML_butterShare [.ref x, .int (iI z), .ref d] h (fun o9 h2 => o9 = .inl (some (.int (iI 0))) ∧ ∃ h9, P h9 ∧ h2.1 = h9.1 ∧ (∃ g, h2.2 d = .inl (G.2.1 3, 1, .inr (.inr (.inr (.inl g)))) ∧ g 0 = FP.f2d v) ∧ ∀ q9, q9 ≠ d → h2.2 q9 = h9.2 q9) := by
  show RR G ML_butterShare 0 [(0, .ref x), (1, .int (iI z)), (2, .ref d)] [] h (xm_R ML_butterShare).cells (xm_R ML_butterShare).slots (fun o9 h2 => o9 = .inl (some (.int (iI 0))) ∧ ∃ h9, P h9 ∧ h2.1 = h9.1 ∧ (∃ g, h2.2 d = .inl (G.2.1 3, 1, .inr (.inr (.inr (.inl g)))) ∧ g 0 = FP.f2d v) ∧ ∀ q9, q9 ≠ d → h2.2 q9 = h9.2 q9)
  refine r_aload_n dL_butterShare_0 2 rfl ?_
  refine i_const (0) dL_butterShare_1 ?_
  refine r_aload_n dL_butterShare_2 0 rfl ?_
  refine r_iload_n dL_butterShare_3 1 rfl ?_
  refine k_callV (As := [.int (iI z)]) (b := x) (rest := [.int (iI 0), .ref d]) (w := (some (.float v))) (st' := [.float v, .int (iI 0), .ref d]) kv_L_butterShare_68 dL_butterShare_4 rfl rfl (Nat.le_of_ble_eq_true rfl) (Nat.le_of_ble_eq_true rfl) hrv (Nat.le_of_ble_eq_true rfl) (Nat.le_of_ble_eq_true rfl) (spec) rfl (fun h9 e9 => ?_)
  obtain ⟨mo9, g9, fo9⟩ := hP h9 e9
  refine r_f2d dL_butterShare_7 (f2d_nn hv) ?_
  refine i_dast 0 rfl dL_butterShare_8 mo9 fo9 (by decide) (by decide) (fun h1 e0_1 e1_1 e2_1 => ?_)
  refine r_goto dL_butterShare_9 (tgt := 15) (by decide) ?_
  refine i_const (0) dL_butterShare_15 ?_
  refine r_ireturn rfl rfl dL_butterShare_16 ?_
  exact ⟨rfl, h9, e9, e0_1, ⟨_, e1_1, rfl⟩, e2_1⟩
set_option maxRecDepth 20000 in
set_option maxHeartbeats 1000000 in
theorem l_butterShare_I {G : xG} {h : xH} {x d : Nat} {z : Int} (hrv : x_RV G h RX11 x) (hCA : GCA G) (spec : CC G MX11_butterShare [.ref x, .int (iI z)] h (fun o9 h9 => o9 = .inr eI ∧ h9 = h)) : CC G ML_butterShare [.ref x, .int (iI z), .ref d] h (fun o9 h2 => o9 = .inl (some (.int (iI 1))) ∧ h2 = h) := by
  show RR G ML_butterShare 0 [(0, .ref x), (1, .int (iI z)), (2, .ref d)] [] h (xm_R ML_butterShare).cells (xm_R ML_butterShare).slots (fun o9 h2 => o9 = .inl (some (.int (iI 1))) ∧ h2 = h)
  refine r_aload_n dL_butterShare_0 2 rfl ?_
  refine i_const (0) dL_butterShare_1 ?_
  refine r_aload_n dL_butterShare_2 0 rfl ?_
  refine r_iload_n dL_butterShare_3 1 rfl ?_
  refine x_callV (E := eI) (As := [.int (iI z)]) (b := x) (rest := [.int (iI 0), .ref d]) kv_L_butterShare_68 dL_butterShare_4 rfl rfl (Nat.le_of_ble_eq_true rfl) (Nat.le_of_ble_eq_true rfl) hrv (Nat.le_of_ble_eq_true rfl) (Nat.le_of_ble_eq_true rfl) spec (fun h9 e9 => ?_)
  rw [show h9 = h from e9]
  refine rx_catch [] ⟨0, 9, 12, 18⟩ [] rfl (fun z9 hz9 => absurd hz9 List.not_mem_nil) rfl (by decide) kl_L_18 (hCA.1 eI (by simp)) (fun qe => ?_)
  refine r_astore_n (ls' := [(0, .ref x), (1, .int (iI z)), (2, .ref d), (3, .ref qe)]) dL_butterShare_12 (by decide) rfl ?_
  refine i_const (1) dL_butterShare_13 ?_
  refine r_ireturn rfl rfl dL_butterShare_14 ?_
  exact ⟨rfl, rfl⟩
set_option maxRecDepth 20000 in
set_option maxHeartbeats 1000000 in
theorem l_meanThickness_ok {G : xG} {h : xH} {x d : Nat} {z : Int} (hrv : x_RV G h RX11 x) {v : UInt64} {P : xH → Prop} (spec : CC G MX11_meanThickness [.ref x, .int (iI z)] h (fun o9 h9 => o9 = .inl (some (.double v)) ∧ P h9)) (hP : ∀ h9, P h9 → d ∈ h9.1 ∧ ∃ g, h9.2 d = .inl (G.2.1 3, 1, .inr (.inr (.inr (.inl g))))) : CC G ML_meanThickness [.ref x, .int (iI z), .ref d] h (fun o9 h2 => o9 = .inl (some (.int (iI 0))) ∧ ∃ h9, P h9 ∧ h2.1 = h9.1 ∧ (∃ g, h2.2 d = .inl (G.2.1 3, 1, .inr (.inr (.inr (.inl g)))) ∧ g 0 = v) ∧ ∀ q9, q9 ≠ d → h2.2 q9 = h9.2 q9) := by
  show RR G ML_meanThickness 0 [(0, .ref x), (1, .int (iI z)), (2, .ref d)] [] h (xm_R ML_meanThickness).cells (xm_R ML_meanThickness).slots (fun o9 h2 => o9 = .inl (some (.int (iI 0))) ∧ ∃ h9, P h9 ∧ h2.1 = h9.1 ∧ (∃ g, h2.2 d = .inl (G.2.1 3, 1, .inr (.inr (.inr (.inl g)))) ∧ g 0 = v) ∧ ∀ q9, q9 ≠ d → h2.2 q9 = h9.2 q9)
  refine r_aload_n dL_meanThickness_0 2 rfl ?_
  refine i_const (0) dL_meanThickness_1 ?_
  refine r_aload_n dL_meanThickness_2 0 rfl ?_
  refine r_iload_n dL_meanThickness_3 1 rfl ?_
  refine k_callV (As := [.int (iI z)]) (b := x) (rest := [.int (iI 0), .ref d]) (w := (some (.double v))) (st' := [.double v, .int (iI 0), .ref d]) kv_L_meanThickness_72 dL_meanThickness_4 rfl rfl (Nat.le_of_ble_eq_true rfl) (Nat.le_of_ble_eq_true rfl) hrv (Nat.le_of_ble_eq_true rfl) (Nat.le_of_ble_eq_true rfl) (spec) rfl (fun h9 e9 => ?_)
  obtain ⟨mo9, g9, fo9⟩ := hP h9 e9
  refine i_dast 0 rfl dL_meanThickness_7 mo9 fo9 (by decide) (by decide) (fun h1 e0_1 e1_1 e2_1 => ?_)
  refine r_goto dL_meanThickness_8 (tgt := 14) (by decide) ?_
  refine i_const (0) dL_meanThickness_14 ?_
  refine r_ireturn rfl rfl dL_meanThickness_15 ?_
  exact ⟨rfl, h9, e9, e0_1, ⟨_, e1_1, rfl⟩, e2_1⟩
set_option maxRecDepth 20000 in
set_option maxHeartbeats 1000000 in
theorem l_meanThickness_I {G : xG} {h : xH} {x d : Nat} {z : Int} (hrv : x_RV G h RX11 x) (hCA : GCA G) (spec : CC G MX11_meanThickness [.ref x, .int (iI z)] h (fun o9 h9 => o9 = .inr eI ∧ h9 = h)) : CC G ML_meanThickness [.ref x, .int (iI z), .ref d] h (fun o9 h2 => o9 = .inl (some (.int (iI 1))) ∧ h2 = h) := by
  show RR G ML_meanThickness 0 [(0, .ref x), (1, .int (iI z)), (2, .ref d)] [] h (xm_R ML_meanThickness).cells (xm_R ML_meanThickness).slots (fun o9 h2 => o9 = .inl (some (.int (iI 1))) ∧ h2 = h)
  refine r_aload_n dL_meanThickness_0 2 rfl ?_
  refine i_const (0) dL_meanThickness_1 ?_
  refine r_aload_n dL_meanThickness_2 0 rfl ?_
  refine r_iload_n dL_meanThickness_3 1 rfl ?_
  refine x_callV (E := eI) (As := [.int (iI z)]) (b := x) (rest := [.int (iI 0), .ref d]) kv_L_meanThickness_72 dL_meanThickness_4 rfl rfl (Nat.le_of_ble_eq_true rfl) (Nat.le_of_ble_eq_true rfl) hrv (Nat.le_of_ble_eq_true rfl) (Nat.le_of_ble_eq_true rfl) spec (fun h9 e9 => ?_)
  rw [show h9 = h from e9]
  refine rx_catch [] ⟨0, 8, 11, 18⟩ [] rfl (fun z9 hz9 => absurd hz9 List.not_mem_nil) rfl (by decide) kl_L_18 (hCA.1 eI (by simp)) (fun qe => ?_)
  refine r_astore_n (ls' := [(0, .ref x), (1, .int (iI z)), (2, .ref d), (3, .ref qe)]) dL_meanThickness_11 (by decide) rfl ?_
  refine i_const (1) dL_meanThickness_12 ?_
  refine r_ireturn rfl rfl dL_meanThickness_13 ?_
  exact ⟨rfl, rfl⟩
set_option maxRecDepth 20000 in
set_option maxHeartbeats 1000000 in
theorem l_foldObstacle_ok {G : xG} {h : xH} {x o : Nat} {z q : Int} (hrv : x_RV G h RX11 x) {v : Int32} {P : xH → Prop} (spec : CC G MX11_foldObstacle [.ref x, .int (iI z), .int (iI q)] h (fun o9 h9 => o9 = .inl (some (.int v)) ∧ P h9)) (hP : ∀ h9, P h9 → o ∈ h9.1 ∧ ∃ g, h9.2 o = .inl (G.2.1 2, 1, .inr (.inl g))) : CC G ML_foldObstacle [.ref x, .int (iI z), .int (iI q), .ref o] h (fun o9 h2 => o9 = .inl (some (.int (iI 0))) ∧ ∃ h9, P h9 ∧ h2.1 = h9.1 ∧ (∃ g, h2.2 o = .inl (G.2.1 2, 1, .inr (.inl g)) ∧ g 0 = v.toInt64) ∧ ∀ q9, q9 ≠ o → h2.2 q9 = h9.2 q9) := by
  show RR G ML_foldObstacle 0 [(0, .ref x), (1, .int (iI z)), (2, .int (iI q)), (3, .ref o)] [] h (xm_R ML_foldObstacle).cells (xm_R ML_foldObstacle).slots (fun o9 h2 => o9 = .inl (some (.int (iI 0))) ∧ ∃ h9, P h9 ∧ h2.1 = h9.1 ∧ (∃ g, h2.2 o = .inl (G.2.1 2, 1, .inr (.inl g)) ∧ g 0 = v.toInt64) ∧ ∀ q9, q9 ≠ o → h2.2 q9 = h9.2 q9)
  refine r_aload_n dL_foldObstacle_0 3 rfl ?_
  refine i_const (0) dL_foldObstacle_1 ?_
  refine r_aload_n dL_foldObstacle_2 0 rfl ?_
  refine r_iload_n dL_foldObstacle_3 1 rfl ?_
  refine r_iload_n dL_foldObstacle_4 2 rfl ?_
  refine k_callV (As := [.int (iI z), .int (iI q)]) (b := x) (rest := [.int (iI 0), .ref o]) (w := (some (.int v))) (st' := [.int v, .int (iI 0), .ref o]) kv_L_foldObstacle_76 dL_foldObstacle_5 rfl rfl (Nat.le_of_ble_eq_true rfl) (Nat.le_of_ble_eq_true rfl) hrv (Nat.le_of_ble_eq_true rfl) (Nat.le_of_ble_eq_true rfl) (spec) rfl (fun h9 e9 => ?_)
  obtain ⟨mo9, g9, fo9⟩ := hP h9 e9
  refine r_i2l dL_foldObstacle_8 ?_
  refine i_last 0 rfl dL_foldObstacle_9 mo9 fo9 (by decide) (by decide) (fun h1 e0_1 e1_1 e2_1 => ?_)
  refine r_goto dL_foldObstacle_10 (tgt := 21) (by decide) ?_
  refine i_const (0) dL_foldObstacle_21 ?_
  refine r_ireturn rfl rfl dL_foldObstacle_22 ?_
  exact ⟨rfl, h9, e9, e0_1, ⟨_, e1_1, rfl⟩, e2_1⟩
set_option maxRecDepth 20000 in
set_option maxHeartbeats 1000000 in
theorem l_foldObstacle_I {G : xG} {h : xH} {x o : Nat} {z q : Int} (hrv : x_RV G h RX11 x) (hCA : GCA G) (spec : CC G MX11_foldObstacle [.ref x, .int (iI z), .int (iI q)] h (fun o9 h9 => o9 = .inr eI ∧ h9 = h)) : CC G ML_foldObstacle [.ref x, .int (iI z), .int (iI q), .ref o] h (fun o9 h2 => o9 = .inl (some (.int (iI 1))) ∧ h2 = h) := by
  show RR G ML_foldObstacle 0 [(0, .ref x), (1, .int (iI z)), (2, .int (iI q)), (3, .ref o)] [] h (xm_R ML_foldObstacle).cells (xm_R ML_foldObstacle).slots (fun o9 h2 => o9 = .inl (some (.int (iI 1))) ∧ h2 = h)
  refine r_aload_n dL_foldObstacle_0 3 rfl ?_
  refine i_const (0) dL_foldObstacle_1 ?_
  refine r_aload_n dL_foldObstacle_2 0 rfl ?_
  refine r_iload_n dL_foldObstacle_3 1 rfl ?_
  refine r_iload_n dL_foldObstacle_4 2 rfl ?_
  refine x_callV (E := eI) (As := [.int (iI z), .int (iI q)]) (b := x) (rest := [.int (iI 0), .ref o]) kv_L_foldObstacle_76 dL_foldObstacle_5 rfl rfl (Nat.le_of_ble_eq_true rfl) (Nat.le_of_ble_eq_true rfl) hrv (Nat.le_of_ble_eq_true rfl) (Nat.le_of_ble_eq_true rfl) spec (fun h9 e9 => ?_)
  rw [show h9 = h from e9]
  refine rx_catch [] ⟨0, 10, 13, 18⟩ [⟨0, 10, 17, 13⟩] rfl (fun z9 hz9 => absurd hz9 List.not_mem_nil) rfl (by decide) kl_L_18 (hCA.1 eI (by simp)) (fun qe => ?_)
  refine r_astore (ls' := [(0, .ref x), (1, .int (iI z)), (2, .int (iI q)), (3, .ref o), (4, .ref qe)]) dL_foldObstacle_13 (by decide) rfl ?_
  refine i_const (1) dL_foldObstacle_15 ?_
  refine r_ireturn rfl rfl dL_foldObstacle_16 ?_
  exact ⟨rfl, rfl⟩
set_option maxRecDepth 20000 in
set_option maxHeartbeats 1000000 in
theorem l_foldObstacle_A {G : xG} {h : xH} {x o : Nat} {z q : Int} (hrv : x_RV G h RX11 x) (hCA : GCA G) (spec : CC G MX11_foldObstacle [.ref x, .int (iI z), .int (iI q)] h (fun o9 h9 => o9 = .inr eA ∧ h9 = h)) : CC G ML_foldObstacle [.ref x, .int (iI z), .int (iI q), .ref o] h (fun o9 h2 => o9 = .inl (some (.int (iI 2))) ∧ h2 = h) := by
  show RR G ML_foldObstacle 0 [(0, .ref x), (1, .int (iI z)), (2, .int (iI q)), (3, .ref o)] [] h (xm_R ML_foldObstacle).cells (xm_R ML_foldObstacle).slots (fun o9 h2 => o9 = .inl (some (.int (iI 2))) ∧ h2 = h)
  refine r_aload_n dL_foldObstacle_0 3 rfl ?_
  refine i_const (0) dL_foldObstacle_1 ?_
  refine r_aload_n dL_foldObstacle_2 0 rfl ?_
  refine r_iload_n dL_foldObstacle_3 1 rfl ?_
  refine r_iload_n dL_foldObstacle_4 2 rfl ?_
  refine x_callV (E := eA) (As := [.int (iI z), .int (iI q)]) (b := x) (rest := [.int (iI 0), .ref o]) kv_L_foldObstacle_76 dL_foldObstacle_5 rfl rfl (Nat.le_of_ble_eq_true rfl) (Nat.le_of_ble_eq_true rfl) hrv (Nat.le_of_ble_eq_true rfl) (Nat.le_of_ble_eq_true rfl) spec (fun h9 e9 => ?_)
  rw [show h9 = h from e9]
  refine rx_catch [⟨0, 10, 13, 18⟩] ⟨0, 10, 17, 13⟩ [] rfl (fun z9 hz9 => by rw [List.mem_singleton.mp hz9]; exact Or.inr ⟨by decide, _, kl_L_18, hCA.2 (eA, eI) (by simp)⟩) rfl (by decide) kl_L_13 (hCA.1 eA (by simp)) (fun qe => ?_)
  refine r_astore (ls' := [(0, .ref x), (1, .int (iI z)), (2, .int (iI q)), (3, .ref o), (4, .ref qe)]) dL_foldObstacle_17 (by decide) rfl ?_
  refine i_const (2) dL_foldObstacle_19 ?_
  refine r_ireturn rfl rfl dL_foldObstacle_20 ?_
  exact ⟨rfl, rfl⟩
set_option maxRecDepth 20000 in
set_option maxHeartbeats 1000000 in
theorem l_layersAfterFold_ok {G : xG} {h : xH} {x o : Nat} {z q : Int} (hrv : x_RV G h RX11 x) {v : Int32} {P : xH → Prop} (spec : CC G MX11_layersAfterFold [.ref x, .int (iI z), .int (iI q)] h (fun o9 h9 => o9 = .inl (some (.int v)) ∧ P h9)) (hP : ∀ h9, P h9 → o ∈ h9.1 ∧ ∃ g, h9.2 o = .inl (G.2.1 2, 1, .inr (.inl g))) : CC G ML_layersAfterFold [.ref x, .int (iI z), .int (iI q), .ref o] h (fun o9 h2 => o9 = .inl (some (.int (iI 0))) ∧ ∃ h9, P h9 ∧ h2.1 = h9.1 ∧ (∃ g, h2.2 o = .inl (G.2.1 2, 1, .inr (.inl g)) ∧ g 0 = v.toInt64) ∧ ∀ q9, q9 ≠ o → h2.2 q9 = h9.2 q9) := by
  show RR G ML_layersAfterFold 0 [(0, .ref x), (1, .int (iI z)), (2, .int (iI q)), (3, .ref o)] [] h (xm_R ML_layersAfterFold).cells (xm_R ML_layersAfterFold).slots (fun o9 h2 => o9 = .inl (some (.int (iI 0))) ∧ ∃ h9, P h9 ∧ h2.1 = h9.1 ∧ (∃ g, h2.2 o = .inl (G.2.1 2, 1, .inr (.inl g)) ∧ g 0 = v.toInt64) ∧ ∀ q9, q9 ≠ o → h2.2 q9 = h9.2 q9)
  refine r_aload_n dL_layersAfterFold_0 3 rfl ?_
  refine i_const (0) dL_layersAfterFold_1 ?_
  refine r_aload_n dL_layersAfterFold_2 0 rfl ?_
  refine r_iload_n dL_layersAfterFold_3 1 rfl ?_
  refine r_iload_n dL_layersAfterFold_4 2 rfl ?_
  refine k_callV (As := [.int (iI z), .int (iI q)]) (b := x) (rest := [.int (iI 0), .ref o]) (w := (some (.int v))) (st' := [.int v, .int (iI 0), .ref o]) kv_L_layersAfterFold_79 dL_layersAfterFold_5 rfl rfl (Nat.le_of_ble_eq_true rfl) (Nat.le_of_ble_eq_true rfl) hrv (Nat.le_of_ble_eq_true rfl) (Nat.le_of_ble_eq_true rfl) (spec) rfl (fun h9 e9 => ?_)
  obtain ⟨mo9, g9, fo9⟩ := hP h9 e9
  refine r_i2l dL_layersAfterFold_8 ?_
  refine i_last 0 rfl dL_layersAfterFold_9 mo9 fo9 (by decide) (by decide) (fun h1 e0_1 e1_1 e2_1 => ?_)
  refine r_goto dL_layersAfterFold_10 (tgt := 21) (by decide) ?_
  refine i_const (0) dL_layersAfterFold_21 ?_
  refine r_ireturn rfl rfl dL_layersAfterFold_22 ?_
  exact ⟨rfl, h9, e9, e0_1, ⟨_, e1_1, rfl⟩, e2_1⟩
set_option maxRecDepth 20000 in
set_option maxHeartbeats 1000000 in
theorem l_layersAfterFold_I {G : xG} {h : xH} {x o : Nat} {z q : Int} (hrv : x_RV G h RX11 x) (hCA : GCA G) (spec : CC G MX11_layersAfterFold [.ref x, .int (iI z), .int (iI q)] h (fun o9 h9 => o9 = .inr eI ∧ h9 = h)) : CC G ML_layersAfterFold [.ref x, .int (iI z), .int (iI q), .ref o] h (fun o9 h2 => o9 = .inl (some (.int (iI 1))) ∧ h2 = h) := by
  show RR G ML_layersAfterFold 0 [(0, .ref x), (1, .int (iI z)), (2, .int (iI q)), (3, .ref o)] [] h (xm_R ML_layersAfterFold).cells (xm_R ML_layersAfterFold).slots (fun o9 h2 => o9 = .inl (some (.int (iI 1))) ∧ h2 = h)
  refine r_aload_n dL_layersAfterFold_0 3 rfl ?_
  refine i_const (0) dL_layersAfterFold_1 ?_
  refine r_aload_n dL_layersAfterFold_2 0 rfl ?_
  refine r_iload_n dL_layersAfterFold_3 1 rfl ?_
  refine r_iload_n dL_layersAfterFold_4 2 rfl ?_
  refine x_callV (E := eI) (As := [.int (iI z), .int (iI q)]) (b := x) (rest := [.int (iI 0), .ref o]) kv_L_layersAfterFold_79 dL_layersAfterFold_5 rfl rfl (Nat.le_of_ble_eq_true rfl) (Nat.le_of_ble_eq_true rfl) hrv (Nat.le_of_ble_eq_true rfl) (Nat.le_of_ble_eq_true rfl) spec (fun h9 e9 => ?_)
  rw [show h9 = h from e9]
  refine rx_catch [] ⟨0, 10, 13, 18⟩ [⟨0, 10, 17, 13⟩] rfl (fun z9 hz9 => absurd hz9 List.not_mem_nil) rfl (by decide) kl_L_18 (hCA.1 eI (by simp)) (fun qe => ?_)
  refine r_astore (ls' := [(0, .ref x), (1, .int (iI z)), (2, .int (iI q)), (3, .ref o), (4, .ref qe)]) dL_layersAfterFold_13 (by decide) rfl ?_
  refine i_const (1) dL_layersAfterFold_15 ?_
  refine r_ireturn rfl rfl dL_layersAfterFold_16 ?_
  exact ⟨rfl, rfl⟩
set_option maxRecDepth 20000 in
set_option maxHeartbeats 1000000 in
theorem l_layersAfterFold_A {G : xG} {h : xH} {x o : Nat} {z q : Int} (hrv : x_RV G h RX11 x) (hCA : GCA G) (spec : CC G MX11_layersAfterFold [.ref x, .int (iI z), .int (iI q)] h (fun o9 h9 => o9 = .inr eA ∧ h9 = h)) : CC G ML_layersAfterFold [.ref x, .int (iI z), .int (iI q), .ref o] h (fun o9 h2 => o9 = .inl (some (.int (iI 2))) ∧ h2 = h) := by
  show RR G ML_layersAfterFold 0 [(0, .ref x), (1, .int (iI z)), (2, .int (iI q)), (3, .ref o)] [] h (xm_R ML_layersAfterFold).cells (xm_R ML_layersAfterFold).slots (fun o9 h2 => o9 = .inl (some (.int (iI 2))) ∧ h2 = h)
  refine r_aload_n dL_layersAfterFold_0 3 rfl ?_
  refine i_const (0) dL_layersAfterFold_1 ?_
  refine r_aload_n dL_layersAfterFold_2 0 rfl ?_
  refine r_iload_n dL_layersAfterFold_3 1 rfl ?_
  refine r_iload_n dL_layersAfterFold_4 2 rfl ?_
  refine x_callV (E := eA) (As := [.int (iI z), .int (iI q)]) (b := x) (rest := [.int (iI 0), .ref o]) kv_L_layersAfterFold_79 dL_layersAfterFold_5 rfl rfl (Nat.le_of_ble_eq_true rfl) (Nat.le_of_ble_eq_true rfl) hrv (Nat.le_of_ble_eq_true rfl) (Nat.le_of_ble_eq_true rfl) spec (fun h9 e9 => ?_)
  rw [show h9 = h from e9]
  refine rx_catch [⟨0, 10, 13, 18⟩] ⟨0, 10, 17, 13⟩ [] rfl (fun z9 hz9 => by rw [List.mem_singleton.mp hz9]; exact Or.inr ⟨by decide, _, kl_L_18, hCA.2 (eA, eI) (by simp)⟩) rfl (by decide) kl_L_13 (hCA.1 eA (by simp)) (fun qe => ?_)
  refine r_astore (ls' := [(0, .ref x), (1, .int (iI z)), (2, .int (iI q)), (3, .ref o), (4, .ref qe)]) dL_layersAfterFold_17 (by decide) rfl ?_
  refine i_const (2) dL_layersAfterFold_19 ?_
  refine r_ireturn rfl rfl dL_layersAfterFold_20 ?_
  exact ⟨rfl, rfl⟩
set_option maxRecDepth 20000 in
set_option maxHeartbeats 1000000 in
theorem l_foldsPossible_ok {G : xG} {h : xH} {x o : Nat} {z q : Int} (hrv : x_RV G h RX11 x) {v : Int32} {P : xH → Prop} (spec : CC G MX11_foldsPossible [.ref x, .int (iI z), .int (iI q)] h (fun o9 h9 => o9 = .inl (some (.int v)) ∧ P h9)) (hP : ∀ h9, P h9 → o ∈ h9.1 ∧ ∃ g, h9.2 o = .inl (G.2.1 2, 1, .inr (.inl g))) : CC G ML_foldsPossible [.ref x, .int (iI z), .int (iI q), .ref o] h (fun o9 h2 => o9 = .inl (some (.int (iI 0))) ∧ ∃ h9, P h9 ∧ h2.1 = h9.1 ∧ (∃ g, h2.2 o = .inl (G.2.1 2, 1, .inr (.inl g)) ∧ g 0 = v.toInt64) ∧ ∀ q9, q9 ≠ o → h2.2 q9 = h9.2 q9) := by
  show RR G ML_foldsPossible 0 [(0, .ref x), (1, .int (iI z)), (2, .int (iI q)), (3, .ref o)] [] h (xm_R ML_foldsPossible).cells (xm_R ML_foldsPossible).slots (fun o9 h2 => o9 = .inl (some (.int (iI 0))) ∧ ∃ h9, P h9 ∧ h2.1 = h9.1 ∧ (∃ g, h2.2 o = .inl (G.2.1 2, 1, .inr (.inl g)) ∧ g 0 = v.toInt64) ∧ ∀ q9, q9 ≠ o → h2.2 q9 = h9.2 q9)
  refine r_aload_n dL_foldsPossible_0 3 rfl ?_
  refine i_const (0) dL_foldsPossible_1 ?_
  refine r_aload_n dL_foldsPossible_2 0 rfl ?_
  refine r_iload_n dL_foldsPossible_3 1 rfl ?_
  refine r_iload_n dL_foldsPossible_4 2 rfl ?_
  refine k_callV (As := [.int (iI z), .int (iI q)]) (b := x) (rest := [.int (iI 0), .ref o]) (w := (some (.int v))) (st' := [.int v, .int (iI 0), .ref o]) kv_L_foldsPossible_82 dL_foldsPossible_5 rfl rfl (Nat.le_of_ble_eq_true rfl) (Nat.le_of_ble_eq_true rfl) hrv (Nat.le_of_ble_eq_true rfl) (Nat.le_of_ble_eq_true rfl) (spec) rfl (fun h9 e9 => ?_)
  obtain ⟨mo9, g9, fo9⟩ := hP h9 e9
  refine r_i2l dL_foldsPossible_8 ?_
  refine i_last 0 rfl dL_foldsPossible_9 mo9 fo9 (by decide) (by decide) (fun h1 e0_1 e1_1 e2_1 => ?_)
  refine r_goto dL_foldsPossible_10 (tgt := 21) (by decide) ?_
  refine i_const (0) dL_foldsPossible_21 ?_
  refine r_ireturn rfl rfl dL_foldsPossible_22 ?_
  exact ⟨rfl, h9, e9, e0_1, ⟨_, e1_1, rfl⟩, e2_1⟩
set_option maxRecDepth 20000 in
set_option maxHeartbeats 1000000 in
theorem l_foldsPossible_I {G : xG} {h : xH} {x o : Nat} {z q : Int} (hrv : x_RV G h RX11 x) (hCA : GCA G) (spec : CC G MX11_foldsPossible [.ref x, .int (iI z), .int (iI q)] h (fun o9 h9 => o9 = .inr eI ∧ h9 = h)) : CC G ML_foldsPossible [.ref x, .int (iI z), .int (iI q), .ref o] h (fun o9 h2 => o9 = .inl (some (.int (iI 1))) ∧ h2 = h) := by
  show RR G ML_foldsPossible 0 [(0, .ref x), (1, .int (iI z)), (2, .int (iI q)), (3, .ref o)] [] h (xm_R ML_foldsPossible).cells (xm_R ML_foldsPossible).slots (fun o9 h2 => o9 = .inl (some (.int (iI 1))) ∧ h2 = h)
  refine r_aload_n dL_foldsPossible_0 3 rfl ?_
  refine i_const (0) dL_foldsPossible_1 ?_
  refine r_aload_n dL_foldsPossible_2 0 rfl ?_
  refine r_iload_n dL_foldsPossible_3 1 rfl ?_
  refine r_iload_n dL_foldsPossible_4 2 rfl ?_
  refine x_callV (E := eI) (As := [.int (iI z), .int (iI q)]) (b := x) (rest := [.int (iI 0), .ref o]) kv_L_foldsPossible_82 dL_foldsPossible_5 rfl rfl (Nat.le_of_ble_eq_true rfl) (Nat.le_of_ble_eq_true rfl) hrv (Nat.le_of_ble_eq_true rfl) (Nat.le_of_ble_eq_true rfl) spec (fun h9 e9 => ?_)
  rw [show h9 = h from e9]
  refine rx_catch [] ⟨0, 10, 13, 18⟩ [⟨0, 10, 17, 13⟩] rfl (fun z9 hz9 => absurd hz9 List.not_mem_nil) rfl (by decide) kl_L_18 (hCA.1 eI (by simp)) (fun qe => ?_)
  refine r_astore (ls' := [(0, .ref x), (1, .int (iI z)), (2, .int (iI q)), (3, .ref o), (4, .ref qe)]) dL_foldsPossible_13 (by decide) rfl ?_
  refine i_const (1) dL_foldsPossible_15 ?_
  refine r_ireturn rfl rfl dL_foldsPossible_16 ?_
  exact ⟨rfl, rfl⟩
set_option maxRecDepth 20000 in
set_option maxHeartbeats 1000000 in
theorem l_foldsPossible_A {G : xG} {h : xH} {x o : Nat} {z q : Int} (hrv : x_RV G h RX11 x) (hCA : GCA G) (spec : CC G MX11_foldsPossible [.ref x, .int (iI z), .int (iI q)] h (fun o9 h9 => o9 = .inr eA ∧ h9 = h)) : CC G ML_foldsPossible [.ref x, .int (iI z), .int (iI q), .ref o] h (fun o9 h2 => o9 = .inl (some (.int (iI 2))) ∧ h2 = h) := by
  show RR G ML_foldsPossible 0 [(0, .ref x), (1, .int (iI z)), (2, .int (iI q)), (3, .ref o)] [] h (xm_R ML_foldsPossible).cells (xm_R ML_foldsPossible).slots (fun o9 h2 => o9 = .inl (some (.int (iI 2))) ∧ h2 = h)
  refine r_aload_n dL_foldsPossible_0 3 rfl ?_
  refine i_const (0) dL_foldsPossible_1 ?_
  refine r_aload_n dL_foldsPossible_2 0 rfl ?_
  refine r_iload_n dL_foldsPossible_3 1 rfl ?_
  refine r_iload_n dL_foldsPossible_4 2 rfl ?_
  refine x_callV (E := eA) (As := [.int (iI z), .int (iI q)]) (b := x) (rest := [.int (iI 0), .ref o]) kv_L_foldsPossible_82 dL_foldsPossible_5 rfl rfl (Nat.le_of_ble_eq_true rfl) (Nat.le_of_ble_eq_true rfl) hrv (Nat.le_of_ble_eq_true rfl) (Nat.le_of_ble_eq_true rfl) spec (fun h9 e9 => ?_)
  rw [show h9 = h from e9]
  refine rx_catch [⟨0, 10, 13, 18⟩] ⟨0, 10, 17, 13⟩ [] rfl (fun z9 hz9 => by rw [List.mem_singleton.mp hz9]; exact Or.inr ⟨by decide, _, kl_L_18, hCA.2 (eA, eI) (by simp)⟩) rfl (by decide) kl_L_13 (hCA.1 eA (by simp)) (fun qe => ?_)
  refine r_astore (ls' := [(0, .ref x), (1, .int (iI z)), (2, .int (iI q)), (3, .ref o), (4, .ref qe)]) dL_foldsPossible_17 (by decide) rfl ?_
  refine i_const (2) dL_foldsPossible_19 ?_
  refine r_ireturn rfl rfl dL_foldsPossible_20 ?_
  exact ⟨rfl, rfl⟩
set_option maxRecDepth 20000 in
set_option maxHeartbeats 1000000 in
theorem l_butterAtRisk_ok {G : xG} {h : xH} {x o : Nat} {z : Int} (hrv : x_RV G h RX11 x) {v : Int32} {P : xH → Prop} (spec : CC G MX11_butterAtRisk [.ref x, .int (iI z)] h (fun o9 h9 => o9 = .inl (some (.int v)) ∧ P h9)) (hP : ∀ h9, P h9 → o ∈ h9.1 ∧ ∃ g, h9.2 o = .inl (G.2.1 2, 1, .inr (.inl g))) : CC G ML_butterAtRisk [.ref x, .int (iI z), .ref o] h (fun o9 h2 => o9 = .inl (some (.int (iI 0))) ∧ ∃ h9, P h9 ∧ h2.1 = h9.1 ∧ (∃ g, h2.2 o = .inl (G.2.1 2, 1, .inr (.inl g)) ∧ g 0 = v.toInt64) ∧ ∀ q9, q9 ≠ o → h2.2 q9 = h9.2 q9) := by
  show RR G ML_butterAtRisk 0 [(0, .ref x), (1, .int (iI z)), (2, .ref o)] [] h (xm_R ML_butterAtRisk).cells (xm_R ML_butterAtRisk).slots (fun o9 h2 => o9 = .inl (some (.int (iI 0))) ∧ ∃ h9, P h9 ∧ h2.1 = h9.1 ∧ (∃ g, h2.2 o = .inl (G.2.1 2, 1, .inr (.inl g)) ∧ g 0 = v.toInt64) ∧ ∀ q9, q9 ≠ o → h2.2 q9 = h9.2 q9)
  refine r_aload_n dL_butterAtRisk_0 2 rfl ?_
  refine i_const (0) dL_butterAtRisk_1 ?_
  refine r_aload_n dL_butterAtRisk_2 0 rfl ?_
  refine r_iload_n dL_butterAtRisk_3 1 rfl ?_
  refine k_callV (As := [.int (iI z)]) (b := x) (rest := [.int (iI 0), .ref o]) (w := (some (.int v))) (st' := [.int v, .int (iI 0), .ref o]) kv_L_butterAtRisk_85 dL_butterAtRisk_4 rfl rfl (Nat.le_of_ble_eq_true rfl) (Nat.le_of_ble_eq_true rfl) hrv (Nat.le_of_ble_eq_true rfl) (Nat.le_of_ble_eq_true rfl) (spec) rfl (fun h9 e9 => ?_)
  obtain ⟨mo9, g9, fo9⟩ := hP h9 e9
  refine r_i2l dL_butterAtRisk_7 ?_
  refine i_last 0 rfl dL_butterAtRisk_8 mo9 fo9 (by decide) (by decide) (fun h1 e0_1 e1_1 e2_1 => ?_)
  refine r_goto dL_butterAtRisk_9 (tgt := 15) (by decide) ?_
  refine i_const (0) dL_butterAtRisk_15 ?_
  refine r_ireturn rfl rfl dL_butterAtRisk_16 ?_
  exact ⟨rfl, h9, e9, e0_1, ⟨_, e1_1, rfl⟩, e2_1⟩
set_option maxRecDepth 20000 in
set_option maxHeartbeats 1000000 in
theorem l_butterAtRisk_I {G : xG} {h : xH} {x o : Nat} {z : Int} (hrv : x_RV G h RX11 x) (hCA : GCA G) (spec : CC G MX11_butterAtRisk [.ref x, .int (iI z)] h (fun o9 h9 => o9 = .inr eI ∧ h9 = h)) : CC G ML_butterAtRisk [.ref x, .int (iI z), .ref o] h (fun o9 h2 => o9 = .inl (some (.int (iI 1))) ∧ h2 = h) := by
  show RR G ML_butterAtRisk 0 [(0, .ref x), (1, .int (iI z)), (2, .ref o)] [] h (xm_R ML_butterAtRisk).cells (xm_R ML_butterAtRisk).slots (fun o9 h2 => o9 = .inl (some (.int (iI 1))) ∧ h2 = h)
  refine r_aload_n dL_butterAtRisk_0 2 rfl ?_
  refine i_const (0) dL_butterAtRisk_1 ?_
  refine r_aload_n dL_butterAtRisk_2 0 rfl ?_
  refine r_iload_n dL_butterAtRisk_3 1 rfl ?_
  refine x_callV (E := eI) (As := [.int (iI z)]) (b := x) (rest := [.int (iI 0), .ref o]) kv_L_butterAtRisk_85 dL_butterAtRisk_4 rfl rfl (Nat.le_of_ble_eq_true rfl) (Nat.le_of_ble_eq_true rfl) hrv (Nat.le_of_ble_eq_true rfl) (Nat.le_of_ble_eq_true rfl) spec (fun h9 e9 => ?_)
  rw [show h9 = h from e9]
  refine rx_catch [] ⟨0, 9, 12, 18⟩ [] rfl (fun z9 hz9 => absurd hz9 List.not_mem_nil) rfl (by decide) kl_L_18 (hCA.1 eI (by simp)) (fun qe => ?_)
  refine r_astore_n (ls' := [(0, .ref x), (1, .int (iI z)), (2, .ref o), (3, .ref qe)]) dL_butterAtRisk_12 (by decide) rfl ?_
  refine i_const (1) dL_butterAtRisk_13 ?_
  refine r_ireturn rfl rfl dL_butterAtRisk_14 ?_
  exact ⟨rfl, rfl⟩
set_option maxRecDepth 20000 in
set_option maxHeartbeats 1000000 in
theorem l_layersAtRisk_ok {G : xG} {h : xH} {x o : Nat} {z q : Int} (hrv : x_RV G h RX11 x) {v : Int32} {P : xH → Prop} (spec : CC G MX11_layersAtRisk [.ref x, .int (iI z), .int (iI q)] h (fun o9 h9 => o9 = .inl (some (.int v)) ∧ P h9)) (hP : ∀ h9, P h9 → o ∈ h9.1 ∧ ∃ g, h9.2 o = .inl (G.2.1 2, 1, .inr (.inl g))) : CC G ML_layersAtRisk [.ref x, .int (iI z), .int (iI q), .ref o] h (fun o9 h2 => o9 = .inl (some (.int (iI 0))) ∧ ∃ h9, P h9 ∧ h2.1 = h9.1 ∧ (∃ g, h2.2 o = .inl (G.2.1 2, 1, .inr (.inl g)) ∧ g 0 = v.toInt64) ∧ ∀ q9, q9 ≠ o → h2.2 q9 = h9.2 q9) := by
  show RR G ML_layersAtRisk 0 [(0, .ref x), (1, .int (iI z)), (2, .int (iI q)), (3, .ref o)] [] h (xm_R ML_layersAtRisk).cells (xm_R ML_layersAtRisk).slots (fun o9 h2 => o9 = .inl (some (.int (iI 0))) ∧ ∃ h9, P h9 ∧ h2.1 = h9.1 ∧ (∃ g, h2.2 o = .inl (G.2.1 2, 1, .inr (.inl g)) ∧ g 0 = v.toInt64) ∧ ∀ q9, q9 ≠ o → h2.2 q9 = h9.2 q9)
  refine r_aload_n dL_layersAtRisk_0 3 rfl ?_
  refine i_const (0) dL_layersAtRisk_1 ?_
  refine r_aload_n dL_layersAtRisk_2 0 rfl ?_
  refine r_iload_n dL_layersAtRisk_3 1 rfl ?_
  refine r_iload_n dL_layersAtRisk_4 2 rfl ?_
  refine k_callV (As := [.int (iI z), .int (iI q)]) (b := x) (rest := [.int (iI 0), .ref o]) (w := (some (.int v))) (st' := [.int v, .int (iI 0), .ref o]) kv_L_layersAtRisk_88 dL_layersAtRisk_5 rfl rfl (Nat.le_of_ble_eq_true rfl) (Nat.le_of_ble_eq_true rfl) hrv (Nat.le_of_ble_eq_true rfl) (Nat.le_of_ble_eq_true rfl) (spec) rfl (fun h9 e9 => ?_)
  obtain ⟨mo9, g9, fo9⟩ := hP h9 e9
  refine r_i2l dL_layersAtRisk_8 ?_
  refine i_last 0 rfl dL_layersAtRisk_9 mo9 fo9 (by decide) (by decide) (fun h1 e0_1 e1_1 e2_1 => ?_)
  refine r_goto dL_layersAtRisk_10 (tgt := 21) (by decide) ?_
  refine i_const (0) dL_layersAtRisk_21 ?_
  refine r_ireturn rfl rfl dL_layersAtRisk_22 ?_
  exact ⟨rfl, h9, e9, e0_1, ⟨_, e1_1, rfl⟩, e2_1⟩
set_option maxRecDepth 20000 in
set_option maxHeartbeats 1000000 in
theorem l_layersAtRisk_I {G : xG} {h : xH} {x o : Nat} {z q : Int} (hrv : x_RV G h RX11 x) (hCA : GCA G) (spec : CC G MX11_layersAtRisk [.ref x, .int (iI z), .int (iI q)] h (fun o9 h9 => o9 = .inr eI ∧ h9 = h)) : CC G ML_layersAtRisk [.ref x, .int (iI z), .int (iI q), .ref o] h (fun o9 h2 => o9 = .inl (some (.int (iI 1))) ∧ h2 = h) := by
  show RR G ML_layersAtRisk 0 [(0, .ref x), (1, .int (iI z)), (2, .int (iI q)), (3, .ref o)] [] h (xm_R ML_layersAtRisk).cells (xm_R ML_layersAtRisk).slots (fun o9 h2 => o9 = .inl (some (.int (iI 1))) ∧ h2 = h)
  refine r_aload_n dL_layersAtRisk_0 3 rfl ?_
  refine i_const (0) dL_layersAtRisk_1 ?_
  refine r_aload_n dL_layersAtRisk_2 0 rfl ?_
  refine r_iload_n dL_layersAtRisk_3 1 rfl ?_
  refine r_iload_n dL_layersAtRisk_4 2 rfl ?_
  refine x_callV (E := eI) (As := [.int (iI z), .int (iI q)]) (b := x) (rest := [.int (iI 0), .ref o]) kv_L_layersAtRisk_88 dL_layersAtRisk_5 rfl rfl (Nat.le_of_ble_eq_true rfl) (Nat.le_of_ble_eq_true rfl) hrv (Nat.le_of_ble_eq_true rfl) (Nat.le_of_ble_eq_true rfl) spec (fun h9 e9 => ?_)
  rw [show h9 = h from e9]
  refine rx_catch [] ⟨0, 10, 13, 18⟩ [⟨0, 10, 17, 13⟩] rfl (fun z9 hz9 => absurd hz9 List.not_mem_nil) rfl (by decide) kl_L_18 (hCA.1 eI (by simp)) (fun qe => ?_)
  refine r_astore (ls' := [(0, .ref x), (1, .int (iI z)), (2, .int (iI q)), (3, .ref o), (4, .ref qe)]) dL_layersAtRisk_13 (by decide) rfl ?_
  refine i_const (1) dL_layersAtRisk_15 ?_
  refine r_ireturn rfl rfl dL_layersAtRisk_16 ?_
  exact ⟨rfl, rfl⟩
set_option maxRecDepth 20000 in
set_option maxHeartbeats 1000000 in
theorem l_layersAtRisk_A {G : xG} {h : xH} {x o : Nat} {z q : Int} (hrv : x_RV G h RX11 x) (hCA : GCA G) (spec : CC G MX11_layersAtRisk [.ref x, .int (iI z), .int (iI q)] h (fun o9 h9 => o9 = .inr eA ∧ h9 = h)) : CC G ML_layersAtRisk [.ref x, .int (iI z), .int (iI q), .ref o] h (fun o9 h2 => o9 = .inl (some (.int (iI 2))) ∧ h2 = h) := by
  show RR G ML_layersAtRisk 0 [(0, .ref x), (1, .int (iI z)), (2, .int (iI q)), (3, .ref o)] [] h (xm_R ML_layersAtRisk).cells (xm_R ML_layersAtRisk).slots (fun o9 h2 => o9 = .inl (some (.int (iI 2))) ∧ h2 = h)
  refine r_aload_n dL_layersAtRisk_0 3 rfl ?_
  refine i_const (0) dL_layersAtRisk_1 ?_
  refine r_aload_n dL_layersAtRisk_2 0 rfl ?_
  refine r_iload_n dL_layersAtRisk_3 1 rfl ?_
  refine r_iload_n dL_layersAtRisk_4 2 rfl ?_
  refine x_callV (E := eA) (As := [.int (iI z), .int (iI q)]) (b := x) (rest := [.int (iI 0), .ref o]) kv_L_layersAtRisk_88 dL_layersAtRisk_5 rfl rfl (Nat.le_of_ble_eq_true rfl) (Nat.le_of_ble_eq_true rfl) hrv (Nat.le_of_ble_eq_true rfl) (Nat.le_of_ble_eq_true rfl) spec (fun h9 e9 => ?_)
  rw [show h9 = h from e9]
  refine rx_catch [⟨0, 10, 13, 18⟩] ⟨0, 10, 17, 13⟩ [] rfl (fun z9 hz9 => by rw [List.mem_singleton.mp hz9]; exact Or.inr ⟨by decide, _, kl_L_18, hCA.2 (eA, eI) (by simp)⟩) rfl (by decide) kl_L_13 (hCA.1 eA (by simp)) (fun qe => ?_)
  refine r_astore (ls' := [(0, .ref x), (1, .int (iI z)), (2, .int (iI q)), (3, .ref o), (4, .ref qe)]) dL_layersAtRisk_17 (by decide) rfl ?_
  refine i_const (2) dL_layersAtRisk_19 ?_
  refine r_ireturn rfl rfl dL_layersAtRisk_20 ?_
  exact ⟨rfl, rfl⟩
set_option maxRecDepth 20000 in
set_option maxHeartbeats 1000000 in
theorem l_heightAfterRoll_ok {G : xG} {h : xH} {x o : Nat} {z q : Int} (hrv : x_RV G h RX11 x) {v : Int32} {P : xH → Prop} (spec : CC G MX11_heightAfterRoll [.ref x, .int (iI z), .int (iI q)] h (fun o9 h9 => o9 = .inl (some (.int v)) ∧ P h9)) (hP : ∀ h9, P h9 → o ∈ h9.1 ∧ ∃ g, h9.2 o = .inl (G.2.1 2, 1, .inr (.inl g))) : CC G ML_heightAfterRoll [.ref x, .int (iI z), .int (iI q), .ref o] h (fun o9 h2 => o9 = .inl (some (.int (iI 0))) ∧ ∃ h9, P h9 ∧ h2.1 = h9.1 ∧ (∃ g, h2.2 o = .inl (G.2.1 2, 1, .inr (.inl g)) ∧ g 0 = v.toInt64) ∧ ∀ q9, q9 ≠ o → h2.2 q9 = h9.2 q9) := by
  show RR G ML_heightAfterRoll 0 [(0, .ref x), (1, .int (iI z)), (2, .int (iI q)), (3, .ref o)] [] h (xm_R ML_heightAfterRoll).cells (xm_R ML_heightAfterRoll).slots (fun o9 h2 => o9 = .inl (some (.int (iI 0))) ∧ ∃ h9, P h9 ∧ h2.1 = h9.1 ∧ (∃ g, h2.2 o = .inl (G.2.1 2, 1, .inr (.inl g)) ∧ g 0 = v.toInt64) ∧ ∀ q9, q9 ≠ o → h2.2 q9 = h9.2 q9)
  refine r_aload_n dL_heightAfterRoll_0 3 rfl ?_
  refine i_const (0) dL_heightAfterRoll_1 ?_
  refine r_aload_n dL_heightAfterRoll_2 0 rfl ?_
  refine r_iload_n dL_heightAfterRoll_3 1 rfl ?_
  refine r_iload_n dL_heightAfterRoll_4 2 rfl ?_
  refine k_callV (As := [.int (iI z), .int (iI q)]) (b := x) (rest := [.int (iI 0), .ref o]) (w := (some (.int v))) (st' := [.int v, .int (iI 0), .ref o]) kv_L_heightAfterRoll_91 dL_heightAfterRoll_5 rfl rfl (Nat.le_of_ble_eq_true rfl) (Nat.le_of_ble_eq_true rfl) hrv (Nat.le_of_ble_eq_true rfl) (Nat.le_of_ble_eq_true rfl) (spec) rfl (fun h9 e9 => ?_)
  obtain ⟨mo9, g9, fo9⟩ := hP h9 e9
  refine r_i2l dL_heightAfterRoll_8 ?_
  refine i_last 0 rfl dL_heightAfterRoll_9 mo9 fo9 (by decide) (by decide) (fun h1 e0_1 e1_1 e2_1 => ?_)
  refine r_goto dL_heightAfterRoll_10 (tgt := 21) (by decide) ?_
  refine i_const (0) dL_heightAfterRoll_21 ?_
  refine r_ireturn rfl rfl dL_heightAfterRoll_22 ?_
  exact ⟨rfl, h9, e9, e0_1, ⟨_, e1_1, rfl⟩, e2_1⟩
set_option maxRecDepth 20000 in
set_option maxHeartbeats 1000000 in
theorem l_heightAfterRoll_I {G : xG} {h : xH} {x o : Nat} {z q : Int} (hrv : x_RV G h RX11 x) (hCA : GCA G) (spec : CC G MX11_heightAfterRoll [.ref x, .int (iI z), .int (iI q)] h (fun o9 h9 => o9 = .inr eI ∧ h9 = h)) : CC G ML_heightAfterRoll [.ref x, .int (iI z), .int (iI q), .ref o] h (fun o9 h2 => o9 = .inl (some (.int (iI 1))) ∧ h2 = h) := by
  show RR G ML_heightAfterRoll 0 [(0, .ref x), (1, .int (iI z)), (2, .int (iI q)), (3, .ref o)] [] h (xm_R ML_heightAfterRoll).cells (xm_R ML_heightAfterRoll).slots (fun o9 h2 => o9 = .inl (some (.int (iI 1))) ∧ h2 = h)
  refine r_aload_n dL_heightAfterRoll_0 3 rfl ?_
  refine i_const (0) dL_heightAfterRoll_1 ?_
  refine r_aload_n dL_heightAfterRoll_2 0 rfl ?_
  refine r_iload_n dL_heightAfterRoll_3 1 rfl ?_
  refine r_iload_n dL_heightAfterRoll_4 2 rfl ?_
  refine x_callV (E := eI) (As := [.int (iI z), .int (iI q)]) (b := x) (rest := [.int (iI 0), .ref o]) kv_L_heightAfterRoll_91 dL_heightAfterRoll_5 rfl rfl (Nat.le_of_ble_eq_true rfl) (Nat.le_of_ble_eq_true rfl) hrv (Nat.le_of_ble_eq_true rfl) (Nat.le_of_ble_eq_true rfl) spec (fun h9 e9 => ?_)
  rw [show h9 = h from e9]
  refine rx_catch [] ⟨0, 10, 13, 18⟩ [⟨0, 10, 17, 13⟩] rfl (fun z9 hz9 => absurd hz9 List.not_mem_nil) rfl (by decide) kl_L_18 (hCA.1 eI (by simp)) (fun qe => ?_)
  refine r_astore (ls' := [(0, .ref x), (1, .int (iI z)), (2, .int (iI q)), (3, .ref o), (4, .ref qe)]) dL_heightAfterRoll_13 (by decide) rfl ?_
  refine i_const (1) dL_heightAfterRoll_15 ?_
  refine r_ireturn rfl rfl dL_heightAfterRoll_16 ?_
  exact ⟨rfl, rfl⟩
set_option maxRecDepth 20000 in
set_option maxHeartbeats 1000000 in
theorem l_heightAfterRoll_A {G : xG} {h : xH} {x o : Nat} {z q : Int} (hrv : x_RV G h RX11 x) (hCA : GCA G) (spec : CC G MX11_heightAfterRoll [.ref x, .int (iI z), .int (iI q)] h (fun o9 h9 => o9 = .inr eA ∧ h9 = h)) : CC G ML_heightAfterRoll [.ref x, .int (iI z), .int (iI q), .ref o] h (fun o9 h2 => o9 = .inl (some (.int (iI 2))) ∧ h2 = h) := by
  show RR G ML_heightAfterRoll 0 [(0, .ref x), (1, .int (iI z)), (2, .int (iI q)), (3, .ref o)] [] h (xm_R ML_heightAfterRoll).cells (xm_R ML_heightAfterRoll).slots (fun o9 h2 => o9 = .inl (some (.int (iI 2))) ∧ h2 = h)
  refine r_aload_n dL_heightAfterRoll_0 3 rfl ?_
  refine i_const (0) dL_heightAfterRoll_1 ?_
  refine r_aload_n dL_heightAfterRoll_2 0 rfl ?_
  refine r_iload_n dL_heightAfterRoll_3 1 rfl ?_
  refine r_iload_n dL_heightAfterRoll_4 2 rfl ?_
  refine x_callV (E := eA) (As := [.int (iI z), .int (iI q)]) (b := x) (rest := [.int (iI 0), .ref o]) kv_L_heightAfterRoll_91 dL_heightAfterRoll_5 rfl rfl (Nat.le_of_ble_eq_true rfl) (Nat.le_of_ble_eq_true rfl) hrv (Nat.le_of_ble_eq_true rfl) (Nat.le_of_ble_eq_true rfl) spec (fun h9 e9 => ?_)
  rw [show h9 = h from e9]
  refine rx_catch [⟨0, 10, 13, 18⟩] ⟨0, 10, 17, 13⟩ [] rfl (fun z9 hz9 => by rw [List.mem_singleton.mp hz9]; exact Or.inr ⟨by decide, _, kl_L_18, hCA.2 (eA, eI) (by simp)⟩) rfl (by decide) kl_L_13 (hCA.1 eA (by simp)) (fun qe => ?_)
  refine r_astore (ls' := [(0, .ref x), (1, .int (iI z)), (2, .int (iI q)), (3, .ref o), (4, .ref qe)]) dL_heightAfterRoll_17 (by decide) rfl ?_
  refine i_const (2) dL_heightAfterRoll_19 ?_
  refine r_ireturn rfl rfl dL_heightAfterRoll_20 ?_
  exact ⟨rfl, rfl⟩
set_option maxRecDepth 20000 in
set_option maxHeartbeats 1000000 in
theorem l_temperatureAfter_ok {G : xG} {h : xH} {x o : Nat} {z q : Int} (hrv : x_RV G h RX11 x) {v : Int32} {P : xH → Prop} (spec : CC G MX11_temperatureAfter [.ref x, .int (iI z), .int (iI q)] h (fun o9 h9 => o9 = .inl (some (.int v)) ∧ P h9)) (hP : ∀ h9, P h9 → o ∈ h9.1 ∧ ∃ g, h9.2 o = .inl (G.2.1 2, 1, .inr (.inl g))) : CC G ML_temperatureAfter [.ref x, .int (iI z), .int (iI q), .ref o] h (fun o9 h2 => o9 = .inl (some (.int (iI 0))) ∧ ∃ h9, P h9 ∧ h2.1 = h9.1 ∧ (∃ g, h2.2 o = .inl (G.2.1 2, 1, .inr (.inl g)) ∧ g 0 = v.toInt64) ∧ ∀ q9, q9 ≠ o → h2.2 q9 = h9.2 q9) := by
  show RR G ML_temperatureAfter 0 [(0, .ref x), (1, .int (iI z)), (2, .int (iI q)), (3, .ref o)] [] h (xm_R ML_temperatureAfter).cells (xm_R ML_temperatureAfter).slots (fun o9 h2 => o9 = .inl (some (.int (iI 0))) ∧ ∃ h9, P h9 ∧ h2.1 = h9.1 ∧ (∃ g, h2.2 o = .inl (G.2.1 2, 1, .inr (.inl g)) ∧ g 0 = v.toInt64) ∧ ∀ q9, q9 ≠ o → h2.2 q9 = h9.2 q9)
  refine r_aload_n dL_temperatureAfter_0 3 rfl ?_
  refine i_const (0) dL_temperatureAfter_1 ?_
  refine r_aload_n dL_temperatureAfter_2 0 rfl ?_
  refine r_iload_n dL_temperatureAfter_3 1 rfl ?_
  refine r_iload_n dL_temperatureAfter_4 2 rfl ?_
  refine k_callV (As := [.int (iI z), .int (iI q)]) (b := x) (rest := [.int (iI 0), .ref o]) (w := (some (.int v))) (st' := [.int v, .int (iI 0), .ref o]) kv_L_temperatureAfter_94 dL_temperatureAfter_5 rfl rfl (Nat.le_of_ble_eq_true rfl) (Nat.le_of_ble_eq_true rfl) hrv (Nat.le_of_ble_eq_true rfl) (Nat.le_of_ble_eq_true rfl) (spec) rfl (fun h9 e9 => ?_)
  obtain ⟨mo9, g9, fo9⟩ := hP h9 e9
  refine r_i2l dL_temperatureAfter_8 ?_
  refine i_last 0 rfl dL_temperatureAfter_9 mo9 fo9 (by decide) (by decide) (fun h1 e0_1 e1_1 e2_1 => ?_)
  refine r_goto dL_temperatureAfter_10 (tgt := 21) (by decide) ?_
  refine i_const (0) dL_temperatureAfter_21 ?_
  refine r_ireturn rfl rfl dL_temperatureAfter_22 ?_
  exact ⟨rfl, h9, e9, e0_1, ⟨_, e1_1, rfl⟩, e2_1⟩
set_option maxRecDepth 20000 in
set_option maxHeartbeats 1000000 in
theorem l_temperatureAfter_I {G : xG} {h : xH} {x o : Nat} {z q : Int} (hrv : x_RV G h RX11 x) (hCA : GCA G) (spec : CC G MX11_temperatureAfter [.ref x, .int (iI z), .int (iI q)] h (fun o9 h9 => o9 = .inr eI ∧ h9 = h)) : CC G ML_temperatureAfter [.ref x, .int (iI z), .int (iI q), .ref o] h (fun o9 h2 => o9 = .inl (some (.int (iI 1))) ∧ h2 = h) := by
  show RR G ML_temperatureAfter 0 [(0, .ref x), (1, .int (iI z)), (2, .int (iI q)), (3, .ref o)] [] h (xm_R ML_temperatureAfter).cells (xm_R ML_temperatureAfter).slots (fun o9 h2 => o9 = .inl (some (.int (iI 1))) ∧ h2 = h)
  refine r_aload_n dL_temperatureAfter_0 3 rfl ?_
  refine i_const (0) dL_temperatureAfter_1 ?_
  refine r_aload_n dL_temperatureAfter_2 0 rfl ?_
  refine r_iload_n dL_temperatureAfter_3 1 rfl ?_
  refine r_iload_n dL_temperatureAfter_4 2 rfl ?_
  refine x_callV (E := eI) (As := [.int (iI z), .int (iI q)]) (b := x) (rest := [.int (iI 0), .ref o]) kv_L_temperatureAfter_94 dL_temperatureAfter_5 rfl rfl (Nat.le_of_ble_eq_true rfl) (Nat.le_of_ble_eq_true rfl) hrv (Nat.le_of_ble_eq_true rfl) (Nat.le_of_ble_eq_true rfl) spec (fun h9 e9 => ?_)
  rw [show h9 = h from e9]
  refine rx_catch [] ⟨0, 10, 13, 18⟩ [⟨0, 10, 17, 13⟩] rfl (fun z9 hz9 => absurd hz9 List.not_mem_nil) rfl (by decide) kl_L_18 (hCA.1 eI (by simp)) (fun qe => ?_)
  refine r_astore (ls' := [(0, .ref x), (1, .int (iI z)), (2, .int (iI q)), (3, .ref o), (4, .ref qe)]) dL_temperatureAfter_13 (by decide) rfl ?_
  refine i_const (1) dL_temperatureAfter_15 ?_
  refine r_ireturn rfl rfl dL_temperatureAfter_16 ?_
  exact ⟨rfl, rfl⟩
set_option maxRecDepth 20000 in
set_option maxHeartbeats 1000000 in
theorem l_temperatureAfter_A {G : xG} {h : xH} {x o : Nat} {z q : Int} (hrv : x_RV G h RX11 x) (hCA : GCA G) (spec : CC G MX11_temperatureAfter [.ref x, .int (iI z), .int (iI q)] h (fun o9 h9 => o9 = .inr eA ∧ h9 = h)) : CC G ML_temperatureAfter [.ref x, .int (iI z), .int (iI q), .ref o] h (fun o9 h2 => o9 = .inl (some (.int (iI 2))) ∧ h2 = h) := by
  show RR G ML_temperatureAfter 0 [(0, .ref x), (1, .int (iI z)), (2, .int (iI q)), (3, .ref o)] [] h (xm_R ML_temperatureAfter).cells (xm_R ML_temperatureAfter).slots (fun o9 h2 => o9 = .inl (some (.int (iI 2))) ∧ h2 = h)
  refine r_aload_n dL_temperatureAfter_0 3 rfl ?_
  refine i_const (0) dL_temperatureAfter_1 ?_
  refine r_aload_n dL_temperatureAfter_2 0 rfl ?_
  refine r_iload_n dL_temperatureAfter_3 1 rfl ?_
  refine r_iload_n dL_temperatureAfter_4 2 rfl ?_
  refine x_callV (E := eA) (As := [.int (iI z), .int (iI q)]) (b := x) (rest := [.int (iI 0), .ref o]) kv_L_temperatureAfter_94 dL_temperatureAfter_5 rfl rfl (Nat.le_of_ble_eq_true rfl) (Nat.le_of_ble_eq_true rfl) hrv (Nat.le_of_ble_eq_true rfl) (Nat.le_of_ble_eq_true rfl) spec (fun h9 e9 => ?_)
  rw [show h9 = h from e9]
  refine rx_catch [⟨0, 10, 13, 18⟩] ⟨0, 10, 17, 13⟩ [] rfl (fun z9 hz9 => by rw [List.mem_singleton.mp hz9]; exact Or.inr ⟨by decide, _, kl_L_18, hCA.2 (eA, eI) (by simp)⟩) rfl (by decide) kl_L_13 (hCA.1 eA (by simp)) (fun qe => ?_)
  refine r_astore (ls' := [(0, .ref x), (1, .int (iI z)), (2, .int (iI q)), (3, .ref o), (4, .ref qe)]) dL_temperatureAfter_17 (by decide) rfl ?_
  refine i_const (2) dL_temperatureAfter_19 ?_
  refine r_ireturn rfl rfl dL_temperatureAfter_20 ?_
  exact ⟨rfl, rfl⟩
set_option maxRecDepth 20000 in
set_option maxHeartbeats 1000000 in
theorem l_hoursToSafety_ok {G : xG} {h : xH} {x o : Nat} {z : Int} (hrv : x_RV G h RX11 x) {v : Int32} {P : xH → Prop} (spec : CC G MX11_hoursToSafety [.ref x, .int (iI z)] h (fun o9 h9 => o9 = .inl (some (.int v)) ∧ P h9)) (hP : ∀ h9, P h9 → o ∈ h9.1 ∧ ∃ g, h9.2 o = .inl (G.2.1 2, 1, .inr (.inl g))) : CC G ML_hoursToSafety [.ref x, .int (iI z), .ref o] h (fun o9 h2 => o9 = .inl (some (.int (iI 0))) ∧ ∃ h9, P h9 ∧ h2.1 = h9.1 ∧ (∃ g, h2.2 o = .inl (G.2.1 2, 1, .inr (.inl g)) ∧ g 0 = v.toInt64) ∧ ∀ q9, q9 ≠ o → h2.2 q9 = h9.2 q9) := by
  show RR G ML_hoursToSafety 0 [(0, .ref x), (1, .int (iI z)), (2, .ref o)] [] h (xm_R ML_hoursToSafety).cells (xm_R ML_hoursToSafety).slots (fun o9 h2 => o9 = .inl (some (.int (iI 0))) ∧ ∃ h9, P h9 ∧ h2.1 = h9.1 ∧ (∃ g, h2.2 o = .inl (G.2.1 2, 1, .inr (.inl g)) ∧ g 0 = v.toInt64) ∧ ∀ q9, q9 ≠ o → h2.2 q9 = h9.2 q9)
  refine r_aload_n dL_hoursToSafety_0 2 rfl ?_
  refine i_const (0) dL_hoursToSafety_1 ?_
  refine r_aload_n dL_hoursToSafety_2 0 rfl ?_
  refine r_iload_n dL_hoursToSafety_3 1 rfl ?_
  refine k_callV (As := [.int (iI z)]) (b := x) (rest := [.int (iI 0), .ref o]) (w := (some (.int v))) (st' := [.int v, .int (iI 0), .ref o]) kv_L_hoursToSafety_97 dL_hoursToSafety_4 rfl rfl (Nat.le_of_ble_eq_true rfl) (Nat.le_of_ble_eq_true rfl) hrv (Nat.le_of_ble_eq_true rfl) (Nat.le_of_ble_eq_true rfl) (spec) rfl (fun h9 e9 => ?_)
  obtain ⟨mo9, g9, fo9⟩ := hP h9 e9
  refine r_i2l dL_hoursToSafety_7 ?_
  refine i_last 0 rfl dL_hoursToSafety_8 mo9 fo9 (by decide) (by decide) (fun h1 e0_1 e1_1 e2_1 => ?_)
  refine r_goto dL_hoursToSafety_9 (tgt := 15) (by decide) ?_
  refine i_const (0) dL_hoursToSafety_15 ?_
  refine r_ireturn rfl rfl dL_hoursToSafety_16 ?_
  exact ⟨rfl, h9, e9, e0_1, ⟨_, e1_1, rfl⟩, e2_1⟩
set_option maxRecDepth 20000 in
set_option maxHeartbeats 1000000 in
theorem l_hoursToSafety_I {G : xG} {h : xH} {x o : Nat} {z : Int} (hrv : x_RV G h RX11 x) (hCA : GCA G) (spec : CC G MX11_hoursToSafety [.ref x, .int (iI z)] h (fun o9 h9 => o9 = .inr eI ∧ h9 = h)) : CC G ML_hoursToSafety [.ref x, .int (iI z), .ref o] h (fun o9 h2 => o9 = .inl (some (.int (iI 1))) ∧ h2 = h) := by
  show RR G ML_hoursToSafety 0 [(0, .ref x), (1, .int (iI z)), (2, .ref o)] [] h (xm_R ML_hoursToSafety).cells (xm_R ML_hoursToSafety).slots (fun o9 h2 => o9 = .inl (some (.int (iI 1))) ∧ h2 = h)
  refine r_aload_n dL_hoursToSafety_0 2 rfl ?_
  refine i_const (0) dL_hoursToSafety_1 ?_
  refine r_aload_n dL_hoursToSafety_2 0 rfl ?_
  refine r_iload_n dL_hoursToSafety_3 1 rfl ?_
  refine x_callV (E := eI) (As := [.int (iI z)]) (b := x) (rest := [.int (iI 0), .ref o]) kv_L_hoursToSafety_97 dL_hoursToSafety_4 rfl rfl (Nat.le_of_ble_eq_true rfl) (Nat.le_of_ble_eq_true rfl) hrv (Nat.le_of_ble_eq_true rfl) (Nat.le_of_ble_eq_true rfl) spec (fun h9 e9 => ?_)
  rw [show h9 = h from e9]
  refine rx_catch [] ⟨0, 9, 12, 18⟩ [] rfl (fun z9 hz9 => absurd hz9 List.not_mem_nil) rfl (by decide) kl_L_18 (hCA.1 eI (by simp)) (fun qe => ?_)
  refine r_astore_n (ls' := [(0, .ref x), (1, .int (iI z)), (2, .ref o), (3, .ref qe)]) dL_hoursToSafety_12 (by decide) rfl ?_
  refine i_const (1) dL_hoursToSafety_13 ?_
  refine r_ireturn rfl rfl dL_hoursToSafety_14 ?_
  exact ⟨rfl, rfl⟩
set_option maxRecDepth 20000 in
set_option maxHeartbeats 1000000 in
theorem l_fold_ok {G : xG} {h : xH} {x o : Nat} {z q : Int} (hrv : x_RV G h RX11 x) {v : Int32} {P : xH → Prop} (spec : CC G MX11_fold [.ref x, .int (iI z), .int (iI q)] h (fun o9 h9 => o9 = .inl (some (.int v)) ∧ P h9)) (hP : ∀ h9, P h9 → o ∈ h9.1 ∧ ∃ g, h9.2 o = .inl (G.2.1 2, 1, .inr (.inl g))) : CC G ML_fold [.ref x, .int (iI z), .int (iI q), .ref o] h (fun o9 h2 => o9 = .inl (some (.int (iI 0))) ∧ ∃ h9, P h9 ∧ h2.1 = h9.1 ∧ (∃ g, h2.2 o = .inl (G.2.1 2, 1, .inr (.inl g)) ∧ g 0 = v.toInt64) ∧ ∀ q9, q9 ≠ o → h2.2 q9 = h9.2 q9) := by
  show RR G ML_fold 0 [(0, .ref x), (1, .int (iI z)), (2, .int (iI q)), (3, .ref o)] [] h (xm_R ML_fold).cells (xm_R ML_fold).slots (fun o9 h2 => o9 = .inl (some (.int (iI 0))) ∧ ∃ h9, P h9 ∧ h2.1 = h9.1 ∧ (∃ g, h2.2 o = .inl (G.2.1 2, 1, .inr (.inl g)) ∧ g 0 = v.toInt64) ∧ ∀ q9, q9 ≠ o → h2.2 q9 = h9.2 q9)
  refine r_aload_n dL_fold_0 3 rfl ?_
  refine i_const (0) dL_fold_1 ?_
  refine r_aload_n dL_fold_2 0 rfl ?_
  refine r_iload_n dL_fold_3 1 rfl ?_
  refine r_iload_n dL_fold_4 2 rfl ?_
  refine k_callV (As := [.int (iI z), .int (iI q)]) (b := x) (rest := [.int (iI 0), .ref o]) (w := (some (.int v))) (st' := [.int v, .int (iI 0), .ref o]) kv_L_fold_100 dL_fold_5 rfl rfl (Nat.le_of_ble_eq_true rfl) (Nat.le_of_ble_eq_true rfl) hrv (Nat.le_of_ble_eq_true rfl) (Nat.le_of_ble_eq_true rfl) (spec) rfl (fun h9 e9 => ?_)
  obtain ⟨mo9, g9, fo9⟩ := hP h9 e9
  refine r_i2l dL_fold_8 ?_
  refine i_last 0 rfl dL_fold_9 mo9 fo9 (by decide) (by decide) (fun h1 e0_1 e1_1 e2_1 => ?_)
  refine r_goto dL_fold_10 (tgt := 25) (by decide) ?_
  refine i_const (0) dL_fold_25 ?_
  refine r_ireturn rfl rfl dL_fold_26 ?_
  exact ⟨rfl, h9, e9, e0_1, ⟨_, e1_1, rfl⟩, e2_1⟩
set_option maxRecDepth 20000 in
set_option maxHeartbeats 1000000 in
theorem l_fold_I {G : xG} {h : xH} {x o : Nat} {z q : Int} (hrv : x_RV G h RX11 x) (hCA : GCA G) (spec : CC G MX11_fold [.ref x, .int (iI z), .int (iI q)] h (fun o9 h9 => o9 = .inr eI ∧ h9 = h)) : CC G ML_fold [.ref x, .int (iI z), .int (iI q), .ref o] h (fun o9 h2 => o9 = .inl (some (.int (iI 1))) ∧ h2 = h) := by
  show RR G ML_fold 0 [(0, .ref x), (1, .int (iI z)), (2, .int (iI q)), (3, .ref o)] [] h (xm_R ML_fold).cells (xm_R ML_fold).slots (fun o9 h2 => o9 = .inl (some (.int (iI 1))) ∧ h2 = h)
  refine r_aload_n dL_fold_0 3 rfl ?_
  refine i_const (0) dL_fold_1 ?_
  refine r_aload_n dL_fold_2 0 rfl ?_
  refine r_iload_n dL_fold_3 1 rfl ?_
  refine r_iload_n dL_fold_4 2 rfl ?_
  refine x_callV (E := eI) (As := [.int (iI z), .int (iI q)]) (b := x) (rest := [.int (iI 0), .ref o]) kv_L_fold_100 dL_fold_5 rfl rfl (Nat.le_of_ble_eq_true rfl) (Nat.le_of_ble_eq_true rfl) hrv (Nat.le_of_ble_eq_true rfl) (Nat.le_of_ble_eq_true rfl) spec (fun h9 e9 => ?_)
  rw [show h9 = h from e9]
  refine rx_catch [] ⟨0, 10, 13, 18⟩ [⟨0, 10, 17, 13⟩, ⟨0, 10, 21, 103⟩] rfl (fun z9 hz9 => absurd hz9 List.not_mem_nil) rfl (by decide) kl_L_18 (hCA.1 eI (by simp)) (fun qe => ?_)
  refine r_astore (ls' := [(0, .ref x), (1, .int (iI z)), (2, .int (iI q)), (3, .ref o), (4, .ref qe)]) dL_fold_13 (by decide) rfl ?_
  refine i_const (1) dL_fold_15 ?_
  refine r_ireturn rfl rfl dL_fold_16 ?_
  exact ⟨rfl, rfl⟩
set_option maxRecDepth 20000 in
set_option maxHeartbeats 1000000 in
theorem l_fold_A {G : xG} {h : xH} {x o : Nat} {z q : Int} (hrv : x_RV G h RX11 x) (hCA : GCA G) (spec : CC G MX11_fold [.ref x, .int (iI z), .int (iI q)] h (fun o9 h9 => o9 = .inr eA ∧ h9 = h)) : CC G ML_fold [.ref x, .int (iI z), .int (iI q), .ref o] h (fun o9 h2 => o9 = .inl (some (.int (iI 2))) ∧ h2 = h) := by
  show RR G ML_fold 0 [(0, .ref x), (1, .int (iI z)), (2, .int (iI q)), (3, .ref o)] [] h (xm_R ML_fold).cells (xm_R ML_fold).slots (fun o9 h2 => o9 = .inl (some (.int (iI 2))) ∧ h2 = h)
  refine r_aload_n dL_fold_0 3 rfl ?_
  refine i_const (0) dL_fold_1 ?_
  refine r_aload_n dL_fold_2 0 rfl ?_
  refine r_iload_n dL_fold_3 1 rfl ?_
  refine r_iload_n dL_fold_4 2 rfl ?_
  refine x_callV (E := eA) (As := [.int (iI z), .int (iI q)]) (b := x) (rest := [.int (iI 0), .ref o]) kv_L_fold_100 dL_fold_5 rfl rfl (Nat.le_of_ble_eq_true rfl) (Nat.le_of_ble_eq_true rfl) hrv (Nat.le_of_ble_eq_true rfl) (Nat.le_of_ble_eq_true rfl) spec (fun h9 e9 => ?_)
  rw [show h9 = h from e9]
  refine rx_catch [⟨0, 10, 13, 18⟩] ⟨0, 10, 17, 13⟩ [⟨0, 10, 21, 103⟩] rfl (fun z9 hz9 => by rw [List.mem_singleton.mp hz9]; exact Or.inr ⟨by decide, _, kl_L_18, hCA.2 (eA, eI) (by simp)⟩) rfl (by decide) kl_L_13 (hCA.1 eA (by simp)) (fun qe => ?_)
  refine r_astore (ls' := [(0, .ref x), (1, .int (iI z)), (2, .int (iI q)), (3, .ref o), (4, .ref qe)]) dL_fold_17 (by decide) rfl ?_
  refine i_const (2) dL_fold_19 ?_
  refine r_ireturn rfl rfl dL_fold_20 ?_
  exact ⟨rfl, rfl⟩
set_option maxRecDepth 20000 in
set_option maxHeartbeats 1000000 in
theorem l_fold_S {G : xG} {h : xH} {x o : Nat} {z q : Int} (hrv : x_RV G h RX11 x) (hCA : GCA G) (spec : CC G MX11_fold [.ref x, .int (iI z), .int (iI q)] h (fun o9 h9 => o9 = .inr eS ∧ h9 = h)) : CC G ML_fold [.ref x, .int (iI z), .int (iI q), .ref o] h (fun o9 h2 => o9 = .inl (some (.int (iI 3))) ∧ h2 = h) := by
  show RR G ML_fold 0 [(0, .ref x), (1, .int (iI z)), (2, .int (iI q)), (3, .ref o)] [] h (xm_R ML_fold).cells (xm_R ML_fold).slots (fun o9 h2 => o9 = .inl (some (.int (iI 3))) ∧ h2 = h)
  refine r_aload_n dL_fold_0 3 rfl ?_
  refine i_const (0) dL_fold_1 ?_
  refine r_aload_n dL_fold_2 0 rfl ?_
  refine r_iload_n dL_fold_3 1 rfl ?_
  refine r_iload_n dL_fold_4 2 rfl ?_
  refine x_callV (E := eS) (As := [.int (iI z), .int (iI q)]) (b := x) (rest := [.int (iI 0), .ref o]) kv_L_fold_100 dL_fold_5 rfl rfl (Nat.le_of_ble_eq_true rfl) (Nat.le_of_ble_eq_true rfl) hrv (Nat.le_of_ble_eq_true rfl) (Nat.le_of_ble_eq_true rfl) spec (fun h9 e9 => ?_)
  rw [show h9 = h from e9]
  refine rx_catch [⟨0, 10, 13, 18⟩, ⟨0, 10, 17, 13⟩] ⟨0, 10, 21, 103⟩ [] rfl (fun z9 hz9 => by rcases (show z9 = ⟨0, 10, 13, 18⟩ ∨ z9 = ⟨0, 10, 17, 13⟩ by simpa using hz9) with e | e <;> rw [e]; exact Or.inr ⟨by decide, _, kl_L_18, hCA.2 (eS, eI) (by simp)⟩; exact Or.inr ⟨by decide, _, kl_L_13, hCA.2 (eS, eA) (by simp)⟩) rfl (by decide) kl_L_103 (hCA.1 eS (by simp)) (fun qe => ?_)
  refine r_astore (ls' := [(0, .ref x), (1, .int (iI z)), (2, .int (iI q)), (3, .ref o), (4, .ref qe)]) dL_fold_21 (by decide) rfl ?_
  refine i_const (3) dL_fold_23 ?_
  refine r_ireturn rfl rfl dL_fold_24 ?_
  exact ⟨rfl, rfl⟩
set_option maxRecDepth 20000 in
set_option maxHeartbeats 1000000 in
theorem l_roll_ok {G : xG} {h : xH} {x o : Nat} {z q : Int} (hrv : x_RV G h RX11 x) {v : Int32} {P : xH → Prop} (spec : CC G MX11_roll [.ref x, .int (iI z), .int (iI q)] h (fun o9 h9 => o9 = .inl (some (.int v)) ∧ P h9)) (hP : ∀ h9, P h9 → o ∈ h9.1 ∧ ∃ g, h9.2 o = .inl (G.2.1 2, 1, .inr (.inl g))) : CC G ML_roll [.ref x, .int (iI z), .int (iI q), .ref o] h (fun o9 h2 => o9 = .inl (some (.int (iI 0))) ∧ ∃ h9, P h9 ∧ h2.1 = h9.1 ∧ (∃ g, h2.2 o = .inl (G.2.1 2, 1, .inr (.inl g)) ∧ g 0 = v.toInt64) ∧ ∀ q9, q9 ≠ o → h2.2 q9 = h9.2 q9) := by
  show RR G ML_roll 0 [(0, .ref x), (1, .int (iI z)), (2, .int (iI q)), (3, .ref o)] [] h (xm_R ML_roll).cells (xm_R ML_roll).slots (fun o9 h2 => o9 = .inl (some (.int (iI 0))) ∧ ∃ h9, P h9 ∧ h2.1 = h9.1 ∧ (∃ g, h2.2 o = .inl (G.2.1 2, 1, .inr (.inl g)) ∧ g 0 = v.toInt64) ∧ ∀ q9, q9 ≠ o → h2.2 q9 = h9.2 q9)
  refine r_aload_n dL_roll_0 3 rfl ?_
  refine i_const (0) dL_roll_1 ?_
  refine r_aload_n dL_roll_2 0 rfl ?_
  refine r_iload_n dL_roll_3 1 rfl ?_
  refine r_iload_n dL_roll_4 2 rfl ?_
  refine k_callV (As := [.int (iI z), .int (iI q)]) (b := x) (rest := [.int (iI 0), .ref o]) (w := (some (.int v))) (st' := [.int v, .int (iI 0), .ref o]) kv_L_roll_105 dL_roll_5 rfl rfl (Nat.le_of_ble_eq_true rfl) (Nat.le_of_ble_eq_true rfl) hrv (Nat.le_of_ble_eq_true rfl) (Nat.le_of_ble_eq_true rfl) (spec) rfl (fun h9 e9 => ?_)
  obtain ⟨mo9, g9, fo9⟩ := hP h9 e9
  refine r_i2l dL_roll_8 ?_
  refine i_last 0 rfl dL_roll_9 mo9 fo9 (by decide) (by decide) (fun h1 e0_1 e1_1 e2_1 => ?_)
  refine r_goto dL_roll_10 (tgt := 25) (by decide) ?_
  refine i_const (0) dL_roll_25 ?_
  refine r_ireturn rfl rfl dL_roll_26 ?_
  exact ⟨rfl, h9, e9, e0_1, ⟨_, e1_1, rfl⟩, e2_1⟩
set_option maxRecDepth 20000 in
set_option maxHeartbeats 1000000 in
theorem l_roll_I {G : xG} {h : xH} {x o : Nat} {z q : Int} (hrv : x_RV G h RX11 x) (hCA : GCA G) (spec : CC G MX11_roll [.ref x, .int (iI z), .int (iI q)] h (fun o9 h9 => o9 = .inr eI ∧ h9 = h)) : CC G ML_roll [.ref x, .int (iI z), .int (iI q), .ref o] h (fun o9 h2 => o9 = .inl (some (.int (iI 1))) ∧ h2 = h) := by
  show RR G ML_roll 0 [(0, .ref x), (1, .int (iI z)), (2, .int (iI q)), (3, .ref o)] [] h (xm_R ML_roll).cells (xm_R ML_roll).slots (fun o9 h2 => o9 = .inl (some (.int (iI 1))) ∧ h2 = h)
  refine r_aload_n dL_roll_0 3 rfl ?_
  refine i_const (0) dL_roll_1 ?_
  refine r_aload_n dL_roll_2 0 rfl ?_
  refine r_iload_n dL_roll_3 1 rfl ?_
  refine r_iload_n dL_roll_4 2 rfl ?_
  refine x_callV (E := eI) (As := [.int (iI z), .int (iI q)]) (b := x) (rest := [.int (iI 0), .ref o]) kv_L_roll_105 dL_roll_5 rfl rfl (Nat.le_of_ble_eq_true rfl) (Nat.le_of_ble_eq_true rfl) hrv (Nat.le_of_ble_eq_true rfl) (Nat.le_of_ble_eq_true rfl) spec (fun h9 e9 => ?_)
  rw [show h9 = h from e9]
  refine rx_catch [] ⟨0, 10, 13, 18⟩ [⟨0, 10, 17, 13⟩, ⟨0, 10, 21, 103⟩] rfl (fun z9 hz9 => absurd hz9 List.not_mem_nil) rfl (by decide) kl_L_18 (hCA.1 eI (by simp)) (fun qe => ?_)
  refine r_astore (ls' := [(0, .ref x), (1, .int (iI z)), (2, .int (iI q)), (3, .ref o), (4, .ref qe)]) dL_roll_13 (by decide) rfl ?_
  refine i_const (1) dL_roll_15 ?_
  refine r_ireturn rfl rfl dL_roll_16 ?_
  exact ⟨rfl, rfl⟩
set_option maxRecDepth 20000 in
set_option maxHeartbeats 1000000 in
theorem l_roll_A {G : xG} {h : xH} {x o : Nat} {z q : Int} (hrv : x_RV G h RX11 x) (hCA : GCA G) (spec : CC G MX11_roll [.ref x, .int (iI z), .int (iI q)] h (fun o9 h9 => o9 = .inr eA ∧ h9 = h)) : CC G ML_roll [.ref x, .int (iI z), .int (iI q), .ref o] h (fun o9 h2 => o9 = .inl (some (.int (iI 2))) ∧ h2 = h) := by
  show RR G ML_roll 0 [(0, .ref x), (1, .int (iI z)), (2, .int (iI q)), (3, .ref o)] [] h (xm_R ML_roll).cells (xm_R ML_roll).slots (fun o9 h2 => o9 = .inl (some (.int (iI 2))) ∧ h2 = h)
  refine r_aload_n dL_roll_0 3 rfl ?_
  refine i_const (0) dL_roll_1 ?_
  refine r_aload_n dL_roll_2 0 rfl ?_
  refine r_iload_n dL_roll_3 1 rfl ?_
  refine r_iload_n dL_roll_4 2 rfl ?_
  refine x_callV (E := eA) (As := [.int (iI z), .int (iI q)]) (b := x) (rest := [.int (iI 0), .ref o]) kv_L_roll_105 dL_roll_5 rfl rfl (Nat.le_of_ble_eq_true rfl) (Nat.le_of_ble_eq_true rfl) hrv (Nat.le_of_ble_eq_true rfl) (Nat.le_of_ble_eq_true rfl) spec (fun h9 e9 => ?_)
  rw [show h9 = h from e9]
  refine rx_catch [⟨0, 10, 13, 18⟩] ⟨0, 10, 17, 13⟩ [⟨0, 10, 21, 103⟩] rfl (fun z9 hz9 => by rw [List.mem_singleton.mp hz9]; exact Or.inr ⟨by decide, _, kl_L_18, hCA.2 (eA, eI) (by simp)⟩) rfl (by decide) kl_L_13 (hCA.1 eA (by simp)) (fun qe => ?_)
  refine r_astore (ls' := [(0, .ref x), (1, .int (iI z)), (2, .int (iI q)), (3, .ref o), (4, .ref qe)]) dL_roll_17 (by decide) rfl ?_
  refine i_const (2) dL_roll_19 ?_
  refine r_ireturn rfl rfl dL_roll_20 ?_
  exact ⟨rfl, rfl⟩
set_option maxRecDepth 20000 in
set_option maxHeartbeats 1000000 in
theorem l_roll_S {G : xG} {h : xH} {x o : Nat} {z q : Int} (hrv : x_RV G h RX11 x) (hCA : GCA G) (spec : CC G MX11_roll [.ref x, .int (iI z), .int (iI q)] h (fun o9 h9 => o9 = .inr eS ∧ h9 = h)) : CC G ML_roll [.ref x, .int (iI z), .int (iI q), .ref o] h (fun o9 h2 => o9 = .inl (some (.int (iI 3))) ∧ h2 = h) := by
  show RR G ML_roll 0 [(0, .ref x), (1, .int (iI z)), (2, .int (iI q)), (3, .ref o)] [] h (xm_R ML_roll).cells (xm_R ML_roll).slots (fun o9 h2 => o9 = .inl (some (.int (iI 3))) ∧ h2 = h)
  refine r_aload_n dL_roll_0 3 rfl ?_
  refine i_const (0) dL_roll_1 ?_
  refine r_aload_n dL_roll_2 0 rfl ?_
  refine r_iload_n dL_roll_3 1 rfl ?_
  refine r_iload_n dL_roll_4 2 rfl ?_
  refine x_callV (E := eS) (As := [.int (iI z), .int (iI q)]) (b := x) (rest := [.int (iI 0), .ref o]) kv_L_roll_105 dL_roll_5 rfl rfl (Nat.le_of_ble_eq_true rfl) (Nat.le_of_ble_eq_true rfl) hrv (Nat.le_of_ble_eq_true rfl) (Nat.le_of_ble_eq_true rfl) spec (fun h9 e9 => ?_)
  rw [show h9 = h from e9]
  refine rx_catch [⟨0, 10, 13, 18⟩, ⟨0, 10, 17, 13⟩] ⟨0, 10, 21, 103⟩ [] rfl (fun z9 hz9 => by rcases (show z9 = ⟨0, 10, 13, 18⟩ ∨ z9 = ⟨0, 10, 17, 13⟩ by simpa using hz9) with e | e <;> rw [e]; exact Or.inr ⟨by decide, _, kl_L_18, hCA.2 (eS, eI) (by simp)⟩; exact Or.inr ⟨by decide, _, kl_L_13, hCA.2 (eS, eA) (by simp)⟩) rfl (by decide) kl_L_103 (hCA.1 eS (by simp)) (fun qe => ?_)
  refine r_astore (ls' := [(0, .ref x), (1, .int (iI z)), (2, .int (iI q)), (3, .ref o), (4, .ref qe)]) dL_roll_21 (by decide) rfl ?_
  refine i_const (3) dL_roll_23 ?_
  refine r_ireturn rfl rfl dL_roll_24 ?_
  exact ⟨rfl, rfl⟩
set_option maxRecDepth 20000 in
set_option maxHeartbeats 1000000 in
theorem l_dust_ok {G : xG} {h : xH} {x o : Nat} {z : Int} (hrv : x_RV G h RX11 x) {v : Int32} {P : xH → Prop} (spec : CC G MX11_dust [.ref x, .int (iI z)] h (fun o9 h9 => o9 = .inl (some (.int v)) ∧ P h9)) (hP : ∀ h9, P h9 → o ∈ h9.1 ∧ ∃ g, h9.2 o = .inl (G.2.1 2, 1, .inr (.inl g))) : CC G ML_dust [.ref x, .int (iI z), .ref o] h (fun o9 h2 => o9 = .inl (some (.int (iI 0))) ∧ ∃ h9, P h9 ∧ h2.1 = h9.1 ∧ (∃ g, h2.2 o = .inl (G.2.1 2, 1, .inr (.inl g)) ∧ g 0 = v.toInt64) ∧ ∀ q9, q9 ≠ o → h2.2 q9 = h9.2 q9) := by
  show RR G ML_dust 0 [(0, .ref x), (1, .int (iI z)), (2, .ref o)] [] h (xm_R ML_dust).cells (xm_R ML_dust).slots (fun o9 h2 => o9 = .inl (some (.int (iI 0))) ∧ ∃ h9, P h9 ∧ h2.1 = h9.1 ∧ (∃ g, h2.2 o = .inl (G.2.1 2, 1, .inr (.inl g)) ∧ g 0 = v.toInt64) ∧ ∀ q9, q9 ≠ o → h2.2 q9 = h9.2 q9)
  refine r_aload_n dL_dust_0 2 rfl ?_
  refine i_const (0) dL_dust_1 ?_
  refine r_aload_n dL_dust_2 0 rfl ?_
  refine r_iload_n dL_dust_3 1 rfl ?_
  refine k_callV (As := [.int (iI z)]) (b := x) (rest := [.int (iI 0), .ref o]) (w := (some (.int v))) (st' := [.int v, .int (iI 0), .ref o]) kv_L_dust_108 dL_dust_4 rfl rfl (Nat.le_of_ble_eq_true rfl) (Nat.le_of_ble_eq_true rfl) hrv (Nat.le_of_ble_eq_true rfl) (Nat.le_of_ble_eq_true rfl) (spec) rfl (fun h9 e9 => ?_)
  obtain ⟨mo9, g9, fo9⟩ := hP h9 e9
  refine r_i2l dL_dust_7 ?_
  refine i_last 0 rfl dL_dust_8 mo9 fo9 (by decide) (by decide) (fun h1 e0_1 e1_1 e2_1 => ?_)
  refine r_goto dL_dust_9 (tgt := 18) (by decide) ?_
  refine i_const (0) dL_dust_18 ?_
  refine r_ireturn rfl rfl dL_dust_19 ?_
  exact ⟨rfl, h9, e9, e0_1, ⟨_, e1_1, rfl⟩, e2_1⟩
set_option maxRecDepth 20000 in
set_option maxHeartbeats 1000000 in
theorem l_dust_I {G : xG} {h : xH} {x o : Nat} {z : Int} (hrv : x_RV G h RX11 x) (hCA : GCA G) (spec : CC G MX11_dust [.ref x, .int (iI z)] h (fun o9 h9 => o9 = .inr eI ∧ h9 = h)) : CC G ML_dust [.ref x, .int (iI z), .ref o] h (fun o9 h2 => o9 = .inl (some (.int (iI 1))) ∧ h2 = h) := by
  show RR G ML_dust 0 [(0, .ref x), (1, .int (iI z)), (2, .ref o)] [] h (xm_R ML_dust).cells (xm_R ML_dust).slots (fun o9 h2 => o9 = .inl (some (.int (iI 1))) ∧ h2 = h)
  refine r_aload_n dL_dust_0 2 rfl ?_
  refine i_const (0) dL_dust_1 ?_
  refine r_aload_n dL_dust_2 0 rfl ?_
  refine r_iload_n dL_dust_3 1 rfl ?_
  refine x_callV (E := eI) (As := [.int (iI z)]) (b := x) (rest := [.int (iI 0), .ref o]) kv_L_dust_108 dL_dust_4 rfl rfl (Nat.le_of_ble_eq_true rfl) (Nat.le_of_ble_eq_true rfl) hrv (Nat.le_of_ble_eq_true rfl) (Nat.le_of_ble_eq_true rfl) spec (fun h9 e9 => ?_)
  rw [show h9 = h from e9]
  refine rx_catch [] ⟨0, 9, 12, 18⟩ [⟨0, 9, 15, 103⟩] rfl (fun z9 hz9 => absurd hz9 List.not_mem_nil) rfl (by decide) kl_L_18 (hCA.1 eI (by simp)) (fun qe => ?_)
  refine r_astore_n (ls' := [(0, .ref x), (1, .int (iI z)), (2, .ref o), (3, .ref qe)]) dL_dust_12 (by decide) rfl ?_
  refine i_const (1) dL_dust_13 ?_
  refine r_ireturn rfl rfl dL_dust_14 ?_
  exact ⟨rfl, rfl⟩
set_option maxRecDepth 20000 in
set_option maxHeartbeats 1000000 in
theorem l_dust_S {G : xG} {h : xH} {x o : Nat} {z : Int} (hrv : x_RV G h RX11 x) (hCA : GCA G) (spec : CC G MX11_dust [.ref x, .int (iI z)] h (fun o9 h9 => o9 = .inr eS ∧ h9 = h)) : CC G ML_dust [.ref x, .int (iI z), .ref o] h (fun o9 h2 => o9 = .inl (some (.int (iI 2))) ∧ h2 = h) := by
  show RR G ML_dust 0 [(0, .ref x), (1, .int (iI z)), (2, .ref o)] [] h (xm_R ML_dust).cells (xm_R ML_dust).slots (fun o9 h2 => o9 = .inl (some (.int (iI 2))) ∧ h2 = h)
  refine r_aload_n dL_dust_0 2 rfl ?_
  refine i_const (0) dL_dust_1 ?_
  refine r_aload_n dL_dust_2 0 rfl ?_
  refine r_iload_n dL_dust_3 1 rfl ?_
  refine x_callV (E := eS) (As := [.int (iI z)]) (b := x) (rest := [.int (iI 0), .ref o]) kv_L_dust_108 dL_dust_4 rfl rfl (Nat.le_of_ble_eq_true rfl) (Nat.le_of_ble_eq_true rfl) hrv (Nat.le_of_ble_eq_true rfl) (Nat.le_of_ble_eq_true rfl) spec (fun h9 e9 => ?_)
  rw [show h9 = h from e9]
  refine rx_catch [⟨0, 9, 12, 18⟩] ⟨0, 9, 15, 103⟩ [] rfl (fun z9 hz9 => by rw [List.mem_singleton.mp hz9]; exact Or.inr ⟨by decide, _, kl_L_18, hCA.2 (eS, eI) (by simp)⟩) rfl (by decide) kl_L_103 (hCA.1 eS (by simp)) (fun qe => ?_)
  refine r_astore_n (ls' := [(0, .ref x), (1, .int (iI z)), (2, .ref o), (3, .ref qe)]) dL_dust_15 (by decide) rfl ?_
  refine i_const (2) dL_dust_16 ?_
  refine r_ireturn rfl rfl dL_dust_17 ?_
  exact ⟨rfl, rfl⟩
set_option maxRecDepth 20000 in
set_option maxHeartbeats 1000000 in
theorem l_seal_ok {G : xG} {h : xH} {x o : Nat} {z : Int} (hrv : x_RV G h RX11 x) {v : Int32} {P : xH → Prop} (spec : CC G MX11_seal [.ref x, .int (iI z)] h (fun o9 h9 => o9 = .inl (some (.int v)) ∧ P h9)) (hP : ∀ h9, P h9 → o ∈ h9.1 ∧ ∃ g, h9.2 o = .inl (G.2.1 2, 1, .inr (.inl g))) : CC G ML_seal [.ref x, .int (iI z), .ref o] h (fun o9 h2 => o9 = .inl (some (.int (iI 0))) ∧ ∃ h9, P h9 ∧ h2.1 = h9.1 ∧ (∃ g, h2.2 o = .inl (G.2.1 2, 1, .inr (.inl g)) ∧ g 0 = v.toInt64) ∧ ∀ q9, q9 ≠ o → h2.2 q9 = h9.2 q9) := by
  show RR G ML_seal 0 [(0, .ref x), (1, .int (iI z)), (2, .ref o)] [] h (xm_R ML_seal).cells (xm_R ML_seal).slots (fun o9 h2 => o9 = .inl (some (.int (iI 0))) ∧ ∃ h9, P h9 ∧ h2.1 = h9.1 ∧ (∃ g, h2.2 o = .inl (G.2.1 2, 1, .inr (.inl g)) ∧ g 0 = v.toInt64) ∧ ∀ q9, q9 ≠ o → h2.2 q9 = h9.2 q9)
  refine r_aload_n dL_seal_0 2 rfl ?_
  refine i_const (0) dL_seal_1 ?_
  refine r_aload_n dL_seal_2 0 rfl ?_
  refine r_iload_n dL_seal_3 1 rfl ?_
  refine k_callV (As := [.int (iI z)]) (b := x) (rest := [.int (iI 0), .ref o]) (w := (some (.int v))) (st' := [.int v, .int (iI 0), .ref o]) kv_L_seal_111 dL_seal_4 rfl rfl (Nat.le_of_ble_eq_true rfl) (Nat.le_of_ble_eq_true rfl) hrv (Nat.le_of_ble_eq_true rfl) (Nat.le_of_ble_eq_true rfl) (spec) rfl (fun h9 e9 => ?_)
  obtain ⟨mo9, g9, fo9⟩ := hP h9 e9
  refine r_i2l dL_seal_7 ?_
  refine i_last 0 rfl dL_seal_8 mo9 fo9 (by decide) (by decide) (fun h1 e0_1 e1_1 e2_1 => ?_)
  refine r_goto dL_seal_9 (tgt := 18) (by decide) ?_
  refine i_const (0) dL_seal_18 ?_
  refine r_ireturn rfl rfl dL_seal_19 ?_
  exact ⟨rfl, h9, e9, e0_1, ⟨_, e1_1, rfl⟩, e2_1⟩
set_option maxRecDepth 20000 in
set_option maxHeartbeats 1000000 in
theorem l_seal_I {G : xG} {h : xH} {x o : Nat} {z : Int} (hrv : x_RV G h RX11 x) (hCA : GCA G) (spec : CC G MX11_seal [.ref x, .int (iI z)] h (fun o9 h9 => o9 = .inr eI ∧ h9 = h)) : CC G ML_seal [.ref x, .int (iI z), .ref o] h (fun o9 h2 => o9 = .inl (some (.int (iI 1))) ∧ h2 = h) := by
  show RR G ML_seal 0 [(0, .ref x), (1, .int (iI z)), (2, .ref o)] [] h (xm_R ML_seal).cells (xm_R ML_seal).slots (fun o9 h2 => o9 = .inl (some (.int (iI 1))) ∧ h2 = h)
  refine r_aload_n dL_seal_0 2 rfl ?_
  refine i_const (0) dL_seal_1 ?_
  refine r_aload_n dL_seal_2 0 rfl ?_
  refine r_iload_n dL_seal_3 1 rfl ?_
  refine x_callV (E := eI) (As := [.int (iI z)]) (b := x) (rest := [.int (iI 0), .ref o]) kv_L_seal_111 dL_seal_4 rfl rfl (Nat.le_of_ble_eq_true rfl) (Nat.le_of_ble_eq_true rfl) hrv (Nat.le_of_ble_eq_true rfl) (Nat.le_of_ble_eq_true rfl) spec (fun h9 e9 => ?_)
  rw [show h9 = h from e9]
  refine rx_catch [] ⟨0, 9, 12, 18⟩ [⟨0, 9, 15, 103⟩] rfl (fun z9 hz9 => absurd hz9 List.not_mem_nil) rfl (by decide) kl_L_18 (hCA.1 eI (by simp)) (fun qe => ?_)
  refine r_astore_n (ls' := [(0, .ref x), (1, .int (iI z)), (2, .ref o), (3, .ref qe)]) dL_seal_12 (by decide) rfl ?_
  refine i_const (1) dL_seal_13 ?_
  refine r_ireturn rfl rfl dL_seal_14 ?_
  exact ⟨rfl, rfl⟩
set_option maxRecDepth 20000 in
set_option maxHeartbeats 1000000 in
theorem l_seal_S {G : xG} {h : xH} {x o : Nat} {z : Int} (hrv : x_RV G h RX11 x) (hCA : GCA G) (spec : CC G MX11_seal [.ref x, .int (iI z)] h (fun o9 h9 => o9 = .inr eS ∧ h9 = h)) : CC G ML_seal [.ref x, .int (iI z), .ref o] h (fun o9 h2 => o9 = .inl (some (.int (iI 2))) ∧ h2 = h) := by
  show RR G ML_seal 0 [(0, .ref x), (1, .int (iI z)), (2, .ref o)] [] h (xm_R ML_seal).cells (xm_R ML_seal).slots (fun o9 h2 => o9 = .inl (some (.int (iI 2))) ∧ h2 = h)
  refine r_aload_n dL_seal_0 2 rfl ?_
  refine i_const (0) dL_seal_1 ?_
  refine r_aload_n dL_seal_2 0 rfl ?_
  refine r_iload_n dL_seal_3 1 rfl ?_
  refine x_callV (E := eS) (As := [.int (iI z)]) (b := x) (rest := [.int (iI 0), .ref o]) kv_L_seal_111 dL_seal_4 rfl rfl (Nat.le_of_ble_eq_true rfl) (Nat.le_of_ble_eq_true rfl) hrv (Nat.le_of_ble_eq_true rfl) (Nat.le_of_ble_eq_true rfl) spec (fun h9 e9 => ?_)
  rw [show h9 = h from e9]
  refine rx_catch [⟨0, 9, 12, 18⟩] ⟨0, 9, 15, 103⟩ [] rfl (fun z9 hz9 => by rw [List.mem_singleton.mp hz9]; exact Or.inr ⟨by decide, _, kl_L_18, hCA.2 (eS, eI) (by simp)⟩) rfl (by decide) kl_L_103 (hCA.1 eS (by simp)) (fun qe => ?_)
  refine r_astore_n (ls' := [(0, .ref x), (1, .int (iI z)), (2, .ref o), (3, .ref qe)]) dL_seal_15 (by decide) rfl ?_
  refine i_const (2) dL_seal_16 ?_
  refine r_ireturn rfl rfl dL_seal_17 ?_
  exact ⟨rfl, rfl⟩
set_option maxRecDepth 20000 in
set_option maxHeartbeats 1000000 in
theorem l_cool_ok {G : xG} {h : xH} {x o : Nat} {z : Int} (hrv : x_RV G h RX11 x) {v : Int32} {P : xH → Prop} (spec : CC G MX11_cool [.ref x, .int (iI z)] h (fun o9 h9 => o9 = .inl (some (.int v)) ∧ P h9)) (hP : ∀ h9, P h9 → o ∈ h9.1 ∧ ∃ g, h9.2 o = .inl (G.2.1 2, 1, .inr (.inl g))) : CC G ML_cool [.ref x, .int (iI z), .ref o] h (fun o9 h2 => o9 = .inl (some (.int (iI 0))) ∧ ∃ h9, P h9 ∧ h2.1 = h9.1 ∧ (∃ g, h2.2 o = .inl (G.2.1 2, 1, .inr (.inl g)) ∧ g 0 = v.toInt64) ∧ ∀ q9, q9 ≠ o → h2.2 q9 = h9.2 q9) := by
  show RR G ML_cool 0 [(0, .ref x), (1, .int (iI z)), (2, .ref o)] [] h (xm_R ML_cool).cells (xm_R ML_cool).slots (fun o9 h2 => o9 = .inl (some (.int (iI 0))) ∧ ∃ h9, P h9 ∧ h2.1 = h9.1 ∧ (∃ g, h2.2 o = .inl (G.2.1 2, 1, .inr (.inl g)) ∧ g 0 = v.toInt64) ∧ ∀ q9, q9 ≠ o → h2.2 q9 = h9.2 q9)
  refine r_aload_n dL_cool_0 2 rfl ?_
  refine i_const (0) dL_cool_1 ?_
  refine r_aload_n dL_cool_2 0 rfl ?_
  refine r_iload_n dL_cool_3 1 rfl ?_
  refine k_callV (As := [.int (iI z)]) (b := x) (rest := [.int (iI 0), .ref o]) (w := (some (.int v))) (st' := [.int v, .int (iI 0), .ref o]) kv_L_cool_114 dL_cool_4 rfl rfl (Nat.le_of_ble_eq_true rfl) (Nat.le_of_ble_eq_true rfl) hrv (Nat.le_of_ble_eq_true rfl) (Nat.le_of_ble_eq_true rfl) (spec) rfl (fun h9 e9 => ?_)
  obtain ⟨mo9, g9, fo9⟩ := hP h9 e9
  refine r_i2l dL_cool_7 ?_
  refine i_last 0 rfl dL_cool_8 mo9 fo9 (by decide) (by decide) (fun h1 e0_1 e1_1 e2_1 => ?_)
  refine r_goto dL_cool_9 (tgt := 18) (by decide) ?_
  refine i_const (0) dL_cool_18 ?_
  refine r_ireturn rfl rfl dL_cool_19 ?_
  exact ⟨rfl, h9, e9, e0_1, ⟨_, e1_1, rfl⟩, e2_1⟩
set_option maxRecDepth 20000 in
set_option maxHeartbeats 1000000 in
theorem l_cool_I {G : xG} {h : xH} {x o : Nat} {z : Int} (hrv : x_RV G h RX11 x) (hCA : GCA G) (spec : CC G MX11_cool [.ref x, .int (iI z)] h (fun o9 h9 => o9 = .inr eI ∧ h9 = h)) : CC G ML_cool [.ref x, .int (iI z), .ref o] h (fun o9 h2 => o9 = .inl (some (.int (iI 1))) ∧ h2 = h) := by
  show RR G ML_cool 0 [(0, .ref x), (1, .int (iI z)), (2, .ref o)] [] h (xm_R ML_cool).cells (xm_R ML_cool).slots (fun o9 h2 => o9 = .inl (some (.int (iI 1))) ∧ h2 = h)
  refine r_aload_n dL_cool_0 2 rfl ?_
  refine i_const (0) dL_cool_1 ?_
  refine r_aload_n dL_cool_2 0 rfl ?_
  refine r_iload_n dL_cool_3 1 rfl ?_
  refine x_callV (E := eI) (As := [.int (iI z)]) (b := x) (rest := [.int (iI 0), .ref o]) kv_L_cool_114 dL_cool_4 rfl rfl (Nat.le_of_ble_eq_true rfl) (Nat.le_of_ble_eq_true rfl) hrv (Nat.le_of_ble_eq_true rfl) (Nat.le_of_ble_eq_true rfl) spec (fun h9 e9 => ?_)
  rw [show h9 = h from e9]
  refine rx_catch [] ⟨0, 9, 12, 18⟩ [⟨0, 9, 15, 103⟩] rfl (fun z9 hz9 => absurd hz9 List.not_mem_nil) rfl (by decide) kl_L_18 (hCA.1 eI (by simp)) (fun qe => ?_)
  refine r_astore_n (ls' := [(0, .ref x), (1, .int (iI z)), (2, .ref o), (3, .ref qe)]) dL_cool_12 (by decide) rfl ?_
  refine i_const (1) dL_cool_13 ?_
  refine r_ireturn rfl rfl dL_cool_14 ?_
  exact ⟨rfl, rfl⟩
set_option maxRecDepth 20000 in
set_option maxHeartbeats 1000000 in
theorem l_cool_S {G : xG} {h : xH} {x o : Nat} {z : Int} (hrv : x_RV G h RX11 x) (hCA : GCA G) (spec : CC G MX11_cool [.ref x, .int (iI z)] h (fun o9 h9 => o9 = .inr eS ∧ h9 = h)) : CC G ML_cool [.ref x, .int (iI z), .ref o] h (fun o9 h2 => o9 = .inl (some (.int (iI 2))) ∧ h2 = h) := by
  show RR G ML_cool 0 [(0, .ref x), (1, .int (iI z)), (2, .ref o)] [] h (xm_R ML_cool).cells (xm_R ML_cool).slots (fun o9 h2 => o9 = .inl (some (.int (iI 2))) ∧ h2 = h)
  refine r_aload_n dL_cool_0 2 rfl ?_
  refine i_const (0) dL_cool_1 ?_
  refine r_aload_n dL_cool_2 0 rfl ?_
  refine r_iload_n dL_cool_3 1 rfl ?_
  refine x_callV (E := eS) (As := [.int (iI z)]) (b := x) (rest := [.int (iI 0), .ref o]) kv_L_cool_114 dL_cool_4 rfl rfl (Nat.le_of_ble_eq_true rfl) (Nat.le_of_ble_eq_true rfl) hrv (Nat.le_of_ble_eq_true rfl) (Nat.le_of_ble_eq_true rfl) spec (fun h9 e9 => ?_)
  rw [show h9 = h from e9]
  refine rx_catch [⟨0, 9, 12, 18⟩] ⟨0, 9, 15, 103⟩ [] rfl (fun z9 hz9 => by rw [List.mem_singleton.mp hz9]; exact Or.inr ⟨by decide, _, kl_L_18, hCA.2 (eS, eI) (by simp)⟩) rfl (by decide) kl_L_103 (hCA.1 eS (by simp)) (fun qe => ?_)
  refine r_astore_n (ls' := [(0, .ref x), (1, .int (iI z)), (2, .ref o), (3, .ref qe)]) dL_cool_15 (by decide) rfl ?_
  refine i_const (2) dL_cool_16 ?_
  refine r_ireturn rfl rfl dL_cool_17 ?_
  exact ⟨rfl, rfl⟩
set_option maxRecDepth 20000 in
set_option maxHeartbeats 1000000 in
theorem l_takeOut_ok {G : xG} {h : xH} {x o : Nat} {z : Int} (hrv : x_RV G h RX11 x) {v : Int32} {P : xH → Prop} (spec : CC G MX11_takeOut [.ref x, .int (iI z)] h (fun o9 h9 => o9 = .inl (some (.int v)) ∧ P h9)) (hP : ∀ h9, P h9 → o ∈ h9.1 ∧ ∃ g, h9.2 o = .inl (G.2.1 2, 1, .inr (.inl g))) : CC G ML_takeOut [.ref x, .int (iI z), .ref o] h (fun o9 h2 => o9 = .inl (some (.int (iI 0))) ∧ ∃ h9, P h9 ∧ h2.1 = h9.1 ∧ (∃ g, h2.2 o = .inl (G.2.1 2, 1, .inr (.inl g)) ∧ g 0 = v.toInt64) ∧ ∀ q9, q9 ≠ o → h2.2 q9 = h9.2 q9) := by
  show RR G ML_takeOut 0 [(0, .ref x), (1, .int (iI z)), (2, .ref o)] [] h (xm_R ML_takeOut).cells (xm_R ML_takeOut).slots (fun o9 h2 => o9 = .inl (some (.int (iI 0))) ∧ ∃ h9, P h9 ∧ h2.1 = h9.1 ∧ (∃ g, h2.2 o = .inl (G.2.1 2, 1, .inr (.inl g)) ∧ g 0 = v.toInt64) ∧ ∀ q9, q9 ≠ o → h2.2 q9 = h9.2 q9)
  refine r_aload_n dL_takeOut_0 2 rfl ?_
  refine i_const (0) dL_takeOut_1 ?_
  refine r_aload_n dL_takeOut_2 0 rfl ?_
  refine r_iload_n dL_takeOut_3 1 rfl ?_
  refine k_callV (As := [.int (iI z)]) (b := x) (rest := [.int (iI 0), .ref o]) (w := (some (.int v))) (st' := [.int v, .int (iI 0), .ref o]) kv_L_takeOut_117 dL_takeOut_4 rfl rfl (Nat.le_of_ble_eq_true rfl) (Nat.le_of_ble_eq_true rfl) hrv (Nat.le_of_ble_eq_true rfl) (Nat.le_of_ble_eq_true rfl) (spec) rfl (fun h9 e9 => ?_)
  obtain ⟨mo9, g9, fo9⟩ := hP h9 e9
  refine r_i2l dL_takeOut_7 ?_
  refine i_last 0 rfl dL_takeOut_8 mo9 fo9 (by decide) (by decide) (fun h1 e0_1 e1_1 e2_1 => ?_)
  refine r_goto dL_takeOut_9 (tgt := 18) (by decide) ?_
  refine i_const (0) dL_takeOut_18 ?_
  refine r_ireturn rfl rfl dL_takeOut_19 ?_
  exact ⟨rfl, h9, e9, e0_1, ⟨_, e1_1, rfl⟩, e2_1⟩
set_option maxRecDepth 20000 in
set_option maxHeartbeats 1000000 in
theorem l_takeOut_I {G : xG} {h : xH} {x o : Nat} {z : Int} (hrv : x_RV G h RX11 x) (hCA : GCA G) (spec : CC G MX11_takeOut [.ref x, .int (iI z)] h (fun o9 h9 => o9 = .inr eI ∧ h9 = h)) : CC G ML_takeOut [.ref x, .int (iI z), .ref o] h (fun o9 h2 => o9 = .inl (some (.int (iI 1))) ∧ h2 = h) := by
  show RR G ML_takeOut 0 [(0, .ref x), (1, .int (iI z)), (2, .ref o)] [] h (xm_R ML_takeOut).cells (xm_R ML_takeOut).slots (fun o9 h2 => o9 = .inl (some (.int (iI 1))) ∧ h2 = h)
  refine r_aload_n dL_takeOut_0 2 rfl ?_
  refine i_const (0) dL_takeOut_1 ?_
  refine r_aload_n dL_takeOut_2 0 rfl ?_
  refine r_iload_n dL_takeOut_3 1 rfl ?_
  refine x_callV (E := eI) (As := [.int (iI z)]) (b := x) (rest := [.int (iI 0), .ref o]) kv_L_takeOut_117 dL_takeOut_4 rfl rfl (Nat.le_of_ble_eq_true rfl) (Nat.le_of_ble_eq_true rfl) hrv (Nat.le_of_ble_eq_true rfl) (Nat.le_of_ble_eq_true rfl) spec (fun h9 e9 => ?_)
  rw [show h9 = h from e9]
  refine rx_catch [] ⟨0, 9, 12, 18⟩ [⟨0, 9, 15, 103⟩] rfl (fun z9 hz9 => absurd hz9 List.not_mem_nil) rfl (by decide) kl_L_18 (hCA.1 eI (by simp)) (fun qe => ?_)
  refine r_astore_n (ls' := [(0, .ref x), (1, .int (iI z)), (2, .ref o), (3, .ref qe)]) dL_takeOut_12 (by decide) rfl ?_
  refine i_const (1) dL_takeOut_13 ?_
  refine r_ireturn rfl rfl dL_takeOut_14 ?_
  exact ⟨rfl, rfl⟩
set_option maxRecDepth 20000 in
set_option maxHeartbeats 1000000 in
theorem l_takeOut_S {G : xG} {h : xH} {x o : Nat} {z : Int} (hrv : x_RV G h RX11 x) (hCA : GCA G) (spec : CC G MX11_takeOut [.ref x, .int (iI z)] h (fun o9 h9 => o9 = .inr eS ∧ h9 = h)) : CC G ML_takeOut [.ref x, .int (iI z), .ref o] h (fun o9 h2 => o9 = .inl (some (.int (iI 2))) ∧ h2 = h) := by
  show RR G ML_takeOut 0 [(0, .ref x), (1, .int (iI z)), (2, .ref o)] [] h (xm_R ML_takeOut).cells (xm_R ML_takeOut).slots (fun o9 h2 => o9 = .inl (some (.int (iI 2))) ∧ h2 = h)
  refine r_aload_n dL_takeOut_0 2 rfl ?_
  refine i_const (0) dL_takeOut_1 ?_
  refine r_aload_n dL_takeOut_2 0 rfl ?_
  refine r_iload_n dL_takeOut_3 1 rfl ?_
  refine x_callV (E := eS) (As := [.int (iI z)]) (b := x) (rest := [.int (iI 0), .ref o]) kv_L_takeOut_117 dL_takeOut_4 rfl rfl (Nat.le_of_ble_eq_true rfl) (Nat.le_of_ble_eq_true rfl) hrv (Nat.le_of_ble_eq_true rfl) (Nat.le_of_ble_eq_true rfl) spec (fun h9 e9 => ?_)
  rw [show h9 = h from e9]
  refine rx_catch [⟨0, 9, 12, 18⟩] ⟨0, 9, 15, 103⟩ [] rfl (fun z9 hz9 => by rw [List.mem_singleton.mp hz9]; exact Or.inr ⟨by decide, _, kl_L_18, hCA.2 (eS, eI) (by simp)⟩) rfl (by decide) kl_L_103 (hCA.1 eS (by simp)) (fun qe => ?_)
  refine r_astore_n (ls' := [(0, .ref x), (1, .int (iI z)), (2, .ref o), (3, .ref qe)]) dL_takeOut_15 (by decide) rfl ?_
  refine i_const (2) dL_takeOut_16 ?_
  refine r_ireturn rfl rfl dL_takeOut_17 ?_
  exact ⟨rfl, rfl⟩
set_option maxRecDepth 20000 in
set_option maxHeartbeats 1000000 in
theorem l_passHours_ok {G : xG} {h : xH} {x o : Nat} {z : Int} (hrv : x_RV G h RX11 x) {v : Int32} {P : xH → Prop} (spec : CC G MX11_passHours [.ref x, .int (iI z)] h (fun o9 h9 => o9 = .inl (some (.int v)) ∧ P h9)) (hP : ∀ h9, P h9 → o ∈ h9.1 ∧ ∃ g, h9.2 o = .inl (G.2.1 2, 1, .inr (.inl g))) : CC G ML_passHours [.ref x, .int (iI z), .ref o] h (fun o9 h2 => o9 = .inl (some (.int (iI 0))) ∧ ∃ h9, P h9 ∧ h2.1 = h9.1 ∧ (∃ g, h2.2 o = .inl (G.2.1 2, 1, .inr (.inl g)) ∧ g 0 = v.toInt64) ∧ ∀ q9, q9 ≠ o → h2.2 q9 = h9.2 q9) := by
  show RR G ML_passHours 0 [(0, .ref x), (1, .int (iI z)), (2, .ref o)] [] h (xm_R ML_passHours).cells (xm_R ML_passHours).slots (fun o9 h2 => o9 = .inl (some (.int (iI 0))) ∧ ∃ h9, P h9 ∧ h2.1 = h9.1 ∧ (∃ g, h2.2 o = .inl (G.2.1 2, 1, .inr (.inl g)) ∧ g 0 = v.toInt64) ∧ ∀ q9, q9 ≠ o → h2.2 q9 = h9.2 q9)
  refine r_aload_n dL_passHours_0 2 rfl ?_
  refine i_const (0) dL_passHours_1 ?_
  refine r_aload_n dL_passHours_2 0 rfl ?_
  refine r_iload_n dL_passHours_3 1 rfl ?_
  refine k_callV (As := [.int (iI z)]) (b := x) (rest := [.int (iI 0), .ref o]) (w := (some (.int v))) (st' := [.int v, .int (iI 0), .ref o]) kv_L_passHours_120 dL_passHours_4 rfl rfl (Nat.le_of_ble_eq_true rfl) (Nat.le_of_ble_eq_true rfl) hrv (Nat.le_of_ble_eq_true rfl) (Nat.le_of_ble_eq_true rfl) (spec) rfl (fun h9 e9 => ?_)
  obtain ⟨mo9, g9, fo9⟩ := hP h9 e9
  refine r_i2l dL_passHours_7 ?_
  refine i_last 0 rfl dL_passHours_8 mo9 fo9 (by decide) (by decide) (fun h1 e0_1 e1_1 e2_1 => ?_)
  refine r_goto dL_passHours_9 (tgt := 18) (by decide) ?_
  refine i_const (0) dL_passHours_18 ?_
  refine r_ireturn rfl rfl dL_passHours_19 ?_
  exact ⟨rfl, h9, e9, e0_1, ⟨_, e1_1, rfl⟩, e2_1⟩
set_option maxRecDepth 20000 in
set_option maxHeartbeats 1000000 in
theorem l_passHours_A {G : xG} {h : xH} {x o : Nat} {z : Int} (hrv : x_RV G h RX11 x) (hCA : GCA G) (spec : CC G MX11_passHours [.ref x, .int (iI z)] h (fun o9 h9 => o9 = .inr eA ∧ h9 = h)) : CC G ML_passHours [.ref x, .int (iI z), .ref o] h (fun o9 h2 => o9 = .inl (some (.int (iI 1))) ∧ h2 = h) := by
  show RR G ML_passHours 0 [(0, .ref x), (1, .int (iI z)), (2, .ref o)] [] h (xm_R ML_passHours).cells (xm_R ML_passHours).slots (fun o9 h2 => o9 = .inl (some (.int (iI 1))) ∧ h2 = h)
  refine r_aload_n dL_passHours_0 2 rfl ?_
  refine i_const (0) dL_passHours_1 ?_
  refine r_aload_n dL_passHours_2 0 rfl ?_
  refine r_iload_n dL_passHours_3 1 rfl ?_
  refine x_callV (E := eA) (As := [.int (iI z)]) (b := x) (rest := [.int (iI 0), .ref o]) kv_L_passHours_120 dL_passHours_4 rfl rfl (Nat.le_of_ble_eq_true rfl) (Nat.le_of_ble_eq_true rfl) hrv (Nat.le_of_ble_eq_true rfl) (Nat.le_of_ble_eq_true rfl) spec (fun h9 e9 => ?_)
  rw [show h9 = h from e9]
  refine rx_catch [] ⟨0, 9, 12, 13⟩ [⟨0, 9, 15, 103⟩] rfl (fun z9 hz9 => absurd hz9 List.not_mem_nil) rfl (by decide) kl_L_13 (hCA.1 eA (by simp)) (fun qe => ?_)
  refine r_astore_n (ls' := [(0, .ref x), (1, .int (iI z)), (2, .ref o), (3, .ref qe)]) dL_passHours_12 (by decide) rfl ?_
  refine i_const (1) dL_passHours_13 ?_
  refine r_ireturn rfl rfl dL_passHours_14 ?_
  exact ⟨rfl, rfl⟩
set_option maxRecDepth 20000 in
set_option maxHeartbeats 1000000 in
theorem l_passHours_S {G : xG} {h : xH} {x o : Nat} {z : Int} (hrv : x_RV G h RX11 x) (hCA : GCA G) (spec : CC G MX11_passHours [.ref x, .int (iI z)] h (fun o9 h9 => o9 = .inr eS ∧ h9 = h)) : CC G ML_passHours [.ref x, .int (iI z), .ref o] h (fun o9 h2 => o9 = .inl (some (.int (iI 2))) ∧ h2 = h) := by
  show RR G ML_passHours 0 [(0, .ref x), (1, .int (iI z)), (2, .ref o)] [] h (xm_R ML_passHours).cells (xm_R ML_passHours).slots (fun o9 h2 => o9 = .inl (some (.int (iI 2))) ∧ h2 = h)
  refine r_aload_n dL_passHours_0 2 rfl ?_
  refine i_const (0) dL_passHours_1 ?_
  refine r_aload_n dL_passHours_2 0 rfl ?_
  refine r_iload_n dL_passHours_3 1 rfl ?_
  refine x_callV (E := eS) (As := [.int (iI z)]) (b := x) (rest := [.int (iI 0), .ref o]) kv_L_passHours_120 dL_passHours_4 rfl rfl (Nat.le_of_ble_eq_true rfl) (Nat.le_of_ble_eq_true rfl) hrv (Nat.le_of_ble_eq_true rfl) (Nat.le_of_ble_eq_true rfl) spec (fun h9 e9 => ?_)
  rw [show h9 = h from e9]
  refine rx_catch [⟨0, 9, 12, 13⟩] ⟨0, 9, 15, 103⟩ [] rfl (fun z9 hz9 => by rw [List.mem_singleton.mp hz9]; exact Or.inr ⟨by decide, _, kl_L_13, hCA.2 (eS, eA) (by simp)⟩) rfl (by decide) kl_L_103 (hCA.1 eS (by simp)) (fun qe => ?_)
  refine r_astore_n (ls' := [(0, .ref x), (1, .int (iI z)), (2, .ref o), (3, .ref qe)]) dL_passHours_15 (by decide) rfl ?_
  refine i_const (2) dL_passHours_16 ?_
  refine r_ireturn rfl rfl dL_passHours_17 ?_
  exact ⟨rfl, rfl⟩
set_option maxRecDepth 20000 in
set_option maxHeartbeats 1000000 in
theorem l_cut_ok {G : xG} {h : xH} {x o : Nat} {z : Int} (hrv : x_RV G h RX11 x) {v : Int32} {P : xH → Prop} (spec : CC G MX11_cut [.ref x, .int (iI z)] h (fun o9 h9 => o9 = .inl (some (.int v)) ∧ P h9)) (hP : ∀ h9, P h9 → o ∈ h9.1 ∧ ∃ g, h9.2 o = .inl (G.2.1 2, 1, .inr (.inl g))) : CC G ML_cut [.ref x, .int (iI z), .ref o] h (fun o9 h2 => o9 = .inl (some (.int (iI 0))) ∧ ∃ h9, P h9 ∧ h2.1 = h9.1 ∧ (∃ g, h2.2 o = .inl (G.2.1 2, 1, .inr (.inl g)) ∧ g 0 = v.toInt64) ∧ ∀ q9, q9 ≠ o → h2.2 q9 = h9.2 q9) := by
  show RR G ML_cut 0 [(0, .ref x), (1, .int (iI z)), (2, .ref o)] [] h (xm_R ML_cut).cells (xm_R ML_cut).slots (fun o9 h2 => o9 = .inl (some (.int (iI 0))) ∧ ∃ h9, P h9 ∧ h2.1 = h9.1 ∧ (∃ g, h2.2 o = .inl (G.2.1 2, 1, .inr (.inl g)) ∧ g 0 = v.toInt64) ∧ ∀ q9, q9 ≠ o → h2.2 q9 = h9.2 q9)
  refine r_aload_n dL_cut_0 2 rfl ?_
  refine i_const (0) dL_cut_1 ?_
  refine r_aload_n dL_cut_2 0 rfl ?_
  refine r_iload_n dL_cut_3 1 rfl ?_
  refine k_callV (As := [.int (iI z)]) (b := x) (rest := [.int (iI 0), .ref o]) (w := (some (.int v))) (st' := [.int v, .int (iI 0), .ref o]) kv_L_cut_123 dL_cut_4 rfl rfl (Nat.le_of_ble_eq_true rfl) (Nat.le_of_ble_eq_true rfl) hrv (Nat.le_of_ble_eq_true rfl) (Nat.le_of_ble_eq_true rfl) (spec) rfl (fun h9 e9 => ?_)
  obtain ⟨mo9, g9, fo9⟩ := hP h9 e9
  refine r_i2l dL_cut_7 ?_
  refine i_last 0 rfl dL_cut_8 mo9 fo9 (by decide) (by decide) (fun h1 e0_1 e1_1 e2_1 => ?_)
  refine r_goto dL_cut_9 (tgt := 18) (by decide) ?_
  refine i_const (0) dL_cut_18 ?_
  refine r_ireturn rfl rfl dL_cut_19 ?_
  exact ⟨rfl, h9, e9, e0_1, ⟨_, e1_1, rfl⟩, e2_1⟩
set_option maxRecDepth 20000 in
set_option maxHeartbeats 1000000 in
theorem l_cut_I {G : xG} {h : xH} {x o : Nat} {z : Int} (hrv : x_RV G h RX11 x) (hCA : GCA G) (spec : CC G MX11_cut [.ref x, .int (iI z)] h (fun o9 h9 => o9 = .inr eI ∧ h9 = h)) : CC G ML_cut [.ref x, .int (iI z), .ref o] h (fun o9 h2 => o9 = .inl (some (.int (iI 1))) ∧ h2 = h) := by
  show RR G ML_cut 0 [(0, .ref x), (1, .int (iI z)), (2, .ref o)] [] h (xm_R ML_cut).cells (xm_R ML_cut).slots (fun o9 h2 => o9 = .inl (some (.int (iI 1))) ∧ h2 = h)
  refine r_aload_n dL_cut_0 2 rfl ?_
  refine i_const (0) dL_cut_1 ?_
  refine r_aload_n dL_cut_2 0 rfl ?_
  refine r_iload_n dL_cut_3 1 rfl ?_
  refine x_callV (E := eI) (As := [.int (iI z)]) (b := x) (rest := [.int (iI 0), .ref o]) kv_L_cut_123 dL_cut_4 rfl rfl (Nat.le_of_ble_eq_true rfl) (Nat.le_of_ble_eq_true rfl) hrv (Nat.le_of_ble_eq_true rfl) (Nat.le_of_ble_eq_true rfl) spec (fun h9 e9 => ?_)
  rw [show h9 = h from e9]
  refine rx_catch [] ⟨0, 9, 12, 18⟩ [⟨0, 9, 15, 103⟩] rfl (fun z9 hz9 => absurd hz9 List.not_mem_nil) rfl (by decide) kl_L_18 (hCA.1 eI (by simp)) (fun qe => ?_)
  refine r_astore_n (ls' := [(0, .ref x), (1, .int (iI z)), (2, .ref o), (3, .ref qe)]) dL_cut_12 (by decide) rfl ?_
  refine i_const (1) dL_cut_13 ?_
  refine r_ireturn rfl rfl dL_cut_14 ?_
  exact ⟨rfl, rfl⟩
set_option maxRecDepth 20000 in
set_option maxHeartbeats 1000000 in
theorem l_cut_S {G : xG} {h : xH} {x o : Nat} {z : Int} (hrv : x_RV G h RX11 x) (hCA : GCA G) (spec : CC G MX11_cut [.ref x, .int (iI z)] h (fun o9 h9 => o9 = .inr eS ∧ h9 = h)) : CC G ML_cut [.ref x, .int (iI z), .ref o] h (fun o9 h2 => o9 = .inl (some (.int (iI 2))) ∧ h2 = h) := by
  show RR G ML_cut 0 [(0, .ref x), (1, .int (iI z)), (2, .ref o)] [] h (xm_R ML_cut).cells (xm_R ML_cut).slots (fun o9 h2 => o9 = .inl (some (.int (iI 2))) ∧ h2 = h)
  refine r_aload_n dL_cut_0 2 rfl ?_
  refine i_const (0) dL_cut_1 ?_
  refine r_aload_n dL_cut_2 0 rfl ?_
  refine r_iload_n dL_cut_3 1 rfl ?_
  refine x_callV (E := eS) (As := [.int (iI z)]) (b := x) (rest := [.int (iI 0), .ref o]) kv_L_cut_123 dL_cut_4 rfl rfl (Nat.le_of_ble_eq_true rfl) (Nat.le_of_ble_eq_true rfl) hrv (Nat.le_of_ble_eq_true rfl) (Nat.le_of_ble_eq_true rfl) spec (fun h9 e9 => ?_)
  rw [show h9 = h from e9]
  refine rx_catch [⟨0, 9, 12, 18⟩] ⟨0, 9, 15, 103⟩ [] rfl (fun z9 hz9 => by rw [List.mem_singleton.mp hz9]; exact Or.inr ⟨by decide, _, kl_L_18, hCA.2 (eS, eI) (by simp)⟩) rfl (by decide) kl_L_103 (hCA.1 eS (by simp)) (fun qe => ?_)
  refine r_astore_n (ls' := [(0, .ref x), (1, .int (iI z)), (2, .ref o), (3, .ref qe)]) dL_cut_15 (by decide) rfl ?_
  refine i_const (2) dL_cut_16 ?_
  refine r_ireturn rfl rfl dL_cut_17 ?_
  exact ⟨rfl, rfl⟩
set_option maxRecDepth 20000 in
set_option maxHeartbeats 1000000 in
theorem l_stack_ok {G : xG} {h : xH} {x o : Nat} {z q : Int} (hrv : x_RV G h RX11 x) {v : Int32} {P : xH → Prop} (spec : CC G MX11_stack [.ref x, .int (iI z), .int (iI q)] h (fun o9 h9 => o9 = .inl (some (.int v)) ∧ P h9)) (hP : ∀ h9, P h9 → o ∈ h9.1 ∧ ∃ g, h9.2 o = .inl (G.2.1 2, 1, .inr (.inl g))) : CC G ML_stack [.ref x, .int (iI z), .int (iI q), .ref o] h (fun o9 h2 => o9 = .inl (some (.int (iI 0))) ∧ ∃ h9, P h9 ∧ h2.1 = h9.1 ∧ (∃ g, h2.2 o = .inl (G.2.1 2, 1, .inr (.inl g)) ∧ g 0 = v.toInt64) ∧ ∀ q9, q9 ≠ o → h2.2 q9 = h9.2 q9) := by
  show RR G ML_stack 0 [(0, .ref x), (1, .int (iI z)), (2, .int (iI q)), (3, .ref o)] [] h (xm_R ML_stack).cells (xm_R ML_stack).slots (fun o9 h2 => o9 = .inl (some (.int (iI 0))) ∧ ∃ h9, P h9 ∧ h2.1 = h9.1 ∧ (∃ g, h2.2 o = .inl (G.2.1 2, 1, .inr (.inl g)) ∧ g 0 = v.toInt64) ∧ ∀ q9, q9 ≠ o → h2.2 q9 = h9.2 q9)
  refine r_aload_n dL_stack_0 3 rfl ?_
  refine i_const (0) dL_stack_1 ?_
  refine r_aload_n dL_stack_2 0 rfl ?_
  refine r_iload_n dL_stack_3 1 rfl ?_
  refine r_iload_n dL_stack_4 2 rfl ?_
  refine k_callV (As := [.int (iI z), .int (iI q)]) (b := x) (rest := [.int (iI 0), .ref o]) (w := (some (.int v))) (st' := [.int v, .int (iI 0), .ref o]) kv_L_stack_126 dL_stack_5 rfl rfl (Nat.le_of_ble_eq_true rfl) (Nat.le_of_ble_eq_true rfl) hrv (Nat.le_of_ble_eq_true rfl) (Nat.le_of_ble_eq_true rfl) (spec) rfl (fun h9 e9 => ?_)
  obtain ⟨mo9, g9, fo9⟩ := hP h9 e9
  refine r_i2l dL_stack_8 ?_
  refine i_last 0 rfl dL_stack_9 mo9 fo9 (by decide) (by decide) (fun h1 e0_1 e1_1 e2_1 => ?_)
  refine r_goto dL_stack_10 (tgt := 25) (by decide) ?_
  refine i_const (0) dL_stack_25 ?_
  refine r_ireturn rfl rfl dL_stack_26 ?_
  exact ⟨rfl, h9, e9, e0_1, ⟨_, e1_1, rfl⟩, e2_1⟩
set_option maxRecDepth 20000 in
set_option maxHeartbeats 1000000 in
theorem l_stack_I {G : xG} {h : xH} {x o : Nat} {z q : Int} (hrv : x_RV G h RX11 x) (hCA : GCA G) (spec : CC G MX11_stack [.ref x, .int (iI z), .int (iI q)] h (fun o9 h9 => o9 = .inr eI ∧ h9 = h)) : CC G ML_stack [.ref x, .int (iI z), .int (iI q), .ref o] h (fun o9 h2 => o9 = .inl (some (.int (iI 1))) ∧ h2 = h) := by
  show RR G ML_stack 0 [(0, .ref x), (1, .int (iI z)), (2, .int (iI q)), (3, .ref o)] [] h (xm_R ML_stack).cells (xm_R ML_stack).slots (fun o9 h2 => o9 = .inl (some (.int (iI 1))) ∧ h2 = h)
  refine r_aload_n dL_stack_0 3 rfl ?_
  refine i_const (0) dL_stack_1 ?_
  refine r_aload_n dL_stack_2 0 rfl ?_
  refine r_iload_n dL_stack_3 1 rfl ?_
  refine r_iload_n dL_stack_4 2 rfl ?_
  refine x_callV (E := eI) (As := [.int (iI z), .int (iI q)]) (b := x) (rest := [.int (iI 0), .ref o]) kv_L_stack_126 dL_stack_5 rfl rfl (Nat.le_of_ble_eq_true rfl) (Nat.le_of_ble_eq_true rfl) hrv (Nat.le_of_ble_eq_true rfl) (Nat.le_of_ble_eq_true rfl) spec (fun h9 e9 => ?_)
  rw [show h9 = h from e9]
  refine rx_catch [] ⟨0, 10, 13, 18⟩ [⟨0, 10, 17, 13⟩, ⟨0, 10, 21, 103⟩] rfl (fun z9 hz9 => absurd hz9 List.not_mem_nil) rfl (by decide) kl_L_18 (hCA.1 eI (by simp)) (fun qe => ?_)
  refine r_astore (ls' := [(0, .ref x), (1, .int (iI z)), (2, .int (iI q)), (3, .ref o), (4, .ref qe)]) dL_stack_13 (by decide) rfl ?_
  refine i_const (1) dL_stack_15 ?_
  refine r_ireturn rfl rfl dL_stack_16 ?_
  exact ⟨rfl, rfl⟩
set_option maxRecDepth 20000 in
set_option maxHeartbeats 1000000 in
theorem l_stack_A {G : xG} {h : xH} {x o : Nat} {z q : Int} (hrv : x_RV G h RX11 x) (hCA : GCA G) (spec : CC G MX11_stack [.ref x, .int (iI z), .int (iI q)] h (fun o9 h9 => o9 = .inr eA ∧ h9 = h)) : CC G ML_stack [.ref x, .int (iI z), .int (iI q), .ref o] h (fun o9 h2 => o9 = .inl (some (.int (iI 2))) ∧ h2 = h) := by
  show RR G ML_stack 0 [(0, .ref x), (1, .int (iI z)), (2, .int (iI q)), (3, .ref o)] [] h (xm_R ML_stack).cells (xm_R ML_stack).slots (fun o9 h2 => o9 = .inl (some (.int (iI 2))) ∧ h2 = h)
  refine r_aload_n dL_stack_0 3 rfl ?_
  refine i_const (0) dL_stack_1 ?_
  refine r_aload_n dL_stack_2 0 rfl ?_
  refine r_iload_n dL_stack_3 1 rfl ?_
  refine r_iload_n dL_stack_4 2 rfl ?_
  refine x_callV (E := eA) (As := [.int (iI z), .int (iI q)]) (b := x) (rest := [.int (iI 0), .ref o]) kv_L_stack_126 dL_stack_5 rfl rfl (Nat.le_of_ble_eq_true rfl) (Nat.le_of_ble_eq_true rfl) hrv (Nat.le_of_ble_eq_true rfl) (Nat.le_of_ble_eq_true rfl) spec (fun h9 e9 => ?_)
  rw [show h9 = h from e9]
  refine rx_catch [⟨0, 10, 13, 18⟩] ⟨0, 10, 17, 13⟩ [⟨0, 10, 21, 103⟩] rfl (fun z9 hz9 => by rw [List.mem_singleton.mp hz9]; exact Or.inr ⟨by decide, _, kl_L_18, hCA.2 (eA, eI) (by simp)⟩) rfl (by decide) kl_L_13 (hCA.1 eA (by simp)) (fun qe => ?_)
  refine r_astore (ls' := [(0, .ref x), (1, .int (iI z)), (2, .int (iI q)), (3, .ref o), (4, .ref qe)]) dL_stack_17 (by decide) rfl ?_
  refine i_const (2) dL_stack_19 ?_
  refine r_ireturn rfl rfl dL_stack_20 ?_
  exact ⟨rfl, rfl⟩
set_option maxRecDepth 20000 in
set_option maxHeartbeats 1000000 in
theorem l_stack_S {G : xG} {h : xH} {x o : Nat} {z q : Int} (hrv : x_RV G h RX11 x) (hCA : GCA G) (spec : CC G MX11_stack [.ref x, .int (iI z), .int (iI q)] h (fun o9 h9 => o9 = .inr eS ∧ h9 = h)) : CC G ML_stack [.ref x, .int (iI z), .int (iI q), .ref o] h (fun o9 h2 => o9 = .inl (some (.int (iI 3))) ∧ h2 = h) := by
  show RR G ML_stack 0 [(0, .ref x), (1, .int (iI z)), (2, .int (iI q)), (3, .ref o)] [] h (xm_R ML_stack).cells (xm_R ML_stack).slots (fun o9 h2 => o9 = .inl (some (.int (iI 3))) ∧ h2 = h)
  refine r_aload_n dL_stack_0 3 rfl ?_
  refine i_const (0) dL_stack_1 ?_
  refine r_aload_n dL_stack_2 0 rfl ?_
  refine r_iload_n dL_stack_3 1 rfl ?_
  refine r_iload_n dL_stack_4 2 rfl ?_
  refine x_callV (E := eS) (As := [.int (iI z), .int (iI q)]) (b := x) (rest := [.int (iI 0), .ref o]) kv_L_stack_126 dL_stack_5 rfl rfl (Nat.le_of_ble_eq_true rfl) (Nat.le_of_ble_eq_true rfl) hrv (Nat.le_of_ble_eq_true rfl) (Nat.le_of_ble_eq_true rfl) spec (fun h9 e9 => ?_)
  rw [show h9 = h from e9]
  refine rx_catch [⟨0, 10, 13, 18⟩, ⟨0, 10, 17, 13⟩] ⟨0, 10, 21, 103⟩ [] rfl (fun z9 hz9 => by rcases (show z9 = ⟨0, 10, 13, 18⟩ ∨ z9 = ⟨0, 10, 17, 13⟩ by simpa using hz9) with e | e <;> rw [e]; exact Or.inr ⟨by decide, _, kl_L_18, hCA.2 (eS, eI) (by simp)⟩; exact Or.inr ⟨by decide, _, kl_L_13, hCA.2 (eS, eA) (by simp)⟩) rfl (by decide) kl_L_103 (hCA.1 eS (by simp)) (fun qe => ?_)
  refine r_astore (ls' := [(0, .ref x), (1, .int (iI z)), (2, .int (iI q)), (3, .ref o), (4, .ref qe)]) dL_stack_21 (by decide) rfl ?_
  refine i_const (3) dL_stack_23 ?_
  refine r_ireturn rfl rfl dL_stack_24 ?_
  exact ⟨rfl, rfl⟩
set_option maxRecDepth 20000 in
set_option maxHeartbeats 1000000 in
theorem l_addButter_ok {G : xG} {h : xH} {x o : Nat} {z q : Int} (hrv : x_RV G h RX11 x) {v : Int32} {P : xH → Prop} (spec : CC G MX11_addButter [.ref x, .int (iI z), .int (iI q)] h (fun o9 h9 => o9 = .inl (some (.int v)) ∧ P h9)) (hP : ∀ h9, P h9 → o ∈ h9.1 ∧ ∃ g, h9.2 o = .inl (G.2.1 2, 1, .inr (.inl g))) : CC G ML_addButter [.ref x, .int (iI z), .int (iI q), .ref o] h (fun o9 h2 => o9 = .inl (some (.int (iI 0))) ∧ ∃ h9, P h9 ∧ h2.1 = h9.1 ∧ (∃ g, h2.2 o = .inl (G.2.1 2, 1, .inr (.inl g)) ∧ g 0 = v.toInt64) ∧ ∀ q9, q9 ≠ o → h2.2 q9 = h9.2 q9) := by
  show RR G ML_addButter 0 [(0, .ref x), (1, .int (iI z)), (2, .int (iI q)), (3, .ref o)] [] h (xm_R ML_addButter).cells (xm_R ML_addButter).slots (fun o9 h2 => o9 = .inl (some (.int (iI 0))) ∧ ∃ h9, P h9 ∧ h2.1 = h9.1 ∧ (∃ g, h2.2 o = .inl (G.2.1 2, 1, .inr (.inl g)) ∧ g 0 = v.toInt64) ∧ ∀ q9, q9 ≠ o → h2.2 q9 = h9.2 q9)
  refine r_aload_n dL_addButter_0 3 rfl ?_
  refine i_const (0) dL_addButter_1 ?_
  refine r_aload_n dL_addButter_2 0 rfl ?_
  refine r_iload_n dL_addButter_3 1 rfl ?_
  refine r_iload_n dL_addButter_4 2 rfl ?_
  refine k_callV (As := [.int (iI z), .int (iI q)]) (b := x) (rest := [.int (iI 0), .ref o]) (w := (some (.int v))) (st' := [.int v, .int (iI 0), .ref o]) kv_L_addButter_129 dL_addButter_5 rfl rfl (Nat.le_of_ble_eq_true rfl) (Nat.le_of_ble_eq_true rfl) hrv (Nat.le_of_ble_eq_true rfl) (Nat.le_of_ble_eq_true rfl) (spec) rfl (fun h9 e9 => ?_)
  obtain ⟨mo9, g9, fo9⟩ := hP h9 e9
  refine r_i2l dL_addButter_8 ?_
  refine i_last 0 rfl dL_addButter_9 mo9 fo9 (by decide) (by decide) (fun h1 e0_1 e1_1 e2_1 => ?_)
  refine r_goto dL_addButter_10 (tgt := 25) (by decide) ?_
  refine i_const (0) dL_addButter_25 ?_
  refine r_ireturn rfl rfl dL_addButter_26 ?_
  exact ⟨rfl, h9, e9, e0_1, ⟨_, e1_1, rfl⟩, e2_1⟩
set_option maxRecDepth 20000 in
set_option maxHeartbeats 1000000 in
theorem l_addButter_I {G : xG} {h : xH} {x o : Nat} {z q : Int} (hrv : x_RV G h RX11 x) (hCA : GCA G) (spec : CC G MX11_addButter [.ref x, .int (iI z), .int (iI q)] h (fun o9 h9 => o9 = .inr eI ∧ h9 = h)) : CC G ML_addButter [.ref x, .int (iI z), .int (iI q), .ref o] h (fun o9 h2 => o9 = .inl (some (.int (iI 1))) ∧ h2 = h) := by
  show RR G ML_addButter 0 [(0, .ref x), (1, .int (iI z)), (2, .int (iI q)), (3, .ref o)] [] h (xm_R ML_addButter).cells (xm_R ML_addButter).slots (fun o9 h2 => o9 = .inl (some (.int (iI 1))) ∧ h2 = h)
  refine r_aload_n dL_addButter_0 3 rfl ?_
  refine i_const (0) dL_addButter_1 ?_
  refine r_aload_n dL_addButter_2 0 rfl ?_
  refine r_iload_n dL_addButter_3 1 rfl ?_
  refine r_iload_n dL_addButter_4 2 rfl ?_
  refine x_callV (E := eI) (As := [.int (iI z), .int (iI q)]) (b := x) (rest := [.int (iI 0), .ref o]) kv_L_addButter_129 dL_addButter_5 rfl rfl (Nat.le_of_ble_eq_true rfl) (Nat.le_of_ble_eq_true rfl) hrv (Nat.le_of_ble_eq_true rfl) (Nat.le_of_ble_eq_true rfl) spec (fun h9 e9 => ?_)
  rw [show h9 = h from e9]
  refine rx_catch [] ⟨0, 10, 13, 18⟩ [⟨0, 10, 17, 13⟩, ⟨0, 10, 21, 103⟩] rfl (fun z9 hz9 => absurd hz9 List.not_mem_nil) rfl (by decide) kl_L_18 (hCA.1 eI (by simp)) (fun qe => ?_)
  refine r_astore (ls' := [(0, .ref x), (1, .int (iI z)), (2, .int (iI q)), (3, .ref o), (4, .ref qe)]) dL_addButter_13 (by decide) rfl ?_
  refine i_const (1) dL_addButter_15 ?_
  refine r_ireturn rfl rfl dL_addButter_16 ?_
  exact ⟨rfl, rfl⟩
set_option maxRecDepth 20000 in
set_option maxHeartbeats 1000000 in
theorem l_addButter_A {G : xG} {h : xH} {x o : Nat} {z q : Int} (hrv : x_RV G h RX11 x) (hCA : GCA G) (spec : CC G MX11_addButter [.ref x, .int (iI z), .int (iI q)] h (fun o9 h9 => o9 = .inr eA ∧ h9 = h)) : CC G ML_addButter [.ref x, .int (iI z), .int (iI q), .ref o] h (fun o9 h2 => o9 = .inl (some (.int (iI 2))) ∧ h2 = h) := by
  show RR G ML_addButter 0 [(0, .ref x), (1, .int (iI z)), (2, .int (iI q)), (3, .ref o)] [] h (xm_R ML_addButter).cells (xm_R ML_addButter).slots (fun o9 h2 => o9 = .inl (some (.int (iI 2))) ∧ h2 = h)
  refine r_aload_n dL_addButter_0 3 rfl ?_
  refine i_const (0) dL_addButter_1 ?_
  refine r_aload_n dL_addButter_2 0 rfl ?_
  refine r_iload_n dL_addButter_3 1 rfl ?_
  refine r_iload_n dL_addButter_4 2 rfl ?_
  refine x_callV (E := eA) (As := [.int (iI z), .int (iI q)]) (b := x) (rest := [.int (iI 0), .ref o]) kv_L_addButter_129 dL_addButter_5 rfl rfl (Nat.le_of_ble_eq_true rfl) (Nat.le_of_ble_eq_true rfl) hrv (Nat.le_of_ble_eq_true rfl) (Nat.le_of_ble_eq_true rfl) spec (fun h9 e9 => ?_)
  rw [show h9 = h from e9]
  refine rx_catch [⟨0, 10, 13, 18⟩] ⟨0, 10, 17, 13⟩ [⟨0, 10, 21, 103⟩] rfl (fun z9 hz9 => by rw [List.mem_singleton.mp hz9]; exact Or.inr ⟨by decide, _, kl_L_18, hCA.2 (eA, eI) (by simp)⟩) rfl (by decide) kl_L_13 (hCA.1 eA (by simp)) (fun qe => ?_)
  refine r_astore (ls' := [(0, .ref x), (1, .int (iI z)), (2, .int (iI q)), (3, .ref o), (4, .ref qe)]) dL_addButter_17 (by decide) rfl ?_
  refine i_const (2) dL_addButter_19 ?_
  refine r_ireturn rfl rfl dL_addButter_20 ?_
  exact ⟨rfl, rfl⟩
set_option maxRecDepth 20000 in
set_option maxHeartbeats 1000000 in
theorem l_addButter_S {G : xG} {h : xH} {x o : Nat} {z q : Int} (hrv : x_RV G h RX11 x) (hCA : GCA G) (spec : CC G MX11_addButter [.ref x, .int (iI z), .int (iI q)] h (fun o9 h9 => o9 = .inr eS ∧ h9 = h)) : CC G ML_addButter [.ref x, .int (iI z), .int (iI q), .ref o] h (fun o9 h2 => o9 = .inl (some (.int (iI 3))) ∧ h2 = h) := by
  show RR G ML_addButter 0 [(0, .ref x), (1, .int (iI z)), (2, .int (iI q)), (3, .ref o)] [] h (xm_R ML_addButter).cells (xm_R ML_addButter).slots (fun o9 h2 => o9 = .inl (some (.int (iI 3))) ∧ h2 = h)
  refine r_aload_n dL_addButter_0 3 rfl ?_
  refine i_const (0) dL_addButter_1 ?_
  refine r_aload_n dL_addButter_2 0 rfl ?_
  refine r_iload_n dL_addButter_3 1 rfl ?_
  refine r_iload_n dL_addButter_4 2 rfl ?_
  refine x_callV (E := eS) (As := [.int (iI z), .int (iI q)]) (b := x) (rest := [.int (iI 0), .ref o]) kv_L_addButter_129 dL_addButter_5 rfl rfl (Nat.le_of_ble_eq_true rfl) (Nat.le_of_ble_eq_true rfl) hrv (Nat.le_of_ble_eq_true rfl) (Nat.le_of_ble_eq_true rfl) spec (fun h9 e9 => ?_)
  rw [show h9 = h from e9]
  refine rx_catch [⟨0, 10, 13, 18⟩, ⟨0, 10, 17, 13⟩] ⟨0, 10, 21, 103⟩ [] rfl (fun z9 hz9 => by rcases (show z9 = ⟨0, 10, 13, 18⟩ ∨ z9 = ⟨0, 10, 17, 13⟩ by simpa using hz9) with e | e <;> rw [e]; exact Or.inr ⟨by decide, _, kl_L_18, hCA.2 (eS, eI) (by simp)⟩; exact Or.inr ⟨by decide, _, kl_L_13, hCA.2 (eS, eA) (by simp)⟩) rfl (by decide) kl_L_103 (hCA.1 eS (by simp)) (fun qe => ?_)
  refine r_astore (ls' := [(0, .ref x), (1, .int (iI z)), (2, .int (iI q)), (3, .ref o), (4, .ref qe)]) dL_addButter_21 (by decide) rfl ?_
  refine i_const (3) dL_addButter_23 ?_
  refine r_ireturn rfl rfl dL_addButter_24 ?_
  exact ⟨rfl, rfl⟩
set_option maxRecDepth 20000 in
set_option maxHeartbeats 1000000 in
theorem l_buyFlour_ok {G : xG} {h : xH} {x o : Nat} {z : Int} (hrv : x_RV G h RX11 x) {v : Int32} {P : xH → Prop} (spec : CC G MX11_buyFlour [.ref x, .int (iI z)] h (fun o9 h9 => o9 = .inl (some (.int v)) ∧ P h9)) (hP : ∀ h9, P h9 → o ∈ h9.1 ∧ ∃ g, h9.2 o = .inl (G.2.1 2, 1, .inr (.inl g))) : CC G ML_buyFlour [.ref x, .int (iI z), .ref o] h (fun o9 h2 => o9 = .inl (some (.int (iI 0))) ∧ ∃ h9, P h9 ∧ h2.1 = h9.1 ∧ (∃ g, h2.2 o = .inl (G.2.1 2, 1, .inr (.inl g)) ∧ g 0 = v.toInt64) ∧ ∀ q9, q9 ≠ o → h2.2 q9 = h9.2 q9) := by
  show RR G ML_buyFlour 0 [(0, .ref x), (1, .int (iI z)), (2, .ref o)] [] h (xm_R ML_buyFlour).cells (xm_R ML_buyFlour).slots (fun o9 h2 => o9 = .inl (some (.int (iI 0))) ∧ ∃ h9, P h9 ∧ h2.1 = h9.1 ∧ (∃ g, h2.2 o = .inl (G.2.1 2, 1, .inr (.inl g)) ∧ g 0 = v.toInt64) ∧ ∀ q9, q9 ≠ o → h2.2 q9 = h9.2 q9)
  refine r_aload_n dL_buyFlour_0 2 rfl ?_
  refine i_const (0) dL_buyFlour_1 ?_
  refine r_aload_n dL_buyFlour_2 0 rfl ?_
  refine r_iload_n dL_buyFlour_3 1 rfl ?_
  refine k_callV (As := [.int (iI z)]) (b := x) (rest := [.int (iI 0), .ref o]) (w := (some (.int v))) (st' := [.int v, .int (iI 0), .ref o]) kv_L_buyFlour_132 dL_buyFlour_4 rfl rfl (Nat.le_of_ble_eq_true rfl) (Nat.le_of_ble_eq_true rfl) hrv (Nat.le_of_ble_eq_true rfl) (Nat.le_of_ble_eq_true rfl) (spec) rfl (fun h9 e9 => ?_)
  obtain ⟨mo9, g9, fo9⟩ := hP h9 e9
  refine r_i2l dL_buyFlour_7 ?_
  refine i_last 0 rfl dL_buyFlour_8 mo9 fo9 (by decide) (by decide) (fun h1 e0_1 e1_1 e2_1 => ?_)
  refine r_goto dL_buyFlour_9 (tgt := 18) (by decide) ?_
  refine i_const (0) dL_buyFlour_18 ?_
  refine r_ireturn rfl rfl dL_buyFlour_19 ?_
  exact ⟨rfl, h9, e9, e0_1, ⟨_, e1_1, rfl⟩, e2_1⟩
set_option maxRecDepth 20000 in
set_option maxHeartbeats 1000000 in
theorem l_buyFlour_A {G : xG} {h : xH} {x o : Nat} {z : Int} (hrv : x_RV G h RX11 x) (hCA : GCA G) (spec : CC G MX11_buyFlour [.ref x, .int (iI z)] h (fun o9 h9 => o9 = .inr eA ∧ h9 = h)) : CC G ML_buyFlour [.ref x, .int (iI z), .ref o] h (fun o9 h2 => o9 = .inl (some (.int (iI 1))) ∧ h2 = h) := by
  show RR G ML_buyFlour 0 [(0, .ref x), (1, .int (iI z)), (2, .ref o)] [] h (xm_R ML_buyFlour).cells (xm_R ML_buyFlour).slots (fun o9 h2 => o9 = .inl (some (.int (iI 1))) ∧ h2 = h)
  refine r_aload_n dL_buyFlour_0 2 rfl ?_
  refine i_const (0) dL_buyFlour_1 ?_
  refine r_aload_n dL_buyFlour_2 0 rfl ?_
  refine r_iload_n dL_buyFlour_3 1 rfl ?_
  refine x_callV (E := eA) (As := [.int (iI z)]) (b := x) (rest := [.int (iI 0), .ref o]) kv_L_buyFlour_132 dL_buyFlour_4 rfl rfl (Nat.le_of_ble_eq_true rfl) (Nat.le_of_ble_eq_true rfl) hrv (Nat.le_of_ble_eq_true rfl) (Nat.le_of_ble_eq_true rfl) spec (fun h9 e9 => ?_)
  rw [show h9 = h from e9]
  refine rx_catch [] ⟨0, 9, 12, 13⟩ [⟨0, 9, 15, 103⟩] rfl (fun z9 hz9 => absurd hz9 List.not_mem_nil) rfl (by decide) kl_L_13 (hCA.1 eA (by simp)) (fun qe => ?_)
  refine r_astore_n (ls' := [(0, .ref x), (1, .int (iI z)), (2, .ref o), (3, .ref qe)]) dL_buyFlour_12 (by decide) rfl ?_
  refine i_const (1) dL_buyFlour_13 ?_
  refine r_ireturn rfl rfl dL_buyFlour_14 ?_
  exact ⟨rfl, rfl⟩
set_option maxRecDepth 20000 in
set_option maxHeartbeats 1000000 in
theorem l_buyFlour_S {G : xG} {h : xH} {x o : Nat} {z : Int} (hrv : x_RV G h RX11 x) (hCA : GCA G) (spec : CC G MX11_buyFlour [.ref x, .int (iI z)] h (fun o9 h9 => o9 = .inr eS ∧ h9 = h)) : CC G ML_buyFlour [.ref x, .int (iI z), .ref o] h (fun o9 h2 => o9 = .inl (some (.int (iI 2))) ∧ h2 = h) := by
  show RR G ML_buyFlour 0 [(0, .ref x), (1, .int (iI z)), (2, .ref o)] [] h (xm_R ML_buyFlour).cells (xm_R ML_buyFlour).slots (fun o9 h2 => o9 = .inl (some (.int (iI 2))) ∧ h2 = h)
  refine r_aload_n dL_buyFlour_0 2 rfl ?_
  refine i_const (0) dL_buyFlour_1 ?_
  refine r_aload_n dL_buyFlour_2 0 rfl ?_
  refine r_iload_n dL_buyFlour_3 1 rfl ?_
  refine x_callV (E := eS) (As := [.int (iI z)]) (b := x) (rest := [.int (iI 0), .ref o]) kv_L_buyFlour_132 dL_buyFlour_4 rfl rfl (Nat.le_of_ble_eq_true rfl) (Nat.le_of_ble_eq_true rfl) hrv (Nat.le_of_ble_eq_true rfl) (Nat.le_of_ble_eq_true rfl) spec (fun h9 e9 => ?_)
  rw [show h9 = h from e9]
  refine rx_catch [⟨0, 9, 12, 13⟩] ⟨0, 9, 15, 103⟩ [] rfl (fun z9 hz9 => by rw [List.mem_singleton.mp hz9]; exact Or.inr ⟨by decide, _, kl_L_13, hCA.2 (eS, eA) (by simp)⟩) rfl (by decide) kl_L_103 (hCA.1 eS (by simp)) (fun qe => ?_)
  refine r_astore_n (ls' := [(0, .ref x), (1, .int (iI z)), (2, .ref o), (3, .ref qe)]) dL_buyFlour_15 (by decide) rfl ?_
  refine i_const (2) dL_buyFlour_16 ?_
  refine r_ireturn rfl rfl dL_buyFlour_17 ?_
  exact ⟨rfl, rfl⟩
set_option maxRecDepth 20000 in
set_option maxHeartbeats 1000000 in
theorem l_runScript_ok {G : xG} {h : xH} {x o : Nat} {z : Int} (hrv : x_RV G h RX11 x) {v : Int32} {P : xH → Prop} (spec : CC G MX11_runScript [.ref x, .int (iI z)] h (fun o9 h9 => o9 = .inl (some (.int v)) ∧ P h9)) (hP : ∀ h9, P h9 → o ∈ h9.1 ∧ ∃ g, h9.2 o = .inl (G.2.1 2, 1, .inr (.inl g))) : CC G ML_runScript [.ref x, .int (iI z), .ref o] h (fun o9 h2 => o9 = .inl (some (.int (iI 0))) ∧ ∃ h9, P h9 ∧ h2.1 = h9.1 ∧ (∃ g, h2.2 o = .inl (G.2.1 2, 1, .inr (.inl g)) ∧ g 0 = v.toInt64) ∧ ∀ q9, q9 ≠ o → h2.2 q9 = h9.2 q9) := by
  show RR G ML_runScript 0 [(0, .ref x), (1, .int (iI z)), (2, .ref o)] [] h (xm_R ML_runScript).cells (xm_R ML_runScript).slots (fun o9 h2 => o9 = .inl (some (.int (iI 0))) ∧ ∃ h9, P h9 ∧ h2.1 = h9.1 ∧ (∃ g, h2.2 o = .inl (G.2.1 2, 1, .inr (.inl g)) ∧ g 0 = v.toInt64) ∧ ∀ q9, q9 ≠ o → h2.2 q9 = h9.2 q9)
  refine r_aload_n dL_runScript_0 2 rfl ?_
  refine i_const (0) dL_runScript_1 ?_
  refine r_aload_n dL_runScript_2 0 rfl ?_
  refine r_iload_n dL_runScript_3 1 rfl ?_
  refine k_callV (As := [.int (iI z)]) (b := x) (rest := [.int (iI 0), .ref o]) (w := (some (.int v))) (st' := [.int v, .int (iI 0), .ref o]) kv_L_runScript_135 dL_runScript_4 rfl rfl (Nat.le_of_ble_eq_true rfl) (Nat.le_of_ble_eq_true rfl) hrv (Nat.le_of_ble_eq_true rfl) (Nat.le_of_ble_eq_true rfl) (spec) rfl (fun h9 e9 => ?_)
  obtain ⟨mo9, g9, fo9⟩ := hP h9 e9
  refine r_i2l dL_runScript_7 ?_
  refine i_last 0 rfl dL_runScript_8 mo9 fo9 (by decide) (by decide) (fun h1 e0_1 e1_1 e2_1 => ?_)
  refine r_goto dL_runScript_9 (tgt := 15) (by decide) ?_
  refine i_const (0) dL_runScript_15 ?_
  refine r_ireturn rfl rfl dL_runScript_16 ?_
  exact ⟨rfl, h9, e9, e0_1, ⟨_, e1_1, rfl⟩, e2_1⟩
set_option maxRecDepth 20000 in
set_option maxHeartbeats 1000000 in
theorem l_runScript_A {G : xG} {h : xH} {x o : Nat} {z : Int} (hrv : x_RV G h RX11 x) (hCA : GCA G) (spec : CC G MX11_runScript [.ref x, .int (iI z)] h (fun o9 h9 => o9 = .inr eA ∧ h9 = h)) : CC G ML_runScript [.ref x, .int (iI z), .ref o] h (fun o9 h2 => o9 = .inl (some (.int (iI 1))) ∧ h2 = h) := by
  show RR G ML_runScript 0 [(0, .ref x), (1, .int (iI z)), (2, .ref o)] [] h (xm_R ML_runScript).cells (xm_R ML_runScript).slots (fun o9 h2 => o9 = .inl (some (.int (iI 1))) ∧ h2 = h)
  refine r_aload_n dL_runScript_0 2 rfl ?_
  refine i_const (0) dL_runScript_1 ?_
  refine r_aload_n dL_runScript_2 0 rfl ?_
  refine r_iload_n dL_runScript_3 1 rfl ?_
  refine x_callV (E := eA) (As := [.int (iI z)]) (b := x) (rest := [.int (iI 0), .ref o]) kv_L_runScript_135 dL_runScript_4 rfl rfl (Nat.le_of_ble_eq_true rfl) (Nat.le_of_ble_eq_true rfl) hrv (Nat.le_of_ble_eq_true rfl) (Nat.le_of_ble_eq_true rfl) spec (fun h9 e9 => ?_)
  rw [show h9 = h from e9]
  refine rx_catch [] ⟨0, 9, 12, 13⟩ [] rfl (fun z9 hz9 => absurd hz9 List.not_mem_nil) rfl (by decide) kl_L_13 (hCA.1 eA (by simp)) (fun qe => ?_)
  refine r_astore_n (ls' := [(0, .ref x), (1, .int (iI z)), (2, .ref o), (3, .ref qe)]) dL_runScript_12 (by decide) rfl ?_
  refine i_const (1) dL_runScript_13 ?_
  refine r_ireturn rfl rfl dL_runScript_14 ?_
  exact ⟨rfl, rfl⟩
set_option maxRecDepth 20000 in
set_option maxHeartbeats 1000000 in
theorem l_writeSheet_ok {G : xG} {h : xH} {x o : Nat} {z : Int} (hrv : x_RV G h RX11 x) {v : Int32} {P : xH → Prop} (spec : CC G MX11_writeSheet [.ref x, .int (iI z)] h (fun o9 h9 => o9 = .inl (some (.int v)) ∧ P h9)) (hP : ∀ h9, P h9 → o ∈ h9.1 ∧ ∃ g, h9.2 o = .inl (G.2.1 2, 1, .inr (.inl g))) : CC G ML_writeSheet [.ref x, .int (iI z), .ref o] h (fun o9 h2 => o9 = .inl (some (.int (iI 0))) ∧ ∃ h9, P h9 ∧ h2.1 = h9.1 ∧ (∃ g, h2.2 o = .inl (G.2.1 2, 1, .inr (.inl g)) ∧ g 0 = v.toInt64) ∧ ∀ q9, q9 ≠ o → h2.2 q9 = h9.2 q9) := by
  show RR G ML_writeSheet 0 [(0, .ref x), (1, .int (iI z)), (2, .ref o)] [] h (xm_R ML_writeSheet).cells (xm_R ML_writeSheet).slots (fun o9 h2 => o9 = .inl (some (.int (iI 0))) ∧ ∃ h9, P h9 ∧ h2.1 = h9.1 ∧ (∃ g, h2.2 o = .inl (G.2.1 2, 1, .inr (.inl g)) ∧ g 0 = v.toInt64) ∧ ∀ q9, q9 ≠ o → h2.2 q9 = h9.2 q9)
  refine r_aload_n dL_writeSheet_0 2 rfl ?_
  refine i_const (0) dL_writeSheet_1 ?_
  refine r_aload_n dL_writeSheet_2 0 rfl ?_
  refine r_iload_n dL_writeSheet_3 1 rfl ?_
  refine k_callV (As := [.int (iI z)]) (b := x) (rest := [.int (iI 0), .ref o]) (w := (some (.int v))) (st' := [.int v, .int (iI 0), .ref o]) kv_L_writeSheet_138 dL_writeSheet_4 rfl rfl (Nat.le_of_ble_eq_true rfl) (Nat.le_of_ble_eq_true rfl) hrv (Nat.le_of_ble_eq_true rfl) (Nat.le_of_ble_eq_true rfl) (spec) rfl (fun h9 e9 => ?_)
  obtain ⟨mo9, g9, fo9⟩ := hP h9 e9
  refine r_i2l dL_writeSheet_7 ?_
  refine i_last 0 rfl dL_writeSheet_8 mo9 fo9 (by decide) (by decide) (fun h1 e0_1 e1_1 e2_1 => ?_)
  refine r_goto dL_writeSheet_9 (tgt := 15) (by decide) ?_
  refine i_const (0) dL_writeSheet_15 ?_
  refine r_ireturn rfl rfl dL_writeSheet_16 ?_
  exact ⟨rfl, h9, e9, e0_1, ⟨_, e1_1, rfl⟩, e2_1⟩
set_option maxRecDepth 20000 in
set_option maxHeartbeats 1000000 in
theorem l_writeSheet_I {G : xG} {h : xH} {x o : Nat} {z : Int} (hrv : x_RV G h RX11 x) (hCA : GCA G) (spec : CC G MX11_writeSheet [.ref x, .int (iI z)] h (fun o9 h9 => o9 = .inr eI ∧ h9 = h)) : CC G ML_writeSheet [.ref x, .int (iI z), .ref o] h (fun o9 h2 => o9 = .inl (some (.int (iI 1))) ∧ h2 = h) := by
  show RR G ML_writeSheet 0 [(0, .ref x), (1, .int (iI z)), (2, .ref o)] [] h (xm_R ML_writeSheet).cells (xm_R ML_writeSheet).slots (fun o9 h2 => o9 = .inl (some (.int (iI 1))) ∧ h2 = h)
  refine r_aload_n dL_writeSheet_0 2 rfl ?_
  refine i_const (0) dL_writeSheet_1 ?_
  refine r_aload_n dL_writeSheet_2 0 rfl ?_
  refine r_iload_n dL_writeSheet_3 1 rfl ?_
  refine x_callV (E := eI) (As := [.int (iI z)]) (b := x) (rest := [.int (iI 0), .ref o]) kv_L_writeSheet_138 dL_writeSheet_4 rfl rfl (Nat.le_of_ble_eq_true rfl) (Nat.le_of_ble_eq_true rfl) hrv (Nat.le_of_ble_eq_true rfl) (Nat.le_of_ble_eq_true rfl) spec (fun h9 e9 => ?_)
  rw [show h9 = h from e9]
  refine rx_catch [] ⟨0, 9, 12, 18⟩ [] rfl (fun z9 hz9 => absurd hz9 List.not_mem_nil) rfl (by decide) kl_L_18 (hCA.1 eI (by simp)) (fun qe => ?_)
  refine r_astore_n (ls' := [(0, .ref x), (1, .int (iI z)), (2, .ref o), (3, .ref qe)]) dL_writeSheet_12 (by decide) rfl ?_
  refine i_const (1) dL_writeSheet_13 ?_
  refine r_ireturn rfl rfl dL_writeSheet_14 ?_
  exact ⟨rfl, rfl⟩
set_option maxRecDepth 20000 in
set_option maxHeartbeats 1000000 in
theorem l_outputByte_ok {G : xG} {h : xH} {x o : Nat} {z : Int} (hrv : x_RV G h RX11 x) {v : Int32} {P : xH → Prop} (spec : CC G MX11_outputByte [.ref x, .int (iI z)] h (fun o9 h9 => o9 = .inl (some (.int v)) ∧ P h9)) (hP : ∀ h9, P h9 → o ∈ h9.1 ∧ ∃ g, h9.2 o = .inl (G.2.1 2, 1, .inr (.inl g))) : CC G ML_outputByte [.ref x, .int (iI z), .ref o] h (fun o9 h2 => o9 = .inl (some (.int (iI 0))) ∧ ∃ h9, P h9 ∧ h2.1 = h9.1 ∧ (∃ g, h2.2 o = .inl (G.2.1 2, 1, .inr (.inl g)) ∧ g 0 = v.toInt64) ∧ ∀ q9, q9 ≠ o → h2.2 q9 = h9.2 q9) := by
  show RR G ML_outputByte 0 [(0, .ref x), (1, .int (iI z)), (2, .ref o)] [] h (xm_R ML_outputByte).cells (xm_R ML_outputByte).slots (fun o9 h2 => o9 = .inl (some (.int (iI 0))) ∧ ∃ h9, P h9 ∧ h2.1 = h9.1 ∧ (∃ g, h2.2 o = .inl (G.2.1 2, 1, .inr (.inl g)) ∧ g 0 = v.toInt64) ∧ ∀ q9, q9 ≠ o → h2.2 q9 = h9.2 q9)
  refine r_aload_n dL_outputByte_0 2 rfl ?_
  refine i_const (0) dL_outputByte_1 ?_
  refine r_aload_n dL_outputByte_2 0 rfl ?_
  refine r_iload_n dL_outputByte_3 1 rfl ?_
  refine k_callV (As := [.int (iI z)]) (b := x) (rest := [.int (iI 0), .ref o]) (w := (some (.int v))) (st' := [.int v, .int (iI 0), .ref o]) kv_L_outputByte_141 dL_outputByte_4 rfl rfl (Nat.le_of_ble_eq_true rfl) (Nat.le_of_ble_eq_true rfl) hrv (Nat.le_of_ble_eq_true rfl) (Nat.le_of_ble_eq_true rfl) (spec) rfl (fun h9 e9 => ?_)
  obtain ⟨mo9, g9, fo9⟩ := hP h9 e9
  refine r_i2l dL_outputByte_7 ?_
  refine i_last 0 rfl dL_outputByte_8 mo9 fo9 (by decide) (by decide) (fun h1 e0_1 e1_1 e2_1 => ?_)
  refine r_goto dL_outputByte_9 (tgt := 15) (by decide) ?_
  refine i_const (0) dL_outputByte_15 ?_
  refine r_ireturn rfl rfl dL_outputByte_16 ?_
  exact ⟨rfl, h9, e9, e0_1, ⟨_, e1_1, rfl⟩, e2_1⟩
set_option maxRecDepth 20000 in
set_option maxHeartbeats 1000000 in
theorem l_outputByte_I {G : xG} {h : xH} {x o : Nat} {z : Int} (hrv : x_RV G h RX11 x) (hCA : GCA G) (spec : CC G MX11_outputByte [.ref x, .int (iI z)] h (fun o9 h9 => o9 = .inr eI ∧ h9 = h)) : CC G ML_outputByte [.ref x, .int (iI z), .ref o] h (fun o9 h2 => o9 = .inl (some (.int (iI 1))) ∧ h2 = h) := by
  show RR G ML_outputByte 0 [(0, .ref x), (1, .int (iI z)), (2, .ref o)] [] h (xm_R ML_outputByte).cells (xm_R ML_outputByte).slots (fun o9 h2 => o9 = .inl (some (.int (iI 1))) ∧ h2 = h)
  refine r_aload_n dL_outputByte_0 2 rfl ?_
  refine i_const (0) dL_outputByte_1 ?_
  refine r_aload_n dL_outputByte_2 0 rfl ?_
  refine r_iload_n dL_outputByte_3 1 rfl ?_
  refine x_callV (E := eI) (As := [.int (iI z)]) (b := x) (rest := [.int (iI 0), .ref o]) kv_L_outputByte_141 dL_outputByte_4 rfl rfl (Nat.le_of_ble_eq_true rfl) (Nat.le_of_ble_eq_true rfl) hrv (Nat.le_of_ble_eq_true rfl) (Nat.le_of_ble_eq_true rfl) spec (fun h9 e9 => ?_)
  rw [show h9 = h from e9]
  refine rx_catch [] ⟨0, 9, 12, 18⟩ [] rfl (fun z9 hz9 => absurd hz9 List.not_mem_nil) rfl (by decide) kl_L_18 (hCA.1 eI (by simp)) (fun qe => ?_)
  refine r_astore_n (ls' := [(0, .ref x), (1, .int (iI z)), (2, .ref o), (3, .ref qe)]) dL_outputByte_12 (by decide) rfl ?_
  refine i_const (1) dL_outputByte_13 ?_
  refine r_ireturn rfl rfl dL_outputByte_14 ?_
  exact ⟨rfl, rfl⟩
set_option maxRecDepth 20000 in
set_option maxHeartbeats 1000000 in
theorem l_undo_ok {G : xG} {h : xH} {x o : Nat} (hrv : x_RV G h RX11 x) {v : Int32} {P : xH → Prop} (spec : CC G MX11_undo [.ref x] h (fun o9 h9 => o9 = .inl (some (.int v)) ∧ P h9)) (hP : ∀ h9, P h9 → o ∈ h9.1 ∧ ∃ g, h9.2 o = .inl (G.2.1 2, 1, .inr (.inl g))) : CC G ML_undo [.ref x, .ref o] h (fun o9 h2 => o9 = .inl (some (.int (iI 0))) ∧ ∃ h9, P h9 ∧ h2.1 = h9.1 ∧ (∃ g, h2.2 o = .inl (G.2.1 2, 1, .inr (.inl g)) ∧ g 0 = v.toInt64) ∧ ∀ q9, q9 ≠ o → h2.2 q9 = h9.2 q9) := by
  show RR G ML_undo 0 [(0, .ref x), (1, .ref o)] [] h (xm_R ML_undo).cells (xm_R ML_undo).slots (fun o9 h2 => o9 = .inl (some (.int (iI 0))) ∧ ∃ h9, P h9 ∧ h2.1 = h9.1 ∧ (∃ g, h2.2 o = .inl (G.2.1 2, 1, .inr (.inl g)) ∧ g 0 = v.toInt64) ∧ ∀ q9, q9 ≠ o → h2.2 q9 = h9.2 q9)
  refine r_aload_n dL_undo_0 1 rfl ?_
  refine i_const (0) dL_undo_1 ?_
  refine r_aload_n dL_undo_2 0 rfl ?_
  refine k_callV (As := []) (b := x) (rest := [.int (iI 0), .ref o]) (w := (some (.int v))) (st' := [.int v, .int (iI 0), .ref o]) kv_L_undo_144 dL_undo_3 rfl rfl (Nat.le_of_ble_eq_true rfl) (Nat.le_of_ble_eq_true rfl) hrv (Nat.le_of_ble_eq_true rfl) (Nat.le_of_ble_eq_true rfl) (spec) rfl (fun h9 e9 => ?_)
  obtain ⟨mo9, g9, fo9⟩ := hP h9 e9
  refine r_i2l dL_undo_6 ?_
  refine i_last 0 rfl dL_undo_7 mo9 fo9 (by decide) (by decide) (fun h1 e0_1 e1_1 e2_1 => ?_)
  refine r_goto dL_undo_8 (tgt := 14) (by decide) ?_
  refine i_const (0) dL_undo_14 ?_
  refine r_ireturn rfl rfl dL_undo_15 ?_
  exact ⟨rfl, h9, e9, e0_1, ⟨_, e1_1, rfl⟩, e2_1⟩
set_option maxRecDepth 20000 in
set_option maxHeartbeats 1000000 in
theorem l_undo_S {G : xG} {h : xH} {x o : Nat} (hrv : x_RV G h RX11 x) (hCA : GCA G) (spec : CC G MX11_undo [.ref x] h (fun o9 h9 => o9 = .inr eS ∧ h9 = h)) : CC G ML_undo [.ref x, .ref o] h (fun o9 h2 => o9 = .inl (some (.int (iI 1))) ∧ h2 = h) := by
  show RR G ML_undo 0 [(0, .ref x), (1, .ref o)] [] h (xm_R ML_undo).cells (xm_R ML_undo).slots (fun o9 h2 => o9 = .inl (some (.int (iI 1))) ∧ h2 = h)
  refine r_aload_n dL_undo_0 1 rfl ?_
  refine i_const (0) dL_undo_1 ?_
  refine r_aload_n dL_undo_2 0 rfl ?_
  refine x_callV (E := eS) (As := []) (b := x) (rest := [.int (iI 0), .ref o]) kv_L_undo_144 dL_undo_3 rfl rfl (Nat.le_of_ble_eq_true rfl) (Nat.le_of_ble_eq_true rfl) hrv (Nat.le_of_ble_eq_true rfl) (Nat.le_of_ble_eq_true rfl) spec (fun h9 e9 => ?_)
  rw [show h9 = h from e9]
  refine rx_catch [] ⟨0, 8, 11, 103⟩ [] rfl (fun z9 hz9 => absurd hz9 List.not_mem_nil) rfl (by decide) kl_L_103 (hCA.1 eS (by simp)) (fun qe => ?_)
  refine r_astore_n (ls' := [(0, .ref x), (1, .ref o), (2, .ref qe)]) dL_undo_11 (by decide) rfl ?_
  refine i_const (1) dL_undo_12 ?_
  refine r_ireturn rfl rfl dL_undo_13 ?_
  exact ⟨rfl, rfl⟩
set_option maxRecDepth 20000 in
set_option maxHeartbeats 1000000 in
theorem l_restoreSnapshot_ok {G : xG} {h : xH} {x o : Nat} (hrv : x_RV G h RX11 x) {v : Int32} {P : xH → Prop} (spec : CC G MX11_restoreSnapshot [.ref x] h (fun o9 h9 => o9 = .inl (some (.int v)) ∧ P h9)) (hP : ∀ h9, P h9 → o ∈ h9.1 ∧ ∃ g, h9.2 o = .inl (G.2.1 2, 1, .inr (.inl g))) : CC G ML_restoreSnapshot [.ref x, .ref o] h (fun o9 h2 => o9 = .inl (some (.int (iI 0))) ∧ ∃ h9, P h9 ∧ h2.1 = h9.1 ∧ (∃ g, h2.2 o = .inl (G.2.1 2, 1, .inr (.inl g)) ∧ g 0 = v.toInt64) ∧ ∀ q9, q9 ≠ o → h2.2 q9 = h9.2 q9) := by
  show RR G ML_restoreSnapshot 0 [(0, .ref x), (1, .ref o)] [] h (xm_R ML_restoreSnapshot).cells (xm_R ML_restoreSnapshot).slots (fun o9 h2 => o9 = .inl (some (.int (iI 0))) ∧ ∃ h9, P h9 ∧ h2.1 = h9.1 ∧ (∃ g, h2.2 o = .inl (G.2.1 2, 1, .inr (.inl g)) ∧ g 0 = v.toInt64) ∧ ∀ q9, q9 ≠ o → h2.2 q9 = h9.2 q9)
  refine r_aload_n dL_restoreSnapshot_0 1 rfl ?_
  refine i_const (0) dL_restoreSnapshot_1 ?_
  refine r_aload_n dL_restoreSnapshot_2 0 rfl ?_
  refine k_callV (As := []) (b := x) (rest := [.int (iI 0), .ref o]) (w := (some (.int v))) (st' := [.int v, .int (iI 0), .ref o]) kv_L_restoreSnapshot_148 dL_restoreSnapshot_3 rfl rfl (Nat.le_of_ble_eq_true rfl) (Nat.le_of_ble_eq_true rfl) hrv (Nat.le_of_ble_eq_true rfl) (Nat.le_of_ble_eq_true rfl) (spec) rfl (fun h9 e9 => ?_)
  obtain ⟨mo9, g9, fo9⟩ := hP h9 e9
  refine r_i2l dL_restoreSnapshot_6 ?_
  refine i_last 0 rfl dL_restoreSnapshot_7 mo9 fo9 (by decide) (by decide) (fun h1 e0_1 e1_1 e2_1 => ?_)
  refine r_goto dL_restoreSnapshot_8 (tgt := 14) (by decide) ?_
  refine i_const (0) dL_restoreSnapshot_14 ?_
  refine r_ireturn rfl rfl dL_restoreSnapshot_15 ?_
  exact ⟨rfl, h9, e9, e0_1, ⟨_, e1_1, rfl⟩, e2_1⟩
set_option maxRecDepth 20000 in
set_option maxHeartbeats 1000000 in
theorem l_restoreSnapshot_S {G : xG} {h : xH} {x o : Nat} (hrv : x_RV G h RX11 x) (hCA : GCA G) (spec : CC G MX11_restoreSnapshot [.ref x] h (fun o9 h9 => o9 = .inr eS ∧ h9 = h)) : CC G ML_restoreSnapshot [.ref x, .ref o] h (fun o9 h2 => o9 = .inl (some (.int (iI 1))) ∧ h2 = h) := by
  show RR G ML_restoreSnapshot 0 [(0, .ref x), (1, .ref o)] [] h (xm_R ML_restoreSnapshot).cells (xm_R ML_restoreSnapshot).slots (fun o9 h2 => o9 = .inl (some (.int (iI 1))) ∧ h2 = h)
  refine r_aload_n dL_restoreSnapshot_0 1 rfl ?_
  refine i_const (0) dL_restoreSnapshot_1 ?_
  refine r_aload_n dL_restoreSnapshot_2 0 rfl ?_
  refine x_callV (E := eS) (As := []) (b := x) (rest := [.int (iI 0), .ref o]) kv_L_restoreSnapshot_148 dL_restoreSnapshot_3 rfl rfl (Nat.le_of_ble_eq_true rfl) (Nat.le_of_ble_eq_true rfl) hrv (Nat.le_of_ble_eq_true rfl) (Nat.le_of_ble_eq_true rfl) spec (fun h9 e9 => ?_)
  rw [show h9 = h from e9]
  refine rx_catch [] ⟨0, 8, 11, 103⟩ [] rfl (fun z9 hz9 => absurd hz9 List.not_mem_nil) rfl (by decide) kl_L_103 (hCA.1 eS (by simp)) (fun qe => ?_)
  refine r_astore_n (ls' := [(0, .ref x), (1, .ref o), (2, .ref qe)]) dL_restoreSnapshot_11 (by decide) rfl ?_
  refine i_const (1) dL_restoreSnapshot_12 ?_
  refine r_ireturn rfl rfl dL_restoreSnapshot_13 ?_
  exact ⟨rfl, rfl⟩
