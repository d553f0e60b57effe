/-! ===== the reference: its questions ===== -/
theorem c_X12_isSheet_t {G : xG} {h : xH} {m : Nat} {a : MA} {r : MR} (hM : MO G h m a r) {g : Nat → Int32} (hR : AR G h r.1 1456 g) {n : Nat} (hn : n ≤ 6) (hc : g 3 = iI (n : Int)) {i : Nat} (hi : i < n) : CC G MX12_isSheet [.ref m, .int (iI (i : Int))] h (qI (b2 true) h) := by
  have z := c_X12_isSheet hM hR hn hc (z := (i : Int)) (by unfold in32; omega)
  rw [show inR (i : Int) 0 ((n : Int) - 1) = true by unfold inR; rw [decide_eq_true (by omega), decide_eq_true (by omega)]; rfl] at z
  exact z
theorem c_X12_isSheet_f {G : xG} {h : xH} {m : Nat} {a : MA} {r : MR} (hM : MO G h m a r) {g : Nat → Int32} (hR : AR G h r.1 1456 g) {n : Nat} (hn : n ≤ 6) (hc : g 3 = iI (n : Int)) {z : Int} (hz : in32 z) (hs : ¬ (0 ≤ z ∧ z < (n : Int))) : CC G MX12_isSheet [.ref m, .int (iI z)] h (qI (b2 false) h) := by
  have y := c_X12_isSheet hM hR hn hc hz
  rw [show inR z 0 ((n : Int) - 1) = false by unfold inR; simp; omega] at y
  exact y
theorem c_X12_lacks_t {G : xG} {h : xH} {m : Nat} {a : MA} {r : MR} (hM : MO G h m a r) : CC G MX12_lacks [.ref m, .int (iI (b2 true))] h (fun o h' => o = .inl (some (.int (iI 0))) ∧ MO G h' m a (r_th r 0) ∧ FRp [m] h h') := c_X12_lacks hM (b := true)
theorem c_X12_lacks_f {G : xG} {h : xH} {m : Nat} {a : MA} {r : MR} (hM : MO G h m a r) : CC G MX12_lacks [.ref m, .int (iI (b2 false))] h (fun o h' => o = .inl (some (.int (iI 1))) ∧ MO G h' m a (r_th r 1) ∧ FRp [m] h h') := c_X12_lacks hM (b := false)
theorem c_X12_areParts_b {G : xG} {h : xH} {q : Int} (hq : in32 q) {b : Bool} (hf : isFac q = b) : CC G MX12_areParts [.int (iI q)] h (qI (b2 b) h) := by
  subst hf; exact c_X12_areParts hq
theorem c_X12_inRange_b {G : xG} {h : xH} {v lo hi : Int} (h1 : in32 v) (h2 : in32 lo) (h3 : in32 hi) {b : Bool} (hf : inR v lo hi = b) : CC G MX12_inRange [.int (iI v), .int (iI lo), .int (iI hi)] h (qI (b2 b) h) := by
  subst hf; exact c_X12_inRange h1 h2 h3
set_option maxRecDepth 20000 in
set_option maxHeartbeats 1000000 in
theorem c_X12_lacksBoth_tt {G : xG} {h : xH} {m : Nat} {a : MA} {r : MR} (hM : MO G h m a r) : CC G MX12_lacksBoth [.ref m, .int (iI (b2 true)), .int (iI (b2 true))] h (fun o h' => o = .inl (some (.int (iI 0))) ∧ MO G h' m a (r_th r 0) ∧ FRp [m] h h') := by
  show RR G MX12_lacksBoth 0 [(0, .ref m), (1, .int (iI (b2 true))), (2, .int (iI (b2 true)))] [] h (xm_R MX12_lacksBoth).cells (xm_R MX12_lacksBoth).slots (fun o h' => o = .inl (some (.int (iI 0))) ∧ MO G h' m a (r_th r 0) ∧ FRp [m] h h')
  refine r_aload_n dX12_lacksBoth_0 0 rfl ?_
  refine r_iload_n dX12_lacksBoth_1 1 rfl ?_
  refine p_callV (As := [.int (iI (b2 true))]) (b := m) (rest := []) (w := (some (.int (iI 0)))) (st' := [.int (iI 0)]) kv_X12_lacksBoth_82 dX12_lacksBoth_2 rfl rfl (Nat.le_of_ble_eq_true rfl) (Nat.le_of_ble_eq_true rfl) (x_rv hM.1 hM.2 rfl) rfl rfl (c_X12_lacks_t hM) rfl (fun h1 e1 => ?_)
  obtain ⟨hM1, F1⟩ := e1
  refine i_ifeq dX12_lacksBoth_5 (tgt := 10) (by decide) ⟨by decide, by decide⟩ (fun _ => ?_) (fun c => absurd c (by decide))
  refine r_aload_n dX12_lacksBoth_10 0 rfl ?_
  refine r_iload_n dX12_lacksBoth_11 2 rfl ?_
  refine i_ifeqb dX12_lacksBoth_12 (tgt := 19) (by decide) (fun c => absurd c (by decide)) (fun _ => ?_)
  refine i_const (0) dX12_lacksBoth_15 ?_
  refine r_goto dX12_lacksBoth_16 (tgt := 20) (by decide) ?_
  refine m_p_th (v := 0) hM1 kf_X12_79 dX12_lacksBoth_20 (fun h2 hM2 F2 => ?_)
  refine r_aload_n dX12_lacksBoth_23 0 rfl ?_
  refine m_g_th (v := 0) hM2 rfl kf_X12_79 dX12_lacksBoth_24 ?_
  refine i_ifeq dX12_lacksBoth_27 (tgt := 34) (by decide) ⟨by decide, by decide⟩ (fun _ => ?_) (fun c => absurd c (by decide))
  refine i_const (0) dX12_lacksBoth_34 ?_
  refine r_ireturn rfl (b2_nar false) dX12_lacksBoth_35 ?_
  exact ⟨rfl, hM2, (F1.tr F2)⟩
set_option maxRecDepth 20000 in
set_option maxHeartbeats 1000000 in
theorem c_X12_lacksBoth_tf {G : xG} {h : xH} {m : Nat} {a : MA} {r : MR} (hM : MO G h m a r) : CC G MX12_lacksBoth [.ref m, .int (iI (b2 true)), .int (iI (b2 false))] h (fun o h' => o = .inl (some (.int (iI 1))) ∧ MO G h' m a (r_th r 2) ∧ FRp [m] h h') := by
  show RR G MX12_lacksBoth 0 [(0, .ref m), (1, .int (iI (b2 true))), (2, .int (iI (b2 false)))] [] h (xm_R MX12_lacksBoth).cells (xm_R MX12_lacksBoth).slots (fun o h' => o = .inl (some (.int (iI 1))) ∧ MO G h' m a (r_th r 2) ∧ FRp [m] h h')
  refine r_aload_n dX12_lacksBoth_0 0 rfl ?_
  refine r_iload_n dX12_lacksBoth_1 1 rfl ?_
  refine p_callV (As := [.int (iI (b2 true))]) (b := m) (rest := []) (w := (some (.int (iI 0)))) (st' := [.int (iI 0)]) kv_X12_lacksBoth_82 dX12_lacksBoth_2 rfl rfl (Nat.le_of_ble_eq_true rfl) (Nat.le_of_ble_eq_true rfl) (x_rv hM.1 hM.2 rfl) rfl rfl (c_X12_lacks_t hM) rfl (fun h1 e1 => ?_)
  obtain ⟨hM1, F1⟩ := e1
  refine i_ifeq dX12_lacksBoth_5 (tgt := 10) (by decide) ⟨by decide, by decide⟩ (fun _ => ?_) (fun c => absurd c (by decide))
  refine r_aload_n dX12_lacksBoth_10 0 rfl ?_
  refine r_iload_n dX12_lacksBoth_11 2 rfl ?_
  refine i_ifeqb dX12_lacksBoth_12 (tgt := 19) (by decide) (fun _ => ?_) (fun c => absurd c (by decide))
  refine i_const (2) dX12_lacksBoth_19 ?_
  refine m_p_th (v := 2) hM1 kf_X12_79 dX12_lacksBoth_20 (fun h2 hM2 F2 => ?_)
  refine r_aload_n dX12_lacksBoth_23 0 rfl ?_
  refine m_g_th (v := 2) hM2 rfl kf_X12_79 dX12_lacksBoth_24 ?_
  refine i_ifeq dX12_lacksBoth_27 (tgt := 34) (by decide) ⟨by decide, by decide⟩ (fun c => absurd c (by decide)) (fun _ => ?_)
  refine i_const (1) dX12_lacksBoth_30 ?_
  refine r_goto dX12_lacksBoth_31 (tgt := 35) (by decide) ?_
  refine r_ireturn rfl (b2_nar true) dX12_lacksBoth_35 ?_
  exact ⟨rfl, hM2, (F1.tr F2)⟩
set_option maxRecDepth 20000 in
set_option maxHeartbeats 1000000 in
theorem c_X12_lacksBoth_ft {G : xG} {h : xH} {m : Nat} {a : MA} {r : MR} (hM : MO G h m a r) : CC G MX12_lacksBoth [.ref m, .int (iI (b2 false)), .int (iI (b2 true))] h (fun o h' => o = .inl (some (.int (iI 1))) ∧ MO G h' m a (r_th r 1) ∧ FRp [m] h h') := by
  show RR G MX12_lacksBoth 0 [(0, .ref m), (1, .int (iI (b2 false))), (2, .int (iI (b2 true)))] [] h (xm_R MX12_lacksBoth).cells (xm_R MX12_lacksBoth).slots (fun o h' => o = .inl (some (.int (iI 1))) ∧ MO G h' m a (r_th r 1) ∧ FRp [m] h h')
  refine r_aload_n dX12_lacksBoth_0 0 rfl ?_
  refine r_iload_n dX12_lacksBoth_1 1 rfl ?_
  refine p_callV (As := [.int (iI (b2 false))]) (b := m) (rest := []) (w := (some (.int (iI 1)))) (st' := [.int (iI 1)]) kv_X12_lacksBoth_82 dX12_lacksBoth_2 rfl rfl (Nat.le_of_ble_eq_true rfl) (Nat.le_of_ble_eq_true rfl) (x_rv hM.1 hM.2 rfl) rfl rfl (c_X12_lacks_f hM) rfl (fun h1 e1 => ?_)
  obtain ⟨hM1, F1⟩ := e1
  refine i_ifeq dX12_lacksBoth_5 (tgt := 10) (by decide) ⟨by decide, by decide⟩ (fun c => absurd c (by decide)) (fun _ => ?_)
  refine i_const (1) dX12_lacksBoth_8 ?_
  refine r_ireturn rfl (b2_nar true) dX12_lacksBoth_9 ?_
  exact ⟨rfl, hM1, F1⟩
set_option maxRecDepth 20000 in
set_option maxHeartbeats 1000000 in
theorem c_X12_lacksBoth_ff {G : xG} {h : xH} {m : Nat} {a : MA} {r : MR} (hM : MO G h m a r) : CC G MX12_lacksBoth [.ref m, .int (iI (b2 false)), .int (iI (b2 false))] h (fun o h' => o = .inl (some (.int (iI 1))) ∧ MO G h' m a (r_th r 1) ∧ FRp [m] h h') := by
  show RR G MX12_lacksBoth 0 [(0, .ref m), (1, .int (iI (b2 false))), (2, .int (iI (b2 false)))] [] h (xm_R MX12_lacksBoth).cells (xm_R MX12_lacksBoth).slots (fun o h' => o = .inl (some (.int (iI 1))) ∧ MO G h' m a (r_th r 1) ∧ FRp [m] h h')
  refine r_aload_n dX12_lacksBoth_0 0 rfl ?_
  refine r_iload_n dX12_lacksBoth_1 1 rfl ?_
  refine p_callV (As := [.int (iI (b2 false))]) (b := m) (rest := []) (w := (some (.int (iI 1)))) (st' := [.int (iI 1)]) kv_X12_lacksBoth_82 dX12_lacksBoth_2 rfl rfl (Nat.le_of_ble_eq_true rfl) (Nat.le_of_ble_eq_true rfl) (x_rv hM.1 hM.2 rfl) rfl rfl (c_X12_lacks_f hM) rfl (fun h1 e1 => ?_)
  obtain ⟨hM1, F1⟩ := e1
  refine i_ifeq dX12_lacksBoth_5 (tgt := 10) (by decide) ⟨by decide, by decide⟩ (fun c => absurd c (by decide)) (fun _ => ?_)
  refine i_const (1) dX12_lacksBoth_8 ?_
  refine r_ireturn rfl (b2_nar true) dX12_lacksBoth_9 ?_
  exact ⟨rfl, hM1, F1⟩
set_option maxRecDepth 20000 in
set_option maxHeartbeats 1000000 in
theorem c_X12_sheetCount {G : xG} {h : xH} {m : Nat} {a : MA} {r : MR} (hM : MO G h m a r) {g : Nat → Int32} (hR : AR G h r.1 1456 g) {v : Int} (hv : g 3 = iI v) : CC G MX12_sheetCount [.ref m] h (fun o h' => o = .inl (some (.int (iI v))) ∧ MO G h' m a (r_th r 0) ∧ FRp [m] h h') := by
  show RR G MX12_sheetCount 0 [(0, .ref m)] [] h (xm_R MX12_sheetCount).cells (xm_R MX12_sheetCount).slots (fun o h' => o = .inl (some (.int (iI v))) ∧ MO G h' m a (r_th r 0) ∧ FRp [m] h h')
  refine r_aload_n dX12_sheetCount_0 0 rfl ?_
  refine i_const (0) dX12_sheetCount_1 ?_
  refine m_p_th (v := 0) hM kf_X12_79 dX12_sheetCount_2 (fun h1 hM1 F1 => ?_)
  have hR1 := hR.obj hM F1
  refine r_aload_n dX12_sheetCount_5 0 rfl ?_
  refine m_g_rr (v := r.1) hM1 rfl kf_X12_25 dX12_sheetCount_6 ?_
  refine i_const (3) dX12_sheetCount_9 ?_
  refine m_ld (v := iI v) 3 rfl hv hR1 dX12_sheetCount_10 (by omega) (by decide) ?_
  refine r_ireturn rfl rfl dX12_sheetCount_11 ?_
  exact ⟨rfl, hM1, F1⟩
set_option maxRecDepth 20000 in
set_option maxHeartbeats 1000000 in
theorem c_X12_roomTemperature {G : xG} {h : xH} {m : Nat} {a : MA} {r : MR} (hM : MO G h m a r) {g : Nat → Int32} (hR : AR G h r.1 1456 g) {v : Int} (hv : g 0 = iI v) : CC G MX12_roomTemperature [.ref m] h (fun o h' => o = .inl (some (.int (iI v))) ∧ MO G h' m a (r_th r 0) ∧ FRp [m] h h') := by
  show RR G MX12_roomTemperature 0 [(0, .ref m)] [] h (xm_R MX12_roomTemperature).cells (xm_R MX12_roomTemperature).slots (fun o h' => o = .inl (some (.int (iI v))) ∧ MO G h' m a (r_th r 0) ∧ FRp [m] h h')
  refine r_aload_n dX12_roomTemperature_0 0 rfl ?_
  refine i_const (0) dX12_roomTemperature_1 ?_
  refine m_p_th (v := 0) hM kf_X12_79 dX12_roomTemperature_2 (fun h1 hM1 F1 => ?_)
  have hR1 := hR.obj hM F1
  refine r_aload_n dX12_roomTemperature_5 0 rfl ?_
  refine m_g_rr (v := r.1) hM1 rfl kf_X12_25 dX12_roomTemperature_6 ?_
  refine i_const (0) dX12_roomTemperature_9 ?_
  refine m_ld (v := iI v) 0 rfl hv hR1 dX12_roomTemperature_10 (by omega) (by decide) ?_
  refine r_ireturn rfl rfl dX12_roomTemperature_11 ?_
  exact ⟨rfl, hM1, F1⟩
set_option maxRecDepth 20000 in
set_option maxHeartbeats 1000000 in
theorem c_X12_meltingPoint {G : xG} {h : xH} {m : Nat} {a : MA} {r : MR} (hM : MO G h m a r) {g : Nat → Int32} (hR : AR G h r.1 1456 g) {v : Int} (hv : g 1 = iI v) : CC G MX12_meltingPoint [.ref m] h (fun o h' => o = .inl (some (.int (iI v))) ∧ MO G h' m a (r_th r 0) ∧ FRp [m] h h') := by
  show RR G MX12_meltingPoint 0 [(0, .ref m)] [] h (xm_R MX12_meltingPoint).cells (xm_R MX12_meltingPoint).slots (fun o h' => o = .inl (some (.int (iI v))) ∧ MO G h' m a (r_th r 0) ∧ FRp [m] h h')
  refine r_aload_n dX12_meltingPoint_0 0 rfl ?_
  refine i_const (0) dX12_meltingPoint_1 ?_
  refine m_p_th (v := 0) hM kf_X12_79 dX12_meltingPoint_2 (fun h1 hM1 F1 => ?_)
  have hR1 := hR.obj hM F1
  refine r_aload_n dX12_meltingPoint_5 0 rfl ?_
  refine m_g_rr (v := r.1) hM1 rfl kf_X12_25 dX12_meltingPoint_6 ?_
  refine i_const (1) dX12_meltingPoint_9 ?_
  refine m_ld (v := iI v) 1 rfl hv hR1 dX12_meltingPoint_10 (by omega) (by decide) ?_
  refine r_ireturn rfl rfl dX12_meltingPoint_11 ?_
  exact ⟨rfl, hM1, F1⟩
set_option maxRecDepth 20000 in
set_option maxHeartbeats 1000000 in
theorem c_X12_flour {G : xG} {h : xH} {m : Nat} {a : MA} {r : MR} (hM : MO G h m a r) {g : Nat → Int32} (hR : AR G h r.1 1456 g) {v : Int} (hv : g 2 = iI v) : CC G MX12_flour [.ref m] h (fun o h' => o = .inl (some (.int (iI v))) ∧ MO G h' m a (r_th r 0) ∧ FRp [m] h h') := by
  show RR G MX12_flour 0 [(0, .ref m)] [] h (xm_R MX12_flour).cells (xm_R MX12_flour).slots (fun o h' => o = .inl (some (.int (iI v))) ∧ MO G h' m a (r_th r 0) ∧ FRp [m] h h')
  refine r_aload_n dX12_flour_0 0 rfl ?_
  refine i_const (0) dX12_flour_1 ?_
  refine m_p_th (v := 0) hM kf_X12_79 dX12_flour_2 (fun h1 hM1 F1 => ?_)
  have hR1 := hR.obj hM F1
  refine r_aload_n dX12_flour_5 0 rfl ?_
  refine m_g_rr (v := r.1) hM1 rfl kf_X12_25 dX12_flour_6 ?_
  refine i_const (2) dX12_flour_9 ?_
  refine m_ld (v := iI v) 2 rfl hv hR1 dX12_flour_10 (by omega) (by decide) ?_
  refine r_ireturn rfl rfl dX12_flour_11 ?_
  exact ⟨rfl, hM1, F1⟩
set_option maxRecDepth 20000 in
set_option maxHeartbeats 1000000 in
theorem c_X12_hoursPassed {G : xG} {h : xH} {m : Nat} {a : MA} {r : MR} (hM : MO G h m a r) {g : Nat → Int32} (hR : AR G h r.1 1456 g) {v : Int} (hv : g 4 = iI v) : CC G MX12_hoursPassed [.ref m] h (fun o h' => o = .inl (some (.int (iI v))) ∧ MO G h' m a (r_th r 0) ∧ FRp [m] h h') := by
  show RR G MX12_hoursPassed 0 [(0, .ref m)] [] h (xm_R MX12_hoursPassed).cells (xm_R MX12_hoursPassed).slots (fun o h' => o = .inl (some (.int (iI v))) ∧ MO G h' m a (r_th r 0) ∧ FRp [m] h h')
  refine r_aload_n dX12_hoursPassed_0 0 rfl ?_
  refine i_const (0) dX12_hoursPassed_1 ?_
  refine m_p_th (v := 0) hM kf_X12_79 dX12_hoursPassed_2 (fun h1 hM1 F1 => ?_)
  have hR1 := hR.obj hM F1
  refine r_aload_n dX12_hoursPassed_5 0 rfl ?_
  refine m_g_rr (v := r.1) hM1 rfl kf_X12_25 dX12_hoursPassed_6 ?_
  refine i_const (4) dX12_hoursPassed_9 ?_
  refine m_ld (v := iI v) 4 rfl hv hR1 dX12_hoursPassed_10 (by omega) (by decide) ?_
  refine r_ireturn rfl rfl dX12_hoursPassed_11 ?_
  exact ⟨rfl, hM1, F1⟩
set_option maxRecDepth 20000 in
set_option maxHeartbeats 1000000 in
theorem c_X12_escapedButter {G : xG} {h : xH} {m : Nat} {a : MA} {r : MR} (hM : MO G h m a r) {g : Nat → Int32} (hR : AR G h r.1 1456 g) {v : Int} (hv : g 5 = iI v) : CC G MX12_escapedButter [.ref m] h (fun o h' => o = .inl (some (.int (iI v))) ∧ MO G h' m a (r_th r 0) ∧ FRp [m] h h') := by
  show RR G MX12_escapedButter 0 [(0, .ref m)] [] h (xm_R MX12_escapedButter).cells (xm_R MX12_escapedButter).slots (fun o h' => o = .inl (some (.int (iI v))) ∧ MO G h' m a (r_th r 0) ∧ FRp [m] h h')
  refine r_aload_n dX12_escapedButter_0 0 rfl ?_
  refine i_const (0) dX12_escapedButter_1 ?_
  refine m_p_th (v := 0) hM kf_X12_79 dX12_escapedButter_2 (fun h1 hM1 F1 => ?_)
  have hR1 := hR.obj hM F1
  refine r_aload_n dX12_escapedButter_5 0 rfl ?_
  refine m_g_rr (v := r.1) hM1 rfl kf_X12_25 dX12_escapedButter_6 ?_
  refine i_const (5) dX12_escapedButter_9 ?_
  refine m_ld (v := iI v) 5 rfl hv hR1 dX12_escapedButter_10 (by omega) (by decide) ?_
  refine r_ireturn rfl rfl dX12_escapedButter_11 ?_
  exact ⟨rfl, hM1, F1⟩
set_option maxRecDepth 20000 in
set_option maxHeartbeats 1000000 in
theorem c_X12_brokenLayers {G : xG} {h : xH} {m : Nat} {a : MA} {r : MR} (hM : MO G h m a r) {g : Nat → Int32} (hR : AR G h r.1 1456 g) {v : Int} (hv : g 6 = iI v) : CC G MX12_brokenLayers [.ref m] h (fun o h' => o = .inl (some (.int (iI v))) ∧ MO G h' m a (r_th r 0) ∧ FRp [m] h h') := by
  show RR G MX12_brokenLayers 0 [(0, .ref m)] [] h (xm_R MX12_brokenLayers).cells (xm_R MX12_brokenLayers).slots (fun o h' => o = .inl (some (.int (iI v))) ∧ MO G h' m a (r_th r 0) ∧ FRp [m] h h')
  refine r_aload_n dX12_brokenLayers_0 0 rfl ?_
  refine i_const (0) dX12_brokenLayers_1 ?_
  refine m_p_th (v := 0) hM kf_X12_79 dX12_brokenLayers_2 (fun h1 hM1 F1 => ?_)
  have hR1 := hR.obj hM F1
  refine r_aload_n dX12_brokenLayers_5 0 rfl ?_
  refine m_g_rr (v := r.1) hM1 rfl kf_X12_25 dX12_brokenLayers_6 ?_
  refine i_bipush (6) (by decide) dX12_brokenLayers_9 ?_
  refine m_ld (v := iI v) 6 rfl hv hR1 dX12_brokenLayers_11 (by omega) (by decide) ?_
  refine r_ireturn rfl rfl dX12_brokenLayers_12 ?_
  exact ⟨rfl, hM1, F1⟩
set_option maxRecDepth 20000 in
set_option maxHeartbeats 1000000 in
theorem c_X12_warmestSheet {G : xG} {h : xH} {m : Nat} {a : MA} {r : MR} (hM : MO G h m a r) {g : Nat → Int32} (hR : AR G h r.1 1456 g) {B : AB} (hRW : RWc g 0 B) (hWs : ∀ s ∈ B.2, WS s) : CC G MX12_warmestSheet [.ref m] h (fun o h' => o = .inl (some (.int (iI (grt dgS B.2)))) ∧ MO G h' m a (r_th r 0) ∧ FRp [m] h h') := by
  show RR G MX12_warmestSheet 0 [(0, .ref m)] [] h (xm_R MX12_warmestSheet).cells (xm_R MX12_warmestSheet).slots (fun o h' => o = .inl (some (.int (iI (grt dgS B.2)))) ∧ MO G h' m a (r_th r 0) ∧ FRp [m] h h')
  refine r_aload_n dX12_warmestSheet_0 0 rfl ?_
  refine i_const (0) dX12_warmestSheet_1 ?_
  refine m_p_th (v := 0) hM kf_X12_79 dX12_warmestSheet_2 (fun h1 hM1 F1 => ?_)
  have hR1 := hR.obj hM F1
  refine r_aload_n dX12_warmestSheet_5 0 rfl ?_
  refine i_const (0) dX12_warmestSheet_6 ?_
  refine p_callV (As := [.int (iI 0)]) (b := m) (rest := []) (w := (some (.int (iI (grt dgS B.2))))) (st' := [.int (iI (grt dgS B.2))]) kv_X12_warmestSheet_127 dX12_warmestSheet_7 rfl rfl (Nat.le_of_ble_eq_true rfl) (Nat.le_of_ble_eq_true rfl) (x_rv hM1.1 hM1.2 rfl) rfl rfl (c_X12_greatest_dgS hM1 hR1 hRW hWs) rfl (fun h2 e2 => ?_)
  rw [show h2 = h1 from e2]
  refine r_ireturn rfl rfl dX12_warmestSheet_10 ?_
  exact ⟨rfl, hM1, F1⟩
set_option maxRecDepth 20000 in
set_option maxHeartbeats 1000000 in
theorem c_X12_finestSheet {G : xG} {h : xH} {m : Nat} {a : MA} {r : MR} (hM : MO G h m a r) {g : Nat → Int32} (hR : AR G h r.1 1456 g) {B : AB} (hRW : RWc g 0 B) (hWs : ∀ s ∈ B.2, WS s) : CC G MX12_finestSheet [.ref m] h (fun o h' => o = .inl (some (.int (iI (grt lnS B.2)))) ∧ MO G h' m a (r_th r 0) ∧ FRp [m] h h') := by
  show RR G MX12_finestSheet 0 [(0, .ref m)] [] h (xm_R MX12_finestSheet).cells (xm_R MX12_finestSheet).slots (fun o h' => o = .inl (some (.int (iI (grt lnS B.2)))) ∧ MO G h' m a (r_th r 0) ∧ FRp [m] h h')
  refine r_aload_n dX12_finestSheet_0 0 rfl ?_
  refine i_const (0) dX12_finestSheet_1 ?_
  refine m_p_th (v := 0) hM kf_X12_79 dX12_finestSheet_2 (fun h1 hM1 F1 => ?_)
  have hR1 := hR.obj hM F1
  refine r_aload_n dX12_finestSheet_5 0 rfl ?_
  refine i_bipush (6) (by decide) dX12_finestSheet_6 ?_
  refine p_callV (As := [.int (iI 6)]) (b := m) (rest := []) (w := (some (.int (iI (grt lnS B.2))))) (st' := [.int (iI (grt lnS B.2))]) kv_X12_finestSheet_127 dX12_finestSheet_8 rfl rfl (Nat.le_of_ble_eq_true rfl) (Nat.le_of_ble_eq_true rfl) (x_rv hM1.1 hM1.2 rfl) rfl rfl (c_X12_greatest_lnS hM1 hR1 hRW hWs) rfl (fun h2 e2 => ?_)
  rw [show h2 = h1 from e2]
  refine r_ireturn rfl rfl dX12_finestSheet_11 ?_
  exact ⟨rfl, hM1, F1⟩
set_option maxRecDepth 20000 in
set_option maxHeartbeats 1000000 in
theorem c_X12_told_0_ok {G : xG} {h : xH} {m : Nat} {a : MA} {r : MR} (hM : MO G h m a r) {g : Nat → Int32} (hR : AR G h r.1 1456 g) {n : Nat} (hn : n ≤ 6) (hc : g 3 = iI (n : Int)) {i : Nat} (hi : i < n) {s : AS} (hw : SWr g (7 + 207 * i) s) : CC G MX12_told [.ref m, .int (iI ((i : Int))), .int (iI 0)] h (fun o h' => o = .inl (some (.int (iI s.2.2.1))) ∧ MO G h' m a (r_th r 0) ∧ FRp [m] h h') := by
  show RR G MX12_told 0 [(0, .ref m), (1, .int (iI ((i : Int)))), (2, .int (iI 0))] [] h (xm_R MX12_told).cells (xm_R MX12_told).slots (fun o h' => o = .inl (some (.int (iI s.2.2.1))) ∧ MO G h' m a (r_th r 0) ∧ FRp [m] h h')
  refine r_aload_n dX12_told_0 0 rfl ?_
  refine r_aload_n dX12_told_1 0 rfl ?_
  refine r_iload_n dX12_told_2 1 rfl ?_
  refine p_callV (As := [.int (iI ((i : Int)))]) (b := m) (rest := [.ref m]) (w := (some (.int (iI (b2 true))))) (st' := [.int (iI (b2 true)), .ref m]) kv_X12_told_111 dX12_told_3 rfl rfl (Nat.le_of_ble_eq_true rfl) (Nat.le_of_ble_eq_true rfl) (x_rv hM.1 hM.2 rfl) rfl rfl (c_X12_isSheet_t hM hR hn hc hi) rfl (fun h1 e1 => ?_)
  rw [show h1 = h from e1]
  refine p_callV (As := [.int (iI (b2 true))]) (b := m) (rest := []) (w := (some (.int (iI 0)))) (st' := [.int (iI 0)]) kv_X12_told_82 dX12_told_6 rfl rfl (Nat.le_of_ble_eq_true rfl) (Nat.le_of_ble_eq_true rfl) (x_rv hM.1 hM.2 rfl) rfl rfl (c_X12_lacks_t hM) rfl (fun h2 e2 => ?_)
  obtain ⟨hM2, F2⟩ := e2
  have hR2 := hR.obj hM F2
  refine i_ifeq dX12_told_9 (tgt := 16) (by decide) ⟨by decide, by decide⟩ (fun _ => ?_) (fun c => absurd c (by decide))
  refine r_aload_n dX12_told_16 0 rfl ?_
  refine r_iload_n dX12_told_17 1 rfl ?_
  refine r_iload_n dX12_told_18 2 rfl ?_
  refine p_callV (As := [.int (iI ((i : Int))), .int (iI 0)]) (b := m) (rest := []) (w := (some (.int (iI s.2.2.1)))) (st' := [.int (iI s.2.2.1)]) kv_X12_told_93 dX12_told_19 rfl rfl (Nat.le_of_ble_eq_true rfl) (Nat.le_of_ble_eq_true rfl) (x_rv hM2.1 hM2.2 rfl) rfl rfl (c_X12_of hM2 hR2 (i := i) (w := 0) (by omega) (by decide) hw.1) rfl (fun h3 e3 => ?_)
  rw [show h3 = h2 from e3]
  refine r_ireturn rfl rfl dX12_told_22 ?_
  exact ⟨rfl, hM2, F2⟩
set_option maxRecDepth 20000 in
set_option maxHeartbeats 1000000 in
theorem c_X12_toldIs_1_ok {G : xG} {h : xH} {m : Nat} {a : MA} {r : MR} (hM : MO G h m a r) {g : Nat → Int32} (hR : AR G h r.1 1456 g) {n : Nat} (hn : n ≤ 6) (hc : g 3 = iI (n : Int)) {i : Nat} (hi : i < n) {s : AS} (hw : SWr g (7 + 207 * i) s) : CC G MX12_toldIs [.ref m, .int (iI ((i : Int))), .int (iI 1)] h (fun o h' => o = .inl (some (.int (iI (b2 s.2.2.2.2.1)))) ∧ MO G h' m a (r_th r 0) ∧ FRp [m] h h') := by
  show RR G MX12_toldIs 0 [(0, .ref m), (1, .int (iI ((i : Int)))), (2, .int (iI 1))] [] h (xm_R MX12_toldIs).cells (xm_R MX12_toldIs).slots (fun o h' => o = .inl (some (.int (iI (b2 s.2.2.2.2.1)))) ∧ MO G h' m a (r_th r 0) ∧ FRp [m] h h')
  refine r_aload_n dX12_toldIs_0 0 rfl ?_
  refine r_aload_n dX12_toldIs_1 0 rfl ?_
  refine r_iload_n dX12_toldIs_2 1 rfl ?_
  refine p_callV (As := [.int (iI ((i : Int)))]) (b := m) (rest := [.ref m]) (w := (some (.int (iI (b2 true))))) (st' := [.int (iI (b2 true)), .ref m]) kv_X12_toldIs_111 dX12_toldIs_3 rfl rfl (Nat.le_of_ble_eq_true rfl) (Nat.le_of_ble_eq_true rfl) (x_rv hM.1 hM.2 rfl) rfl rfl (c_X12_isSheet_t hM hR hn hc hi) rfl (fun h1 e1 => ?_)
  rw [show h1 = h from e1]
  refine p_callV (As := [.int (iI (b2 true))]) (b := m) (rest := []) (w := (some (.int (iI 0)))) (st' := [.int (iI 0)]) kv_X12_toldIs_82 dX12_toldIs_6 rfl rfl (Nat.le_of_ble_eq_true rfl) (Nat.le_of_ble_eq_true rfl) (x_rv hM.1 hM.2 rfl) rfl rfl (c_X12_lacks_t hM) rfl (fun h2 e2 => ?_)
  obtain ⟨hM2, F2⟩ := e2
  have hR2 := hR.obj hM F2
  refine i_ifne dX12_toldIs_9 (tgt := 25) (by decide) ⟨by decide, by decide⟩ (fun c => absurd c (by decide)) (fun _ => ?_)
  refine r_aload_n dX12_toldIs_12 0 rfl ?_
  refine r_iload_n dX12_toldIs_13 1 rfl ?_
  refine r_iload_n dX12_toldIs_14 2 rfl ?_
  refine p_callV (As := [.int (iI ((i : Int))), .int (iI 1)]) (b := m) (rest := []) (w := (some (.int (iI (b2 s.2.2.2.2.1))))) (st' := [.int (iI (b2 s.2.2.2.2.1))]) kv_X12_toldIs_124 dX12_toldIs_15 rfl rfl (Nat.le_of_ble_eq_true rfl) (Nat.le_of_ble_eq_true rfl) (x_rv hM2.1 hM2.2 rfl) rfl rfl (c_X12_is hM2 hR2 (i := i) (w := 1) (by omega) (by decide) hw.2.1) rfl (fun h3 e3 => ?_)
  rw [show h3 = h2 from e3]
  refine i_ifeqb dX12_toldIs_18 (tgt := 25) (by decide) (fun c18 => ?_) (fun c18 => ?_)
  · refine i_const (0) dX12_toldIs_25 ?_
    refine r_ireturn rfl (b2_nar false) dX12_toldIs_26 ?_
    rw [show s.2.2.2.2.1 = false from c18]
    exact ⟨rfl, hM2, F2⟩
  · refine i_const (1) dX12_toldIs_21 ?_
    refine r_goto dX12_toldIs_22 (tgt := 26) (by decide) ?_
    refine r_ireturn rfl (b2_nar true) dX12_toldIs_26 ?_
    rw [show s.2.2.2.2.1 = true from c18]
    exact ⟨rfl, hM2, F2⟩
set_option maxRecDepth 20000 in
set_option maxHeartbeats 1000000 in
theorem c_X12_toldIs_2_ok {G : xG} {h : xH} {m : Nat} {a : MA} {r : MR} (hM : MO G h m a r) {g : Nat → Int32} (hR : AR G h r.1 1456 g) {n : Nat} (hn : n ≤ 6) (hc : g 3 = iI (n : Int)) {i : Nat} (hi : i < n) {s : AS} (hw : SWr g (7 + 207 * i) s) : CC G MX12_toldIs [.ref m, .int (iI ((i : Int))), .int (iI 2)] h (fun o h' => o = .inl (some (.int (iI (b2 s.2.2.2.2.2.1)))) ∧ MO G h' m a (r_th r 0) ∧ FRp [m] h h') := by
  show RR G MX12_toldIs 0 [(0, .ref m), (1, .int (iI ((i : Int)))), (2, .int (iI 2))] [] h (xm_R MX12_toldIs).cells (xm_R MX12_toldIs).slots (fun o h' => o = .inl (some (.int (iI (b2 s.2.2.2.2.2.1)))) ∧ MO G h' m a (r_th r 0) ∧ FRp [m] h h')
  refine r_aload_n dX12_toldIs_0 0 rfl ?_
  refine r_aload_n dX12_toldIs_1 0 rfl ?_
  refine r_iload_n dX12_toldIs_2 1 rfl ?_
  refine p_callV (As := [.int (iI ((i : Int)))]) (b := m) (rest := [.ref m]) (w := (some (.int (iI (b2 true))))) (st' := [.int (iI (b2 true)), .ref m]) kv_X12_toldIs_111 dX12_toldIs_3 rfl rfl (Nat.le_of_ble_eq_true rfl) (Nat.le_of_ble_eq_true rfl) (x_rv hM.1 hM.2 rfl) rfl rfl (c_X12_isSheet_t hM hR hn hc hi) rfl (fun h1 e1 => ?_)
  rw [show h1 = h from e1]
  refine p_callV (As := [.int (iI (b2 true))]) (b := m) (rest := []) (w := (some (.int (iI 0)))) (st' := [.int (iI 0)]) kv_X12_toldIs_82 dX12_toldIs_6 rfl rfl (Nat.le_of_ble_eq_true rfl) (Nat.le_of_ble_eq_true rfl) (x_rv hM.1 hM.2 rfl) rfl rfl (c_X12_lacks_t hM) rfl (fun h2 e2 => ?_)
  obtain ⟨hM2, F2⟩ := e2
  have hR2 := hR.obj hM F2
  refine i_ifne dX12_toldIs_9 (tgt := 25) (by decide) ⟨by decide, by decide⟩ (fun c => absurd c (by decide)) (fun _ => ?_)
  refine r_aload_n dX12_toldIs_12 0 rfl ?_
  refine r_iload_n dX12_toldIs_13 1 rfl ?_
  refine r_iload_n dX12_toldIs_14 2 rfl ?_
  refine p_callV (As := [.int (iI ((i : Int))), .int (iI 2)]) (b := m) (rest := []) (w := (some (.int (iI (b2 s.2.2.2.2.2.1))))) (st' := [.int (iI (b2 s.2.2.2.2.2.1))]) kv_X12_toldIs_124 dX12_toldIs_15 rfl rfl (Nat.le_of_ble_eq_true rfl) (Nat.le_of_ble_eq_true rfl) (x_rv hM2.1 hM2.2 rfl) rfl rfl (c_X12_is hM2 hR2 (i := i) (w := 2) (by omega) (by decide) hw.2.2.1) rfl (fun h3 e3 => ?_)
  rw [show h3 = h2 from e3]
  refine i_ifeqb dX12_toldIs_18 (tgt := 25) (by decide) (fun c18 => ?_) (fun c18 => ?_)
  · refine i_const (0) dX12_toldIs_25 ?_
    refine r_ireturn rfl (b2_nar false) dX12_toldIs_26 ?_
    rw [show s.2.2.2.2.2.1 = false from c18]
    exact ⟨rfl, hM2, F2⟩
  · refine i_const (1) dX12_toldIs_21 ?_
    refine r_goto dX12_toldIs_22 (tgt := 26) (by decide) ?_
    refine r_ireturn rfl (b2_nar true) dX12_toldIs_26 ?_
    rw [show s.2.2.2.2.2.1 = true from c18]
    exact ⟨rfl, hM2, F2⟩
set_option maxRecDepth 20000 in
set_option maxHeartbeats 1000000 in
theorem c_X12_toldIs_3_ok {G : xG} {h : xH} {m : Nat} {a : MA} {r : MR} (hM : MO G h m a r) {g : Nat → Int32} (hR : AR G h r.1 1456 g) {n : Nat} (hn : n ≤ 6) (hc : g 3 = iI (n : Int)) {i : Nat} (hi : i < n) {s : AS} (hw : SWr g (7 + 207 * i) s) : CC G MX12_toldIs [.ref m, .int (iI ((i : Int))), .int (iI 3)] h (fun o h' => o = .inl (some (.int (iI (b2 s.2.2.2.2.2.2)))) ∧ MO G h' m a (r_th r 0) ∧ FRp [m] h h') := by
  show RR G MX12_toldIs 0 [(0, .ref m), (1, .int (iI ((i : Int)))), (2, .int (iI 3))] [] h (xm_R MX12_toldIs).cells (xm_R MX12_toldIs).slots (fun o h' => o = .inl (some (.int (iI (b2 s.2.2.2.2.2.2)))) ∧ MO G h' m a (r_th r 0) ∧ FRp [m] h h')
  refine r_aload_n dX12_toldIs_0 0 rfl ?_
  refine r_aload_n dX12_toldIs_1 0 rfl ?_
  refine r_iload_n dX12_toldIs_2 1 rfl ?_
  refine p_callV (As := [.int (iI ((i : Int)))]) (b := m) (rest := [.ref m]) (w := (some (.int (iI (b2 true))))) (st' := [.int (iI (b2 true)), .ref m]) kv_X12_toldIs_111 dX12_toldIs_3 rfl rfl (Nat.le_of_ble_eq_true rfl) (Nat.le_of_ble_eq_true rfl) (x_rv hM.1 hM.2 rfl) rfl rfl (c_X12_isSheet_t hM hR hn hc hi) rfl (fun h1 e1 => ?_)
  rw [show h1 = h from e1]
  refine p_callV (As := [.int (iI (b2 true))]) (b := m) (rest := []) (w := (some (.int (iI 0)))) (st' := [.int (iI 0)]) kv_X12_toldIs_82 dX12_toldIs_6 rfl rfl (Nat.le_of_ble_eq_true rfl) (Nat.le_of_ble_eq_true rfl) (x_rv hM.1 hM.2 rfl) rfl rfl (c_X12_lacks_t hM) rfl (fun h2 e2 => ?_)
  obtain ⟨hM2, F2⟩ := e2
  have hR2 := hR.obj hM F2
  refine i_ifne dX12_toldIs_9 (tgt := 25) (by decide) ⟨by decide, by decide⟩ (fun c => absurd c (by decide)) (fun _ => ?_)
  refine r_aload_n dX12_toldIs_12 0 rfl ?_
  refine r_iload_n dX12_toldIs_13 1 rfl ?_
  refine r_iload_n dX12_toldIs_14 2 rfl ?_
  refine p_callV (As := [.int (iI ((i : Int))), .int (iI 3)]) (b := m) (rest := []) (w := (some (.int (iI (b2 s.2.2.2.2.2.2))))) (st' := [.int (iI (b2 s.2.2.2.2.2.2))]) kv_X12_toldIs_124 dX12_toldIs_15 rfl rfl (Nat.le_of_ble_eq_true rfl) (Nat.le_of_ble_eq_true rfl) (x_rv hM2.1 hM2.2 rfl) rfl rfl (c_X12_is hM2 hR2 (i := i) (w := 3) (by omega) (by decide) hw.2.2.2.1) rfl (fun h3 e3 => ?_)
  rw [show h3 = h2 from e3]
  refine i_ifeqb dX12_toldIs_18 (tgt := 25) (by decide) (fun c18 => ?_) (fun c18 => ?_)
  · refine i_const (0) dX12_toldIs_25 ?_
    refine r_ireturn rfl (b2_nar false) dX12_toldIs_26 ?_
    rw [show s.2.2.2.2.2.2 = false from c18]
    exact ⟨rfl, hM2, F2⟩
  · refine i_const (1) dX12_toldIs_21 ?_
    refine r_goto dX12_toldIs_22 (tgt := 26) (by decide) ?_
    refine r_ireturn rfl (b2_nar true) dX12_toldIs_26 ?_
    rw [show s.2.2.2.2.2.2 = true from c18]
    exact ⟨rfl, hM2, F2⟩
set_option maxRecDepth 20000 in
set_option maxHeartbeats 1000000 in
theorem c_X12_told_4_ok {G : xG} {h : xH} {m : Nat} {a : MA} {r : MR} (hM : MO G h m a r) {g : Nat → Int32} (hR : AR G h r.1 1456 g) {n : Nat} (hn : n ≤ 6) (hc : g 3 = iI (n : Int)) {i : Nat} (hi : i < n) {s : AS} (hw : SWr g (7 + 207 * i) s) : CC G MX12_told [.ref m, .int (iI ((i : Int))), .int (iI 4)] h (fun o h' => o = .inl (some (.int (s.2.2.2.1))) ∧ MO G h' m a (r_th r 0) ∧ FRp [m] h h') := by
  show RR G MX12_told 0 [(0, .ref m), (1, .int (iI ((i : Int)))), (2, .int (iI 4))] [] h (xm_R MX12_told).cells (xm_R MX12_told).slots (fun o h' => o = .inl (some (.int (s.2.2.2.1))) ∧ MO G h' m a (r_th r 0) ∧ FRp [m] h h')
  refine r_aload_n dX12_told_0 0 rfl ?_
  refine r_aload_n dX12_told_1 0 rfl ?_
  refine r_iload_n dX12_told_2 1 rfl ?_
  refine p_callV (As := [.int (iI ((i : Int)))]) (b := m) (rest := [.ref m]) (w := (some (.int (iI (b2 true))))) (st' := [.int (iI (b2 true)), .ref m]) kv_X12_told_111 dX12_told_3 rfl rfl (Nat.le_of_ble_eq_true rfl) (Nat.le_of_ble_eq_true rfl) (x_rv hM.1 hM.2 rfl) rfl rfl (c_X12_isSheet_t hM hR hn hc hi) rfl (fun h1 e1 => ?_)
  rw [show h1 = h from e1]
  refine p_callV (As := [.int (iI (b2 true))]) (b := m) (rest := []) (w := (some (.int (iI 0)))) (st' := [.int (iI 0)]) kv_X12_told_82 dX12_told_6 rfl rfl (Nat.le_of_ble_eq_true rfl) (Nat.le_of_ble_eq_true rfl) (x_rv hM.1 hM.2 rfl) rfl rfl (c_X12_lacks_t hM) rfl (fun h2 e2 => ?_)
  obtain ⟨hM2, F2⟩ := e2
  have hR2 := hR.obj hM F2
  refine i_ifeq dX12_told_9 (tgt := 16) (by decide) ⟨by decide, by decide⟩ (fun _ => ?_) (fun c => absurd c (by decide))
  refine r_aload_n dX12_told_16 0 rfl ?_
  refine r_iload_n dX12_told_17 1 rfl ?_
  refine r_iload_n dX12_told_18 2 rfl ?_
  refine p_callV (As := [.int (iI ((i : Int))), .int (iI 4)]) (b := m) (rest := []) (w := (some (.int s.2.2.2.1))) (st' := [.int s.2.2.2.1]) kv_X12_told_93 dX12_told_19 rfl rfl (Nat.le_of_ble_eq_true rfl) (Nat.le_of_ble_eq_true rfl) (x_rv hM2.1 hM2.2 rfl) rfl rfl (c_X12_of hM2 hR2 (i := i) (w := 4) (by omega) (by decide) hw.2.2.2.2.1) rfl (fun h3 e3 => ?_)
  rw [show h3 = h2 from e3]
  refine r_ireturn rfl rfl dX12_told_22 ?_
  exact ⟨rfl, hM2, F2⟩
set_option maxRecDepth 20000 in
set_option maxHeartbeats 1000000 in
theorem c_X12_told_5_ok {G : xG} {h : xH} {m : Nat} {a : MA} {r : MR} (hM : MO G h m a r) {g : Nat → Int32} (hR : AR G h r.1 1456 g) {n : Nat} (hn : n ≤ 6) (hc : g 3 = iI (n : Int)) {i : Nat} (hi : i < n) {s : AS} (hw : SWr g (7 + 207 * i) s) : CC G MX12_told [.ref m, .int (iI ((i : Int))), .int (iI 5)] h (fun o h' => o = .inl (some (.int (iI s.2.1))) ∧ MO G h' m a (r_th r 0) ∧ FRp [m] h h') := by
  show RR G MX12_told 0 [(0, .ref m), (1, .int (iI ((i : Int)))), (2, .int (iI 5))] [] h (xm_R MX12_told).cells (xm_R MX12_told).slots (fun o h' => o = .inl (some (.int (iI s.2.1))) ∧ MO G h' m a (r_th r 0) ∧ FRp [m] h h')
  refine r_aload_n dX12_told_0 0 rfl ?_
  refine r_aload_n dX12_told_1 0 rfl ?_
  refine r_iload_n dX12_told_2 1 rfl ?_
  refine p_callV (As := [.int (iI ((i : Int)))]) (b := m) (rest := [.ref m]) (w := (some (.int (iI (b2 true))))) (st' := [.int (iI (b2 true)), .ref m]) kv_X12_told_111 dX12_told_3 rfl rfl (Nat.le_of_ble_eq_true rfl) (Nat.le_of_ble_eq_true rfl) (x_rv hM.1 hM.2 rfl) rfl rfl (c_X12_isSheet_t hM hR hn hc hi) rfl (fun h1 e1 => ?_)
  rw [show h1 = h from e1]
  refine p_callV (As := [.int (iI (b2 true))]) (b := m) (rest := []) (w := (some (.int (iI 0)))) (st' := [.int (iI 0)]) kv_X12_told_82 dX12_told_6 rfl rfl (Nat.le_of_ble_eq_true rfl) (Nat.le_of_ble_eq_true rfl) (x_rv hM.1 hM.2 rfl) rfl rfl (c_X12_lacks_t hM) rfl (fun h2 e2 => ?_)
  obtain ⟨hM2, F2⟩ := e2
  have hR2 := hR.obj hM F2
  refine i_ifeq dX12_told_9 (tgt := 16) (by decide) ⟨by decide, by decide⟩ (fun _ => ?_) (fun c => absurd c (by decide))
  refine r_aload_n dX12_told_16 0 rfl ?_
  refine r_iload_n dX12_told_17 1 rfl ?_
  refine r_iload_n dX12_told_18 2 rfl ?_
  refine p_callV (As := [.int (iI ((i : Int))), .int (iI 5)]) (b := m) (rest := []) (w := (some (.int (iI s.2.1)))) (st' := [.int (iI s.2.1)]) kv_X12_told_93 dX12_told_19 rfl rfl (Nat.le_of_ble_eq_true rfl) (Nat.le_of_ble_eq_true rfl) (x_rv hM2.1 hM2.2 rfl) rfl rfl (c_X12_of hM2 hR2 (i := i) (w := 5) (by omega) (by decide) hw.2.2.2.2.2.1) rfl (fun h3 e3 => ?_)
  rw [show h3 = h2 from e3]
  refine r_ireturn rfl rfl dX12_told_22 ?_
  exact ⟨rfl, hM2, F2⟩
set_option maxRecDepth 20000 in
set_option maxHeartbeats 1000000 in
theorem c_X12_told_6_ok {G : xG} {h : xH} {m : Nat} {a : MA} {r : MR} (hM : MO G h m a r) {g : Nat → Int32} (hR : AR G h r.1 1456 g) {n : Nat} (hn : n ≤ 6) (hc : g 3 = iI (n : Int)) {i : Nat} (hi : i < n) {s : AS} (hw : SWr g (7 + 207 * i) s) : CC G MX12_told [.ref m, .int (iI ((i : Int))), .int (iI 6)] h (fun o h' => o = .inl (some (.int (iI ((s.1.length : Int))))) ∧ MO G h' m a (r_th r 0) ∧ FRp [m] h h') := by
  show RR G MX12_told 0 [(0, .ref m), (1, .int (iI ((i : Int)))), (2, .int (iI 6))] [] h (xm_R MX12_told).cells (xm_R MX12_told).slots (fun o h' => o = .inl (some (.int (iI ((s.1.length : Int))))) ∧ MO G h' m a (r_th r 0) ∧ FRp [m] h h')
  refine r_aload_n dX12_told_0 0 rfl ?_
  refine r_aload_n dX12_told_1 0 rfl ?_
  refine r_iload_n dX12_told_2 1 rfl ?_
  refine p_callV (As := [.int (iI ((i : Int)))]) (b := m) (rest := [.ref m]) (w := (some (.int (iI (b2 true))))) (st' := [.int (iI (b2 true)), .ref m]) kv_X12_told_111 dX12_told_3 rfl rfl (Nat.le_of_ble_eq_true rfl) (Nat.le_of_ble_eq_true rfl) (x_rv hM.1 hM.2 rfl) rfl rfl (c_X12_isSheet_t hM hR hn hc hi) rfl (fun h1 e1 => ?_)
  rw [show h1 = h from e1]
  refine p_callV (As := [.int (iI (b2 true))]) (b := m) (rest := []) (w := (some (.int (iI 0)))) (st' := [.int (iI 0)]) kv_X12_told_82 dX12_told_6 rfl rfl (Nat.le_of_ble_eq_true rfl) (Nat.le_of_ble_eq_true rfl) (x_rv hM.1 hM.2 rfl) rfl rfl (c_X12_lacks_t hM) rfl (fun h2 e2 => ?_)
  obtain ⟨hM2, F2⟩ := e2
  have hR2 := hR.obj hM F2
  refine i_ifeq dX12_told_9 (tgt := 16) (by decide) ⟨by decide, by decide⟩ (fun _ => ?_) (fun c => absurd c (by decide))
  refine r_aload_n dX12_told_16 0 rfl ?_
  refine r_iload_n dX12_told_17 1 rfl ?_
  refine r_iload_n dX12_told_18 2 rfl ?_
  refine p_callV (As := [.int (iI ((i : Int))), .int (iI 6)]) (b := m) (rest := []) (w := (some (.int (iI ((s.1.length : Int)))))) (st' := [.int (iI ((s.1.length : Int)))]) kv_X12_told_93 dX12_told_19 rfl rfl (Nat.le_of_ble_eq_true rfl) (Nat.le_of_ble_eq_true rfl) (x_rv hM2.1 hM2.2 rfl) rfl rfl (c_X12_of hM2 hR2 (i := i) (w := 6) (by omega) (by decide) hw.2.2.2.2.2.2.1) rfl (fun h3 e3 => ?_)
  rw [show h3 = h2 from e3]
  refine r_ireturn rfl rfl dX12_told_22 ?_
  exact ⟨rfl, hM2, F2⟩
set_option maxRecDepth 20000 in
set_option maxHeartbeats 1000000 in
theorem c_X12_told_no {G : xG} {h : xH} {m : Nat} {a : MA} {r : MR} (hM : MO G h m a r) {g : Nat → Int32} (hR : AR G h r.1 1456 g) {n : Nat} (hn : n ≤ 6) (hc : g 3 = iI (n : Int)) {z : Int} (hz : in32 z) (hs : ¬ (0 ≤ z ∧ z < (n : Int))) {k : Int} : CC G MX12_told [.ref m, .int (iI z), .int (iI k)] h (fun o h' => o = .inl (some (.int (iI 0))) ∧ MO G h' m a (r_th r 1) ∧ FRp [m] h h') := by
  show RR G MX12_told 0 [(0, .ref m), (1, .int (iI z)), (2, .int (iI k))] [] h (xm_R MX12_told).cells (xm_R MX12_told).slots (fun o h' => o = .inl (some (.int (iI 0))) ∧ MO G h' m a (r_th r 1) ∧ FRp [m] h h')
  refine r_aload_n dX12_told_0 0 rfl ?_
  refine r_aload_n dX12_told_1 0 rfl ?_
  refine r_iload_n dX12_told_2 1 rfl ?_
  refine p_callV (As := [.int (iI z)]) (b := m) (rest := [.ref m]) (w := (some (.int (iI (b2 false))))) (st' := [.int (iI (b2 false)), .ref m]) kv_X12_told_111 dX12_told_3 rfl rfl (Nat.le_of_ble_eq_true rfl) (Nat.le_of_ble_eq_true rfl) (x_rv hM.1 hM.2 rfl) rfl rfl (c_X12_isSheet_f hM hR hn hc hz hs) rfl (fun h1 e1 => ?_)
  rw [show h1 = h from e1]
  refine p_callV (As := [.int (iI (b2 false))]) (b := m) (rest := []) (w := (some (.int (iI 1)))) (st' := [.int (iI 1)]) kv_X12_told_82 dX12_told_6 rfl rfl (Nat.le_of_ble_eq_true rfl) (Nat.le_of_ble_eq_true rfl) (x_rv hM.1 hM.2 rfl) rfl rfl (c_X12_lacks_f hM) rfl (fun h2 e2 => ?_)
  obtain ⟨hM2, F2⟩ := e2
  have hR2 := hR.obj hM F2
  refine i_ifeq dX12_told_9 (tgt := 16) (by decide) ⟨by decide, by decide⟩ (fun c => absurd c (by decide)) (fun _ => ?_)
  refine i_const (0) dX12_told_12 ?_
  refine r_goto dX12_told_13 (tgt := 22) (by decide) ?_
  refine r_ireturn rfl rfl dX12_told_22 ?_
  exact ⟨rfl, hM2, F2⟩
set_option maxRecDepth 20000 in
set_option maxHeartbeats 1000000 in
theorem c_X12_toldIs_no {G : xG} {h : xH} {m : Nat} {a : MA} {r : MR} (hM : MO G h m a r) {g : Nat → Int32} (hR : AR G h r.1 1456 g) {n : Nat} (hn : n ≤ 6) (hc : g 3 = iI (n : Int)) {z : Int} (hz : in32 z) (hs : ¬ (0 ≤ z ∧ z < (n : Int))) {k : Int} : CC G MX12_toldIs [.ref m, .int (iI z), .int (iI k)] h (fun o h' => o = .inl (some (.int (iI 0))) ∧ MO G h' m a (r_th r 1) ∧ FRp [m] h h') := by
  show RR G MX12_toldIs 0 [(0, .ref m), (1, .int (iI z)), (2, .int (iI k))] [] h (xm_R MX12_toldIs).cells (xm_R MX12_toldIs).slots (fun o h' => o = .inl (some (.int (iI 0))) ∧ MO G h' m a (r_th r 1) ∧ FRp [m] h h')
  refine r_aload_n dX12_toldIs_0 0 rfl ?_
  refine r_aload_n dX12_toldIs_1 0 rfl ?_
  refine r_iload_n dX12_toldIs_2 1 rfl ?_
  refine p_callV (As := [.int (iI z)]) (b := m) (rest := [.ref m]) (w := (some (.int (iI (b2 false))))) (st' := [.int (iI (b2 false)), .ref m]) kv_X12_toldIs_111 dX12_toldIs_3 rfl rfl (Nat.le_of_ble_eq_true rfl) (Nat.le_of_ble_eq_true rfl) (x_rv hM.1 hM.2 rfl) rfl rfl (c_X12_isSheet_f hM hR hn hc hz hs) rfl (fun h1 e1 => ?_)
  rw [show h1 = h from e1]
  refine p_callV (As := [.int (iI (b2 false))]) (b := m) (rest := []) (w := (some (.int (iI 1)))) (st' := [.int (iI 1)]) kv_X12_toldIs_82 dX12_toldIs_6 rfl rfl (Nat.le_of_ble_eq_true rfl) (Nat.le_of_ble_eq_true rfl) (x_rv hM.1 hM.2 rfl) rfl rfl (c_X12_lacks_f hM) rfl (fun h2 e2 => ?_)
  obtain ⟨hM2, F2⟩ := e2
  have hR2 := hR.obj hM F2
  refine i_ifne dX12_toldIs_9 (tgt := 25) (by decide) ⟨by decide, by decide⟩ (fun _ => ?_) (fun c => absurd c (by decide))
  refine i_const (0) dX12_toldIs_25 ?_
  refine r_ireturn rfl (b2_nar false) dX12_toldIs_26 ?_
  exact ⟨rfl, hM2, F2⟩
set_option maxRecDepth 20000 in
set_option maxHeartbeats 1000000 in
theorem c_X12_layerCount_ok {G : xG} {h : xH} {m : Nat} {a : MA} {r : MR} (hM : MO G h m a r) {g : Nat → Int32} (hR : AR G h r.1 1456 g) {n : Nat} (hn : n ≤ 6) (hc : g 3 = iI (n : Int)) {i : Nat} (hi : i < n) {s : AS} (hw : SWr g (7 + 207 * i) s) : CC G MX12_layerCount [.ref m, .int (iI ((i : Int)))] h (fun o h' => o = .inl (some (.int (iI ((s.1.length : Int))))) ∧ MO G h' m a (r_th r 0) ∧ FRp [m] h h') := by
  show RR G MX12_layerCount 0 [(0, .ref m), (1, .int (iI ((i : Int))))] [] h (xm_R MX12_layerCount).cells (xm_R MX12_layerCount).slots (fun o h' => o = .inl (some (.int (iI ((s.1.length : Int))))) ∧ MO G h' m a (r_th r 0) ∧ FRp [m] h h')
  refine r_aload_n dX12_layerCount_0 0 rfl ?_
  refine r_iload_n dX12_layerCount_1 1 rfl ?_
  refine i_bipush (6) (by decide) dX12_layerCount_2 ?_
  refine p_callV (As := [.int (iI ((i : Int))), .int (iI 6)]) (b := m) (rest := []) (w := (some (.int (iI ((s.1.length : Int)))))) (st' := [.int (iI ((s.1.length : Int)))]) kv_X12_layerCount_130 dX12_layerCount_4 rfl rfl (Nat.le_of_ble_eq_true rfl) (Nat.le_of_ble_eq_true rfl) (x_rv hM.1 hM.2 rfl) rfl rfl (c_X12_told_6_ok hM hR hn hc hi hw) rfl (fun h1 e1 => ?_)
  obtain ⟨hM1, F1⟩ := e1
  have hR1 := hR.obj hM F1
  refine r_ireturn rfl rfl dX12_layerCount_7 ?_
  exact ⟨rfl, hM1, F1⟩
set_option maxRecDepth 20000 in
set_option maxHeartbeats 1000000 in
theorem c_X12_layerCount_no {G : xG} {h : xH} {m : Nat} {a : MA} {r : MR} (hM : MO G h m a r) {g : Nat → Int32} (hR : AR G h r.1 1456 g) {n : Nat} (hn : n ≤ 6) (hc : g 3 = iI (n : Int)) {z : Int} (hz : in32 z) (hs : ¬ (0 ≤ z ∧ z < (n : Int))) : CC G MX12_layerCount [.ref m, .int (iI z)] h (fun o h' => o = .inl (some (.int (iI 0))) ∧ MO G h' m a (r_th r 1) ∧ FRp [m] h h') := by
  show RR G MX12_layerCount 0 [(0, .ref m), (1, .int (iI z))] [] h (xm_R MX12_layerCount).cells (xm_R MX12_layerCount).slots (fun o h' => o = .inl (some (.int (iI 0))) ∧ MO G h' m a (r_th r 1) ∧ FRp [m] h h')
  refine r_aload_n dX12_layerCount_0 0 rfl ?_
  refine r_iload_n dX12_layerCount_1 1 rfl ?_
  refine i_bipush (6) (by decide) dX12_layerCount_2 ?_
  refine p_callV (As := [.int (iI z), .int (iI 6)]) (b := m) (rest := []) (w := (some (.int (iI 0)))) (st' := [.int (iI 0)]) kv_X12_layerCount_130 dX12_layerCount_4 rfl rfl (Nat.le_of_ble_eq_true rfl) (Nat.le_of_ble_eq_true rfl) (x_rv hM.1 hM.2 rfl) rfl rfl (c_X12_told_no hM hR hn hc hz hs) rfl (fun h1 e1 => ?_)
  obtain ⟨hM1, F1⟩ := e1
  have hR1 := hR.obj hM F1
  refine r_ireturn rfl rfl dX12_layerCount_7 ?_
  exact ⟨rfl, hM1, F1⟩
set_option maxRecDepth 20000 in
set_option maxHeartbeats 1000000 in
theorem c_X12_temperature_ok {G : xG} {h : xH} {m : Nat} {a : MA} {r : MR} (hM : MO G h m a r) {g : Nat → Int32} (hR : AR G h r.1 1456 g) {n : Nat} (hn : n ≤ 6) (hc : g 3 = iI (n : Int)) {i : Nat} (hi : i < n) {s : AS} (hw : SWr g (7 + 207 * i) s) : CC G MX12_temperature [.ref m, .int (iI ((i : Int)))] h (fun o h' => o = .inl (some (.int (iI s.2.2.1))) ∧ MO G h' m a (r_th r 0) ∧ FRp [m] h h') := by
  show RR G MX12_temperature 0 [(0, .ref m), (1, .int (iI ((i : Int))))] [] h (xm_R MX12_temperature).cells (xm_R MX12_temperature).slots (fun o h' => o = .inl (some (.int (iI s.2.2.1))) ∧ MO G h' m a (r_th r 0) ∧ FRp [m] h h')
  refine r_aload_n dX12_temperature_0 0 rfl ?_
  refine r_iload_n dX12_temperature_1 1 rfl ?_
  refine i_const (0) dX12_temperature_2 ?_
  refine p_callV (As := [.int (iI ((i : Int))), .int (iI 0)]) (b := m) (rest := []) (w := (some (.int (iI s.2.2.1)))) (st' := [.int (iI s.2.2.1)]) kv_X12_temperature_130 dX12_temperature_3 rfl rfl (Nat.le_of_ble_eq_true rfl) (Nat.le_of_ble_eq_true rfl) (x_rv hM.1 hM.2 rfl) rfl rfl (c_X12_told_0_ok hM hR hn hc hi hw) rfl (fun h1 e1 => ?_)
  obtain ⟨hM1, F1⟩ := e1
  have hR1 := hR.obj hM F1
  refine r_ireturn rfl rfl dX12_temperature_6 ?_
  exact ⟨rfl, hM1, F1⟩
set_option maxRecDepth 20000 in
set_option maxHeartbeats 1000000 in
theorem c_X12_temperature_no {G : xG} {h : xH} {m : Nat} {a : MA} {r : MR} (hM : MO G h m a r) {g : Nat → Int32} (hR : AR G h r.1 1456 g) {n : Nat} (hn : n ≤ 6) (hc : g 3 = iI (n : Int)) {z : Int} (hz : in32 z) (hs : ¬ (0 ≤ z ∧ z < (n : Int))) : CC G MX12_temperature [.ref m, .int (iI z)] h (fun o h' => o = .inl (some (.int (iI 0))) ∧ MO G h' m a (r_th r 1) ∧ FRp [m] h h') := by
  show RR G MX12_temperature 0 [(0, .ref m), (1, .int (iI z))] [] h (xm_R MX12_temperature).cells (xm_R MX12_temperature).slots (fun o h' => o = .inl (some (.int (iI 0))) ∧ MO G h' m a (r_th r 1) ∧ FRp [m] h h')
  refine r_aload_n dX12_temperature_0 0 rfl ?_
  refine r_iload_n dX12_temperature_1 1 rfl ?_
  refine i_const (0) dX12_temperature_2 ?_
  refine p_callV (As := [.int (iI z), .int (iI 0)]) (b := m) (rest := []) (w := (some (.int (iI 0)))) (st' := [.int (iI 0)]) kv_X12_temperature_130 dX12_temperature_3 rfl rfl (Nat.le_of_ble_eq_true rfl) (Nat.le_of_ble_eq_true rfl) (x_rv hM.1 hM.2 rfl) rfl rfl (c_X12_told_no hM hR hn hc hz hs) rfl (fun h1 e1 => ?_)
  obtain ⟨hM1, F1⟩ := e1
  have hR1 := hR.obj hM F1
  refine r_ireturn rfl rfl dX12_temperature_6 ?_
  exact ⟨rfl, hM1, F1⟩
set_option maxRecDepth 20000 in
set_option maxHeartbeats 1000000 in
theorem c_X12_foldCount_ok {G : xG} {h : xH} {m : Nat} {a : MA} {r : MR} (hM : MO G h m a r) {g : Nat → Int32} (hR : AR G h r.1 1456 g) {n : Nat} (hn : n ≤ 6) (hc : g 3 = iI (n : Int)) {i : Nat} (hi : i < n) {s : AS} (hw : SWr g (7 + 207 * i) s) : CC G MX12_foldCount [.ref m, .int (iI ((i : Int)))] h (fun o h' => o = .inl (some (.int (s.2.2.2.1))) ∧ MO G h' m a (r_th r 0) ∧ FRp [m] h h') := by
  show RR G MX12_foldCount 0 [(0, .ref m), (1, .int (iI ((i : Int))))] [] h (xm_R MX12_foldCount).cells (xm_R MX12_foldCount).slots (fun o h' => o = .inl (some (.int (s.2.2.2.1))) ∧ MO G h' m a (r_th r 0) ∧ FRp [m] h h')
  refine r_aload_n dX12_foldCount_0 0 rfl ?_
  refine r_iload_n dX12_foldCount_1 1 rfl ?_
  refine i_const (4) dX12_foldCount_2 ?_
  refine p_callV (As := [.int (iI ((i : Int))), .int (iI 4)]) (b := m) (rest := []) (w := (some (.int s.2.2.2.1))) (st' := [.int s.2.2.2.1]) kv_X12_foldCount_130 dX12_foldCount_3 rfl rfl (Nat.le_of_ble_eq_true rfl) (Nat.le_of_ble_eq_true rfl) (x_rv hM.1 hM.2 rfl) rfl rfl (c_X12_told_4_ok hM hR hn hc hi hw) rfl (fun h1 e1 => ?_)
  obtain ⟨hM1, F1⟩ := e1
  have hR1 := hR.obj hM F1
  refine r_ireturn rfl rfl dX12_foldCount_6 ?_
  exact ⟨rfl, hM1, F1⟩
set_option maxRecDepth 20000 in
set_option maxHeartbeats 1000000 in
theorem c_X12_foldCount_no {G : xG} {h : xH} {m : Nat} {a : MA} {r : MR} (hM : MO G h m a r) {g : Nat → Int32} (hR : AR G h r.1 1456 g) {n : Nat} (hn : n ≤ 6) (hc : g 3 = iI (n : Int)) {z : Int} (hz : in32 z) (hs : ¬ (0 ≤ z ∧ z < (n : Int))) : CC G MX12_foldCount [.ref m, .int (iI z)] h (fun o h' => o = .inl (some (.int (iI 0))) ∧ MO G h' m a (r_th r 1) ∧ FRp [m] h h') := by
  show RR G MX12_foldCount 0 [(0, .ref m), (1, .int (iI z))] [] h (xm_R MX12_foldCount).cells (xm_R MX12_foldCount).slots (fun o h' => o = .inl (some (.int (iI 0))) ∧ MO G h' m a (r_th r 1) ∧ FRp [m] h h')
  refine r_aload_n dX12_foldCount_0 0 rfl ?_
  refine r_iload_n dX12_foldCount_1 1 rfl ?_
  refine i_const (4) dX12_foldCount_2 ?_
  refine p_callV (As := [.int (iI z), .int (iI 4)]) (b := m) (rest := []) (w := (some (.int (iI 0)))) (st' := [.int (iI 0)]) kv_X12_foldCount_130 dX12_foldCount_3 rfl rfl (Nat.le_of_ble_eq_true rfl) (Nat.le_of_ble_eq_true rfl) (x_rv hM.1 hM.2 rfl) rfl rfl (c_X12_told_no hM hR hn hc hz hs) rfl (fun h1 e1 => ?_)
  obtain ⟨hM1, F1⟩ := e1
  have hR1 := hR.obj hM F1
  refine r_ireturn rfl rfl dX12_foldCount_6 ?_
  exact ⟨rfl, hM1, F1⟩
set_option maxRecDepth 20000 in
set_option maxHeartbeats 1000000 in
theorem c_X12_expectedLayers_ok {G : xG} {h : xH} {m : Nat} {a : MA} {r : MR} (hM : MO G h m a r) {g : Nat → Int32} (hR : AR G h r.1 1456 g) {n : Nat} (hn : n ≤ 6) (hc : g 3 = iI (n : Int)) {i : Nat} (hi : i < n) {s : AS} (hw : SWr g (7 + 207 * i) s) : CC G MX12_expectedLayers [.ref m, .int (iI ((i : Int)))] h (fun o h' => o = .inl (some (.int (iI s.2.1))) ∧ MO G h' m a (r_th r 0) ∧ FRp [m] h h') := by
  show RR G MX12_expectedLayers 0 [(0, .ref m), (1, .int (iI ((i : Int))))] [] h (xm_R MX12_expectedLayers).cells (xm_R MX12_expectedLayers).slots (fun o h' => o = .inl (some (.int (iI s.2.1))) ∧ MO G h' m a (r_th r 0) ∧ FRp [m] h h')
  refine r_aload_n dX12_expectedLayers_0 0 rfl ?_
  refine r_iload_n dX12_expectedLayers_1 1 rfl ?_
  refine i_const (5) dX12_expectedLayers_2 ?_
  refine p_callV (As := [.int (iI ((i : Int))), .int (iI 5)]) (b := m) (rest := []) (w := (some (.int (iI s.2.1)))) (st' := [.int (iI s.2.1)]) kv_X12_expectedLayers_130 dX12_expectedLayers_3 rfl rfl (Nat.le_of_ble_eq_true rfl) (Nat.le_of_ble_eq_true rfl) (x_rv hM.1 hM.2 rfl) rfl rfl (c_X12_told_5_ok hM hR hn hc hi hw) rfl (fun h1 e1 => ?_)
  obtain ⟨hM1, F1⟩ := e1
  have hR1 := hR.obj hM F1
  refine r_ireturn rfl rfl dX12_expectedLayers_6 ?_
  exact ⟨rfl, hM1, F1⟩
set_option maxRecDepth 20000 in
set_option maxHeartbeats 1000000 in
theorem c_X12_expectedLayers_no {G : xG} {h : xH} {m : Nat} {a : MA} {r : MR} (hM : MO G h m a r) {g : Nat → Int32} (hR : AR G h r.1 1456 g) {n : Nat} (hn : n ≤ 6) (hc : g 3 = iI (n : Int)) {z : Int} (hz : in32 z) (hs : ¬ (0 ≤ z ∧ z < (n : Int))) : CC G MX12_expectedLayers [.ref m, .int (iI z)] h (fun o h' => o = .inl (some (.int (iI 0))) ∧ MO G h' m a (r_th r 1) ∧ FRp [m] h h') := by
  show RR G MX12_expectedLayers 0 [(0, .ref m), (1, .int (iI z))] [] h (xm_R MX12_expectedLayers).cells (xm_R MX12_expectedLayers).slots (fun o h' => o = .inl (some (.int (iI 0))) ∧ MO G h' m a (r_th r 1) ∧ FRp [m] h h')
  refine r_aload_n dX12_expectedLayers_0 0 rfl ?_
  refine r_iload_n dX12_expectedLayers_1 1 rfl ?_
  refine i_const (5) dX12_expectedLayers_2 ?_
  refine p_callV (As := [.int (iI z), .int (iI 5)]) (b := m) (rest := []) (w := (some (.int (iI 0)))) (st' := [.int (iI 0)]) kv_X12_expectedLayers_130 dX12_expectedLayers_3 rfl rfl (Nat.le_of_ble_eq_true rfl) (Nat.le_of_ble_eq_true rfl) (x_rv hM.1 hM.2 rfl) rfl rfl (c_X12_told_no hM hR hn hc hz hs) rfl (fun h1 e1 => ?_)
  obtain ⟨hM1, F1⟩ := e1
  have hR1 := hR.obj hM F1
  refine r_ireturn rfl rfl dX12_expectedLayers_6 ?_
  exact ⟨rfl, hM1, F1⟩
set_option maxRecDepth 20000 in
set_option maxHeartbeats 1000000 in
theorem c_X12_isDusted_ok {G : xG} {h : xH} {m : Nat} {a : MA} {r : MR} (hM : MO G h m a r) {g : Nat → Int32} (hR : AR G h r.1 1456 g) {n : Nat} (hn : n ≤ 6) (hc : g 3 = iI (n : Int)) {i : Nat} (hi : i < n) {s : AS} (hw : SWr g (7 + 207 * i) s) : CC G MX12_isDusted [.ref m, .int (iI ((i : Int)))] h (fun o h' => o = .inl (some (.int (iI (b2 s.2.2.2.2.1)))) ∧ MO G h' m a (r_th r 0) ∧ FRp [m] h h') := by
  show RR G MX12_isDusted 0 [(0, .ref m), (1, .int (iI ((i : Int))))] [] h (xm_R MX12_isDusted).cells (xm_R MX12_isDusted).slots (fun o h' => o = .inl (some (.int (iI (b2 s.2.2.2.2.1)))) ∧ MO G h' m a (r_th r 0) ∧ FRp [m] h h')
  refine r_aload_n dX12_isDusted_0 0 rfl ?_
  refine r_iload_n dX12_isDusted_1 1 rfl ?_
  refine i_const (1) dX12_isDusted_2 ?_
  refine p_callV (As := [.int (iI ((i : Int))), .int (iI 1)]) (b := m) (rest := []) (w := (some (.int (iI (b2 s.2.2.2.2.1))))) (st' := [.int (iI (b2 s.2.2.2.2.1))]) kv_X12_isDusted_145 dX12_isDusted_3 rfl rfl (Nat.le_of_ble_eq_true rfl) (Nat.le_of_ble_eq_true rfl) (x_rv hM.1 hM.2 rfl) rfl rfl (c_X12_toldIs_1_ok hM hR hn hc hi hw) rfl (fun h1 e1 => ?_)
  obtain ⟨hM1, F1⟩ := e1
  have hR1 := hR.obj hM F1
  refine r_ireturn rfl (b2_nar _) dX12_isDusted_6 ?_
  exact ⟨rfl, hM1, F1⟩
set_option maxRecDepth 20000 in
set_option maxHeartbeats 1000000 in
theorem c_X12_isDusted_no {G : xG} {h : xH} {m : Nat} {a : MA} {r : MR} (hM : MO G h m a r) {g : Nat → Int32} (hR : AR G h r.1 1456 g) {n : Nat} (hn : n ≤ 6) (hc : g 3 = iI (n : Int)) {z : Int} (hz : in32 z) (hs : ¬ (0 ≤ z ∧ z < (n : Int))) : CC G MX12_isDusted [.ref m, .int (iI z)] h (fun o h' => o = .inl (some (.int (iI 0))) ∧ MO G h' m a (r_th r 1) ∧ FRp [m] h h') := by
  show RR G MX12_isDusted 0 [(0, .ref m), (1, .int (iI z))] [] h (xm_R MX12_isDusted).cells (xm_R MX12_isDusted).slots (fun o h' => o = .inl (some (.int (iI 0))) ∧ MO G h' m a (r_th r 1) ∧ FRp [m] h h')
  refine r_aload_n dX12_isDusted_0 0 rfl ?_
  refine r_iload_n dX12_isDusted_1 1 rfl ?_
  refine i_const (1) dX12_isDusted_2 ?_
  refine p_callV (As := [.int (iI z), .int (iI 1)]) (b := m) (rest := []) (w := (some (.int (iI 0)))) (st' := [.int (iI 0)]) kv_X12_isDusted_145 dX12_isDusted_3 rfl rfl (Nat.le_of_ble_eq_true rfl) (Nat.le_of_ble_eq_true rfl) (x_rv hM.1 hM.2 rfl) rfl rfl (c_X12_toldIs_no hM hR hn hc hz hs) rfl (fun h1 e1 => ?_)
  obtain ⟨hM1, F1⟩ := e1
  have hR1 := hR.obj hM F1
  refine r_ireturn rfl (b2_nar false) dX12_isDusted_6 ?_
  exact ⟨rfl, hM1, F1⟩
set_option maxRecDepth 20000 in
set_option maxHeartbeats 1000000 in
theorem c_X12_isSealed_ok {G : xG} {h : xH} {m : Nat} {a : MA} {r : MR} (hM : MO G h m a r) {g : Nat → Int32} (hR : AR G h r.1 1456 g) {n : Nat} (hn : n ≤ 6) (hc : g 3 = iI (n : Int)) {i : Nat} (hi : i < n) {s : AS} (hw : SWr g (7 + 207 * i) s) : CC G MX12_isSealed [.ref m, .int (iI ((i : Int)))] h (fun o h' => o = .inl (some (.int (iI (b2 s.2.2.2.2.2.1)))) ∧ MO G h' m a (r_th r 0) ∧ FRp [m] h h') := by
  show RR G MX12_isSealed 0 [(0, .ref m), (1, .int (iI ((i : Int))))] [] h (xm_R MX12_isSealed).cells (xm_R MX12_isSealed).slots (fun o h' => o = .inl (some (.int (iI (b2 s.2.2.2.2.2.1)))) ∧ MO G h' m a (r_th r 0) ∧ FRp [m] h h')
  refine r_aload_n dX12_isSealed_0 0 rfl ?_
  refine r_iload_n dX12_isSealed_1 1 rfl ?_
  refine i_const (2) dX12_isSealed_2 ?_
  refine p_callV (As := [.int (iI ((i : Int))), .int (iI 2)]) (b := m) (rest := []) (w := (some (.int (iI (b2 s.2.2.2.2.2.1))))) (st' := [.int (iI (b2 s.2.2.2.2.2.1))]) kv_X12_isSealed_145 dX12_isSealed_3 rfl rfl (Nat.le_of_ble_eq_true rfl) (Nat.le_of_ble_eq_true rfl) (x_rv hM.1 hM.2 rfl) rfl rfl (c_X12_toldIs_2_ok hM hR hn hc hi hw) rfl (fun h1 e1 => ?_)
  obtain ⟨hM1, F1⟩ := e1
  have hR1 := hR.obj hM F1
  refine r_ireturn rfl (b2_nar _) dX12_isSealed_6 ?_
  exact ⟨rfl, hM1, F1⟩
set_option maxRecDepth 20000 in
set_option maxHeartbeats 1000000 in
theorem c_X12_isSealed_no {G : xG} {h : xH} {m : Nat} {a : MA} {r : MR} (hM : MO G h m a r) {g : Nat → Int32} (hR : AR G h r.1 1456 g) {n : Nat} (hn : n ≤ 6) (hc : g 3 = iI (n : Int)) {z : Int} (hz : in32 z) (hs : ¬ (0 ≤ z ∧ z < (n : Int))) : CC G MX12_isSealed [.ref m, .int (iI z)] h (fun o h' => o = .inl (some (.int (iI 0))) ∧ MO G h' m a (r_th r 1) ∧ FRp [m] h h') := by
  show RR G MX12_isSealed 0 [(0, .ref m), (1, .int (iI z))] [] h (xm_R MX12_isSealed).cells (xm_R MX12_isSealed).slots (fun o h' => o = .inl (some (.int (iI 0))) ∧ MO G h' m a (r_th r 1) ∧ FRp [m] h h')
  refine r_aload_n dX12_isSealed_0 0 rfl ?_
  refine r_iload_n dX12_isSealed_1 1 rfl ?_
  refine i_const (2) dX12_isSealed_2 ?_
  refine p_callV (As := [.int (iI z), .int (iI 2)]) (b := m) (rest := []) (w := (some (.int (iI 0)))) (st' := [.int (iI 0)]) kv_X12_isSealed_145 dX12_isSealed_3 rfl rfl (Nat.le_of_ble_eq_true rfl) (Nat.le_of_ble_eq_true rfl) (x_rv hM.1 hM.2 rfl) rfl rfl (c_X12_toldIs_no hM hR hn hc hz hs) rfl (fun h1 e1 => ?_)
  obtain ⟨hM1, F1⟩ := e1
  have hR1 := hR.obj hM F1
  refine r_ireturn rfl (b2_nar false) dX12_isSealed_6 ?_
  exact ⟨rfl, hM1, F1⟩
set_option maxRecDepth 20000 in
set_option maxHeartbeats 1000000 in
theorem c_X12_isCooling_ok {G : xG} {h : xH} {m : Nat} {a : MA} {r : MR} (hM : MO G h m a r) {g : Nat → Int32} (hR : AR G h r.1 1456 g) {n : Nat} (hn : n ≤ 6) (hc : g 3 = iI (n : Int)) {i : Nat} (hi : i < n) {s : AS} (hw : SWr g (7 + 207 * i) s) : CC G MX12_isCooling [.ref m, .int (iI ((i : Int)))] h (fun o h' => o = .inl (some (.int (iI (b2 s.2.2.2.2.2.2)))) ∧ MO G h' m a (r_th r 0) ∧ FRp [m] h h') := by
  show RR G MX12_isCooling 0 [(0, .ref m), (1, .int (iI ((i : Int))))] [] h (xm_R MX12_isCooling).cells (xm_R MX12_isCooling).slots (fun o h' => o = .inl (some (.int (iI (b2 s.2.2.2.2.2.2)))) ∧ MO G h' m a (r_th r 0) ∧ FRp [m] h h')
  refine r_aload_n dX12_isCooling_0 0 rfl ?_
  refine r_iload_n dX12_isCooling_1 1 rfl ?_
  refine i_const (3) dX12_isCooling_2 ?_
  refine p_callV (As := [.int (iI ((i : Int))), .int (iI 3)]) (b := m) (rest := []) (w := (some (.int (iI (b2 s.2.2.2.2.2.2))))) (st' := [.int (iI (b2 s.2.2.2.2.2.2))]) kv_X12_isCooling_145 dX12_isCooling_3 rfl rfl (Nat.le_of_ble_eq_true rfl) (Nat.le_of_ble_eq_true rfl) (x_rv hM.1 hM.2 rfl) rfl rfl (c_X12_toldIs_3_ok hM hR hn hc hi hw) rfl (fun h1 e1 => ?_)
  obtain ⟨hM1, F1⟩ := e1
  have hR1 := hR.obj hM F1
  refine r_ireturn rfl (b2_nar _) dX12_isCooling_6 ?_
  exact ⟨rfl, hM1, F1⟩
set_option maxRecDepth 20000 in
set_option maxHeartbeats 1000000 in
theorem c_X12_isCooling_no {G : xG} {h : xH} {m : Nat} {a : MA} {r : MR} (hM : MO G h m a r) {g : Nat → Int32} (hR : AR G h r.1 1456 g) {n : Nat} (hn : n ≤ 6) (hc : g 3 = iI (n : Int)) {z : Int} (hz : in32 z) (hs : ¬ (0 ≤ z ∧ z < (n : Int))) : CC G MX12_isCooling [.ref m, .int (iI z)] h (fun o h' => o = .inl (some (.int (iI 0))) ∧ MO G h' m a (r_th r 1) ∧ FRp [m] h h') := by
  show RR G MX12_isCooling 0 [(0, .ref m), (1, .int (iI z))] [] h (xm_R MX12_isCooling).cells (xm_R MX12_isCooling).slots (fun o h' => o = .inl (some (.int (iI 0))) ∧ MO G h' m a (r_th r 1) ∧ FRp [m] h h')
  refine r_aload_n dX12_isCooling_0 0 rfl ?_
  refine r_iload_n dX12_isCooling_1 1 rfl ?_
  refine i_const (3) dX12_isCooling_2 ?_
  refine p_callV (As := [.int (iI z), .int (iI 3)]) (b := m) (rest := []) (w := (some (.int (iI 0)))) (st' := [.int (iI 0)]) kv_X12_isCooling_145 dX12_isCooling_3 rfl rfl (Nat.le_of_ble_eq_true rfl) (Nat.le_of_ble_eq_true rfl) (x_rv hM.1 hM.2 rfl) rfl rfl (c_X12_toldIs_no hM hR hn hc hz hs) rfl (fun h1 e1 => ?_)
  obtain ⟨hM1, F1⟩ := e1
  have hR1 := hR.obj hM F1
  refine r_ireturn rfl (b2_nar false) dX12_isCooling_6 ?_
  exact ⟨rfl, hM1, F1⟩
set_option maxRecDepth 20000 in
set_option maxHeartbeats 1000000 in
theorem c_X12_height_ok {G : xG} {h : xH} {m : Nat} {a : MA} {r : MR} (hM : MO G h m a r) {g : Nat → Int32} (hR : AR G h r.1 1456 g) {n : Nat} (hn : n ≤ 6) (hc : g 3 = iI (n : Int)) {i : Nat} (hi : i < n) {s : AS} (hw : SWr g (7 + 207 * i) s) (hW : WS s) : CC G MX12_height [.ref m, .int (iI ((i : Int)))] h (fun o h' => o = .inl (some (.int (iI (hgt s.1)))) ∧ MO G h' m a (r_th r 0) ∧ FRp [m] h h') := by
  obtain ⟨hl1, hnz, hh4, hw0, hw9⟩ := id hW
  have hl2 := hw.len
  have hg0 := hgt_nn s.1
  have hgl := hgt_ge s.1 hnz
  show RR G MX12_height 0 [(0, .ref m), (1, .int (iI ((i : Int))))] [] h (xm_R MX12_height).cells (xm_R MX12_height).slots (fun o h' => o = .inl (some (.int (iI (hgt s.1)))) ∧ MO G h' m a (r_th r 0) ∧ FRp [m] h h')
  refine r_aload_n dX12_height_0 0 rfl ?_
  refine r_aload_n dX12_height_1 0 rfl ?_
  refine r_iload_n dX12_height_2 1 rfl ?_
  refine p_callV (As := [.int (iI ((i : Int)))]) (b := m) (rest := [.ref m]) (w := (some (.int (iI (b2 true))))) (st' := [.int (iI (b2 true)), .ref m]) kv_X12_height_111 dX12_height_3 rfl rfl (Nat.le_of_ble_eq_true rfl) (Nat.le_of_ble_eq_true rfl) (x_rv hM.1 hM.2 rfl) rfl rfl (c_X12_isSheet_t hM hR hn hc hi) rfl (fun h1 e1 => ?_)
  rw [show h1 = h from e1]
  refine p_callV (As := [.int (iI (b2 true))]) (b := m) (rest := []) (w := (some (.int (iI 0)))) (st' := [.int (iI 0)]) kv_X12_height_82 dX12_height_6 rfl rfl (Nat.le_of_ble_eq_true rfl) (Nat.le_of_ble_eq_true rfl) (x_rv hM.1 hM.2 rfl) rfl rfl (c_X12_lacks_t hM) rfl (fun h2 e2 => ?_)
  obtain ⟨hM2, F2⟩ := e2
  have hR2 := hR.obj hM F2
  refine i_ifeq dX12_height_9 (tgt := 16) (by decide) ⟨by decide, by decide⟩ (fun _ => ?_) (fun c => absurd c (by decide))
  refine r_aload_n dX12_height_16 0 rfl ?_
  refine r_iload_n dX12_height_17 1 rfl ?_
  refine p_callV (As := [.int (iI ((i : Int)))]) (b := m) (rest := []) (w := (some (.int (iI (hgt s.1))))) (st' := [.int (iI (hgt s.1))]) kv_X12_height_136 dX12_height_18 rfl rfl (Nat.le_of_ble_eq_true rfl) (Nat.le_of_ble_eq_true rfl) (x_rv hM2.1 hM2.2 rfl) rfl rfl (c_X12_heightOf hM2 hR2 (by omega) hw hh4) rfl (fun h3 e3 => ?_)
  rw [show h3 = h2 from e3]
  refine r_ireturn rfl rfl dX12_height_21 ?_
  exact ⟨rfl, hM2, F2⟩
set_option maxRecDepth 20000 in
set_option maxHeartbeats 1000000 in
theorem c_X12_height_no {G : xG} {h : xH} {m : Nat} {a : MA} {r : MR} (hM : MO G h m a r) {g : Nat → Int32} (hR : AR G h r.1 1456 g) {n : Nat} (hn : n ≤ 6) (hc : g 3 = iI (n : Int)) {z : Int} (hz : in32 z) (hs : ¬ (0 ≤ z ∧ z < (n : Int))) : CC G MX12_height [.ref m, .int (iI z)] h (fun o h' => o = .inl (some (.int (iI 0))) ∧ MO G h' m a (r_th r 1) ∧ FRp [m] h h') := by
  show RR G MX12_height 0 [(0, .ref m), (1, .int (iI z))] [] h (xm_R MX12_height).cells (xm_R MX12_height).slots (fun o h' => o = .inl (some (.int (iI 0))) ∧ MO G h' m a (r_th r 1) ∧ FRp [m] h h')
  refine r_aload_n dX12_height_0 0 rfl ?_
  refine r_aload_n dX12_height_1 0 rfl ?_
  refine r_iload_n dX12_height_2 1 rfl ?_
  refine p_callV (As := [.int (iI z)]) (b := m) (rest := [.ref m]) (w := (some (.int (iI (b2 false))))) (st' := [.int (iI (b2 false)), .ref m]) kv_X12_height_111 dX12_height_3 rfl rfl (Nat.le_of_ble_eq_true rfl) (Nat.le_of_ble_eq_true rfl) (x_rv hM.1 hM.2 rfl) rfl rfl (c_X12_isSheet_f hM hR hn hc hz hs) rfl (fun h1 e1 => ?_)
  rw [show h1 = h from e1]
  refine p_callV (As := [.int (iI (b2 false))]) (b := m) (rest := []) (w := (some (.int (iI 1)))) (st' := [.int (iI 1)]) kv_X12_height_82 dX12_height_6 rfl rfl (Nat.le_of_ble_eq_true rfl) (Nat.le_of_ble_eq_true rfl) (x_rv hM.1 hM.2 rfl) rfl rfl (c_X12_lacks_f hM) rfl (fun h2 e2 => ?_)
  obtain ⟨hM2, F2⟩ := e2
  have hR2 := hR.obj hM F2
  refine i_ifeq dX12_height_9 (tgt := 16) (by decide) ⟨by decide, by decide⟩ (fun c => absurd c (by decide)) (fun _ => ?_)
  refine i_const (0) dX12_height_12 ?_
  refine r_goto dX12_height_13 (tgt := 21) (by decide) ?_
  refine r_ireturn rfl rfl dX12_height_21 ?_
  exact ⟨rfl, hM2, F2⟩
set_option maxRecDepth 20000 in
set_option maxHeartbeats 1000000 in
theorem c_X12_butterHeight_ok {G : xG} {h : xH} {m : Nat} {a : MA} {r : MR} (hM : MO G h m a r) {g : Nat → Int32} (hR : AR G h r.1 1456 g) {n : Nat} (hn : n ≤ 6) (hc : g 3 = iI (n : Int)) {i : Nat} (hi : i < n) {s : AS} (hw : SWr g (7 + 207 * i) s) (hW : WS s) : CC G MX12_butterHeight [.ref m, .int (iI ((i : Int)))] h (fun o h' => o = .inl (some (.int (iI (hBut s.1)))) ∧ MO G h' m a (r_th r 0) ∧ FRp [m] h h') := by
  obtain ⟨hl1, hnz, hh4, hw0, hw9⟩ := id hW
  have hl2 := hw.len
  have hg0 := hgt_nn s.1
  have hgl := hgt_ge s.1 hnz
  show RR G MX12_butterHeight 0 [(0, .ref m), (1, .int (iI ((i : Int))))] [] h (xm_R MX12_butterHeight).cells (xm_R MX12_butterHeight).slots (fun o h' => o = .inl (some (.int (iI (hBut s.1)))) ∧ MO G h' m a (r_th r 0) ∧ FRp [m] h h')
  refine r_aload_n dX12_butterHeight_0 0 rfl ?_
  refine r_aload_n dX12_butterHeight_1 0 rfl ?_
  refine r_iload_n dX12_butterHeight_2 1 rfl ?_
  refine p_callV (As := [.int (iI ((i : Int)))]) (b := m) (rest := [.ref m]) (w := (some (.int (iI (b2 true))))) (st' := [.int (iI (b2 true)), .ref m]) kv_X12_butterHeight_111 dX12_butterHeight_3 rfl rfl (Nat.le_of_ble_eq_true rfl) (Nat.le_of_ble_eq_true rfl) (x_rv hM.1 hM.2 rfl) rfl rfl (c_X12_isSheet_t hM hR hn hc hi) rfl (fun h1 e1 => ?_)
  rw [show h1 = h from e1]
  refine p_callV (As := [.int (iI (b2 true))]) (b := m) (rest := []) (w := (some (.int (iI 0)))) (st' := [.int (iI 0)]) kv_X12_butterHeight_82 dX12_butterHeight_6 rfl rfl (Nat.le_of_ble_eq_true rfl) (Nat.le_of_ble_eq_true rfl) (x_rv hM.1 hM.2 rfl) rfl rfl (c_X12_lacks_t hM) rfl (fun h2 e2 => ?_)
  obtain ⟨hM2, F2⟩ := e2
  have hR2 := hR.obj hM F2
  refine i_ifeq dX12_butterHeight_9 (tgt := 16) (by decide) ⟨by decide, by decide⟩ (fun _ => ?_) (fun c => absurd c (by decide))
  refine r_aload_n dX12_butterHeight_16 0 rfl ?_
  refine r_iload_n dX12_butterHeight_17 1 rfl ?_
  refine p_callV (As := [.int (iI ((i : Int)))]) (b := m) (rest := []) (w := (some (.int (iI (hBut s.1))))) (st' := [.int (iI (hBut s.1))]) kv_X12_butterHeight_139 dX12_butterHeight_18 rfl rfl (Nat.le_of_ble_eq_true rfl) (Nat.le_of_ble_eq_true rfl) (x_rv hM2.1 hM2.2 rfl) rfl rfl (c_X12_butterOf hM2 hR2 (by omega) hw hh4) rfl (fun h3 e3 => ?_)
  rw [show h3 = h2 from e3]
  refine r_ireturn rfl rfl dX12_butterHeight_21 ?_
  exact ⟨rfl, hM2, F2⟩
set_option maxRecDepth 20000 in
set_option maxHeartbeats 1000000 in
theorem c_X12_butterHeight_no {G : xG} {h : xH} {m : Nat} {a : MA} {r : MR} (hM : MO G h m a r) {g : Nat → Int32} (hR : AR G h r.1 1456 g) {n : Nat} (hn : n ≤ 6) (hc : g 3 = iI (n : Int)) {z : Int} (hz : in32 z) (hs : ¬ (0 ≤ z ∧ z < (n : Int))) : CC G MX12_butterHeight [.ref m, .int (iI z)] h (fun o h' => o = .inl (some (.int (iI 0))) ∧ MO G h' m a (r_th r 1) ∧ FRp [m] h h') := by
  show RR G MX12_butterHeight 0 [(0, .ref m), (1, .int (iI z))] [] h (xm_R MX12_butterHeight).cells (xm_R MX12_butterHeight).slots (fun o h' => o = .inl (some (.int (iI 0))) ∧ MO G h' m a (r_th r 1) ∧ FRp [m] h h')
  refine r_aload_n dX12_butterHeight_0 0 rfl ?_
  refine r_aload_n dX12_butterHeight_1 0 rfl ?_
  refine r_iload_n dX12_butterHeight_2 1 rfl ?_
  refine p_callV (As := [.int (iI z)]) (b := m) (rest := [.ref m]) (w := (some (.int (iI (b2 false))))) (st' := [.int (iI (b2 false)), .ref m]) kv_X12_butterHeight_111 dX12_butterHeight_3 rfl rfl (Nat.le_of_ble_eq_true rfl) (Nat.le_of_ble_eq_true rfl) (x_rv hM.1 hM.2 rfl) rfl rfl (c_X12_isSheet_f hM hR hn hc hz hs) rfl (fun h1 e1 => ?_)
  rw [show h1 = h from e1]
  refine p_callV (As := [.int (iI (b2 false))]) (b := m) (rest := []) (w := (some (.int (iI 1)))) (st' := [.int (iI 1)]) kv_X12_butterHeight_82 dX12_butterHeight_6 rfl rfl (Nat.le_of_ble_eq_true rfl) (Nat.le_of_ble_eq_true rfl) (x_rv hM.1 hM.2 rfl) rfl rfl (c_X12_lacks_f hM) rfl (fun h2 e2 => ?_)
  obtain ⟨hM2, F2⟩ := e2
  have hR2 := hR.obj hM F2
  refine i_ifeq dX12_butterHeight_9 (tgt := 16) (by decide) ⟨by decide, by decide⟩ (fun c => absurd c (by decide)) (fun _ => ?_)
  refine i_const (0) dX12_butterHeight_12 ?_
  refine r_goto dX12_butterHeight_13 (tgt := 21) (by decide) ?_
  refine r_ireturn rfl rfl dX12_butterHeight_21 ?_
  exact ⟨rfl, hM2, F2⟩
set_option maxRecDepth 20000 in
set_option maxHeartbeats 1000000 in
theorem c_X12_thinnestLayer_ok {G : xG} {h : xH} {m : Nat} {a : MA} {r : MR} (hM : MO G h m a r) {g : Nat → Int32} (hR : AR G h r.1 1456 g) {n : Nat} (hn : n ≤ 6) (hc : g 3 = iI (n : Int)) {i : Nat} (hi : i < n) {s : AS} (hw : SWr g (7 + 207 * i) s) (hW : WS s) : CC G MX12_thinnestLayer [.ref m, .int (iI ((i : Int)))] h (fun o h' => o = .inl (some (.int (iI (thinB s.1 s.1.length : Int)))) ∧ MO G h' m a (r_th r 0) ∧ FRp [m] h h') := by
  obtain ⟨hl1, hnz, hh4, hw0, hw9⟩ := id hW
  have hl2 := hw.len
  have hg0 := hgt_nn s.1
  have hgl := hgt_ge s.1 hnz
  show RR G MX12_thinnestLayer 0 [(0, .ref m), (1, .int (iI ((i : Int))))] [] h (xm_R MX12_thinnestLayer).cells (xm_R MX12_thinnestLayer).slots (fun o h' => o = .inl (some (.int (iI (thinB s.1 s.1.length : Int)))) ∧ MO G h' m a (r_th r 0) ∧ FRp [m] h h')
  refine r_aload_n dX12_thinnestLayer_0 0 rfl ?_
  refine r_aload_n dX12_thinnestLayer_1 0 rfl ?_
  refine r_iload_n dX12_thinnestLayer_2 1 rfl ?_
  refine p_callV (As := [.int (iI ((i : Int)))]) (b := m) (rest := [.ref m]) (w := (some (.int (iI (b2 true))))) (st' := [.int (iI (b2 true)), .ref m]) kv_X12_thinnestLayer_111 dX12_thinnestLayer_3 rfl rfl (Nat.le_of_ble_eq_true rfl) (Nat.le_of_ble_eq_true rfl) (x_rv hM.1 hM.2 rfl) rfl rfl (c_X12_isSheet_t hM hR hn hc hi) rfl (fun h1 e1 => ?_)
  rw [show h1 = h from e1]
  refine p_callV (As := [.int (iI (b2 true))]) (b := m) (rest := []) (w := (some (.int (iI 0)))) (st' := [.int (iI 0)]) kv_X12_thinnestLayer_82 dX12_thinnestLayer_6 rfl rfl (Nat.le_of_ble_eq_true rfl) (Nat.le_of_ble_eq_true rfl) (x_rv hM.1 hM.2 rfl) rfl rfl (c_X12_lacks_t hM) rfl (fun h2 e2 => ?_)
  obtain ⟨hM2, F2⟩ := e2
  have hR2 := hR.obj hM F2
  refine i_ifeq dX12_thinnestLayer_9 (tgt := 16) (by decide) ⟨by decide, by decide⟩ (fun _ => ?_) (fun c => absurd c (by decide))
  refine r_aload_n dX12_thinnestLayer_16 0 rfl ?_
  refine r_iload_n dX12_thinnestLayer_17 1 rfl ?_
  refine i_const (1) dX12_thinnestLayer_18 ?_
  refine p_callV (As := [.int (iI ((i : Int))), .int (iI 1)]) (b := m) (rest := []) (w := (some (.int (iI ((thinB s.1 s.1.length : Int)))))) (st' := [.int (iI ((thinB s.1 s.1.length : Int)))]) kv_X12_thinnestLayer_142 dX12_thinnestLayer_19 rfl rfl (Nat.le_of_ble_eq_true rfl) (Nat.le_of_ble_eq_true rfl) (x_rv hM2.1 hM2.2 rfl) rfl rfl (c_X12_extreme_thinB hM2 hR2 (by omega) hw hh4 hl1) rfl (fun h3 e3 => ?_)
  rw [show h3 = h2 from e3]
  refine r_ireturn rfl rfl dX12_thinnestLayer_22 ?_
  exact ⟨rfl, hM2, F2⟩
set_option maxRecDepth 20000 in
set_option maxHeartbeats 1000000 in
theorem c_X12_thinnestLayer_no {G : xG} {h : xH} {m : Nat} {a : MA} {r : MR} (hM : MO G h m a r) {g : Nat → Int32} (hR : AR G h r.1 1456 g) {n : Nat} (hn : n ≤ 6) (hc : g 3 = iI (n : Int)) {z : Int} (hz : in32 z) (hs : ¬ (0 ≤ z ∧ z < (n : Int))) : CC G MX12_thinnestLayer [.ref m, .int (iI z)] h (fun o h' => o = .inl (some (.int (iI 0))) ∧ MO G h' m a (r_th r 1) ∧ FRp [m] h h') := by
  show RR G MX12_thinnestLayer 0 [(0, .ref m), (1, .int (iI z))] [] h (xm_R MX12_thinnestLayer).cells (xm_R MX12_thinnestLayer).slots (fun o h' => o = .inl (some (.int (iI 0))) ∧ MO G h' m a (r_th r 1) ∧ FRp [m] h h')
  refine r_aload_n dX12_thinnestLayer_0 0 rfl ?_
  refine r_aload_n dX12_thinnestLayer_1 0 rfl ?_
  refine r_iload_n dX12_thinnestLayer_2 1 rfl ?_
  refine p_callV (As := [.int (iI z)]) (b := m) (rest := [.ref m]) (w := (some (.int (iI (b2 false))))) (st' := [.int (iI (b2 false)), .ref m]) kv_X12_thinnestLayer_111 dX12_thinnestLayer_3 rfl rfl (Nat.le_of_ble_eq_true rfl) (Nat.le_of_ble_eq_true rfl) (x_rv hM.1 hM.2 rfl) rfl rfl (c_X12_isSheet_f hM hR hn hc hz hs) rfl (fun h1 e1 => ?_)
  rw [show h1 = h from e1]
  refine p_callV (As := [.int (iI (b2 false))]) (b := m) (rest := []) (w := (some (.int (iI 1)))) (st' := [.int (iI 1)]) kv_X12_thinnestLayer_82 dX12_thinnestLayer_6 rfl rfl (Nat.le_of_ble_eq_true rfl) (Nat.le_of_ble_eq_true rfl) (x_rv hM.1 hM.2 rfl) rfl rfl (c_X12_lacks_f hM) rfl (fun h2 e2 => ?_)
  obtain ⟨hM2, F2⟩ := e2
  have hR2 := hR.obj hM F2
  refine i_ifeq dX12_thinnestLayer_9 (tgt := 16) (by decide) ⟨by decide, by decide⟩ (fun c => absurd c (by decide)) (fun _ => ?_)
  refine i_const (0) dX12_thinnestLayer_12 ?_
  refine r_goto dX12_thinnestLayer_13 (tgt := 22) (by decide) ?_
  refine r_ireturn rfl rfl dX12_thinnestLayer_22 ?_
  exact ⟨rfl, hM2, F2⟩
set_option maxRecDepth 20000 in
set_option maxHeartbeats 1000000 in
theorem c_X12_thickestLayer_ok {G : xG} {h : xH} {m : Nat} {a : MA} {r : MR} (hM : MO G h m a r) {g : Nat → Int32} (hR : AR G h r.1 1456 g) {n : Nat} (hn : n ≤ 6) (hc : g 3 = iI (n : Int)) {i : Nat} (hi : i < n) {s : AS} (hw : SWr g (7 + 207 * i) s) (hW : WS s) : CC G MX12_thickestLayer [.ref m, .int (iI ((i : Int)))] h (fun o h' => o = .inl (some (.int (iI (thickB s.1 s.1.length : Int)))) ∧ MO G h' m a (r_th r 0) ∧ FRp [m] h h') := by
  obtain ⟨hl1, hnz, hh4, hw0, hw9⟩ := id hW
  have hl2 := hw.len
  have hg0 := hgt_nn s.1
  have hgl := hgt_ge s.1 hnz
  show RR G MX12_thickestLayer 0 [(0, .ref m), (1, .int (iI ((i : Int))))] [] h (xm_R MX12_thickestLayer).cells (xm_R MX12_thickestLayer).slots (fun o h' => o = .inl (some (.int (iI (thickB s.1 s.1.length : Int)))) ∧ MO G h' m a (r_th r 0) ∧ FRp [m] h h')
  refine r_aload_n dX12_thickestLayer_0 0 rfl ?_
  refine r_aload_n dX12_thickestLayer_1 0 rfl ?_
  refine r_iload_n dX12_thickestLayer_2 1 rfl ?_
  refine p_callV (As := [.int (iI ((i : Int)))]) (b := m) (rest := [.ref m]) (w := (some (.int (iI (b2 true))))) (st' := [.int (iI (b2 true)), .ref m]) kv_X12_thickestLayer_111 dX12_thickestLayer_3 rfl rfl (Nat.le_of_ble_eq_true rfl) (Nat.le_of_ble_eq_true rfl) (x_rv hM.1 hM.2 rfl) rfl rfl (c_X12_isSheet_t hM hR hn hc hi) rfl (fun h1 e1 => ?_)
  rw [show h1 = h from e1]
  refine p_callV (As := [.int (iI (b2 true))]) (b := m) (rest := []) (w := (some (.int (iI 0)))) (st' := [.int (iI 0)]) kv_X12_thickestLayer_82 dX12_thickestLayer_6 rfl rfl (Nat.le_of_ble_eq_true rfl) (Nat.le_of_ble_eq_true rfl) (x_rv hM.1 hM.2 rfl) rfl rfl (c_X12_lacks_t hM) rfl (fun h2 e2 => ?_)
  obtain ⟨hM2, F2⟩ := e2
  have hR2 := hR.obj hM F2
  refine i_ifeq dX12_thickestLayer_9 (tgt := 16) (by decide) ⟨by decide, by decide⟩ (fun _ => ?_) (fun c => absurd c (by decide))
  refine r_aload_n dX12_thickestLayer_16 0 rfl ?_
  refine r_iload_n dX12_thickestLayer_17 1 rfl ?_
  refine i_const (-1) dX12_thickestLayer_18 ?_
  refine p_callV (As := [.int (iI ((i : Int))), .int (iI ((-1)))]) (b := m) (rest := []) (w := (some (.int (iI ((thickB s.1 s.1.length : Int)))))) (st' := [.int (iI ((thickB s.1 s.1.length : Int)))]) kv_X12_thickestLayer_142 dX12_thickestLayer_19 rfl rfl (Nat.le_of_ble_eq_true rfl) (Nat.le_of_ble_eq_true rfl) (x_rv hM2.1 hM2.2 rfl) rfl rfl (c_X12_extreme_thickB hM2 hR2 (by omega) hw hh4 hl1) rfl (fun h3 e3 => ?_)
  rw [show h3 = h2 from e3]
  refine r_ireturn rfl rfl dX12_thickestLayer_22 ?_
  exact ⟨rfl, hM2, F2⟩
set_option maxRecDepth 20000 in
set_option maxHeartbeats 1000000 in
theorem c_X12_thickestLayer_no {G : xG} {h : xH} {m : Nat} {a : MA} {r : MR} (hM : MO G h m a r) {g : Nat → Int32} (hR : AR G h r.1 1456 g) {n : Nat} (hn : n ≤ 6) (hc : g 3 = iI (n : Int)) {z : Int} (hz : in32 z) (hs : ¬ (0 ≤ z ∧ z < (n : Int))) : CC G MX12_thickestLayer [.ref m, .int (iI z)] h (fun o h' => o = .inl (some (.int (iI 0))) ∧ MO G h' m a (r_th r 1) ∧ FRp [m] h h') := by
  show RR G MX12_thickestLayer 0 [(0, .ref m), (1, .int (iI z))] [] h (xm_R MX12_thickestLayer).cells (xm_R MX12_thickestLayer).slots (fun o h' => o = .inl (some (.int (iI 0))) ∧ MO G h' m a (r_th r 1) ∧ FRp [m] h h')
  refine r_aload_n dX12_thickestLayer_0 0 rfl ?_
  refine r_aload_n dX12_thickestLayer_1 0 rfl ?_
  refine r_iload_n dX12_thickestLayer_2 1 rfl ?_
  refine p_callV (As := [.int (iI z)]) (b := m) (rest := [.ref m]) (w := (some (.int (iI (b2 false))))) (st' := [.int (iI (b2 false)), .ref m]) kv_X12_thickestLayer_111 dX12_thickestLayer_3 rfl rfl (Nat.le_of_ble_eq_true rfl) (Nat.le_of_ble_eq_true rfl) (x_rv hM.1 hM.2 rfl) rfl rfl (c_X12_isSheet_f hM hR hn hc hz hs) rfl (fun h1 e1 => ?_)
  rw [show h1 = h from e1]
  refine p_callV (As := [.int (iI (b2 false))]) (b := m) (rest := []) (w := (some (.int (iI 1)))) (st' := [.int (iI 1)]) kv_X12_thickestLayer_82 dX12_thickestLayer_6 rfl rfl (Nat.le_of_ble_eq_true rfl) (Nat.le_of_ble_eq_true rfl) (x_rv hM.1 hM.2 rfl) rfl rfl (c_X12_lacks_f hM) rfl (fun h2 e2 => ?_)
  obtain ⟨hM2, F2⟩ := e2
  have hR2 := hR.obj hM F2
  refine i_ifeq dX12_thickestLayer_9 (tgt := 16) (by decide) ⟨by decide, by decide⟩ (fun c => absurd c (by decide)) (fun _ => ?_)
  refine i_const (0) dX12_thickestLayer_12 ?_
  refine r_goto dX12_thickestLayer_13 (tgt := 22) (by decide) ?_
  refine r_ireturn rfl rfl dX12_thickestLayer_22 ?_
  exact ⟨rfl, hM2, F2⟩
set_option maxRecDepth 20000 in
set_option maxHeartbeats 1000000 in
theorem c_X12_butterShare_ok {G : xG} {h : xH} {m : Nat} {a : MA} {r : MR} (hM : MO G h m a r) {g : Nat → Int32} (hR : AR G h r.1 1456 g) {n : Nat} (hn : n ≤ 6) (hc : g 3 = iI (n : Int)) {i : Nat} (hi : i < n) {s : AS} (hw : SWr g (7 + 207 * i) s) (hW : WS s) : CC G MX12_butterShare [.ref m, .int (iI ((i : Int)))] h (fun o h' => o = .inl (some (.float (FP.fdiv (FP.i2f (iI (hBut s.1))) (FP.i2f (iI (hgt s.1)))))) ∧ MO G h' m a (r_th r 0) ∧ FRp [m] h h') := by
  obtain ⟨hl1, hnz, hh4, hw0, hw9⟩ := id hW
  have hl2 := hw.len
  have hg0 := hgt_nn s.1
  have hgl := hgt_ge s.1 hnz
  have hbb := hBut_b s.1
  show RR G MX12_butterShare 0 [(0, .ref m), (1, .int (iI ((i : Int))))] [] h (xm_R MX12_butterShare).cells (xm_R MX12_butterShare).slots (fun o h' => o = .inl (some (.float (FP.fdiv (FP.i2f (iI (hBut s.1))) (FP.i2f (iI (hgt s.1)))))) ∧ MO G h' m a (r_th r 0) ∧ FRp [m] h h')
  refine r_aload_n dX12_butterShare_0 0 rfl ?_
  refine r_aload_n dX12_butterShare_1 0 rfl ?_
  refine r_iload_n dX12_butterShare_2 1 rfl ?_
  refine p_callV (As := [.int (iI ((i : Int)))]) (b := m) (rest := [.ref m]) (w := (some (.int (iI (b2 true))))) (st' := [.int (iI (b2 true)), .ref m]) kv_X12_butterShare_111 dX12_butterShare_3 rfl rfl (Nat.le_of_ble_eq_true rfl) (Nat.le_of_ble_eq_true rfl) (x_rv hM.1 hM.2 rfl) rfl rfl (c_X12_isSheet_t hM hR hn hc hi) rfl (fun h1 e1 => ?_)
  rw [show h1 = h from e1]
  refine p_callV (As := [.int (iI (b2 true))]) (b := m) (rest := []) (w := (some (.int (iI 0)))) (st' := [.int (iI 0)]) kv_X12_butterShare_82 dX12_butterShare_6 rfl rfl (Nat.le_of_ble_eq_true rfl) (Nat.le_of_ble_eq_true rfl) (x_rv hM.1 hM.2 rfl) rfl rfl (c_X12_lacks_t hM) rfl (fun h2 e2 => ?_)
  obtain ⟨hM2, F2⟩ := e2
  have hR2 := hR.obj hM F2
  refine i_ifeq dX12_butterShare_9 (tgt := 16) (by decide) ⟨by decide, by decide⟩ (fun _ => ?_) (fun c => absurd c (by decide))
  refine r_aload_n dX12_butterShare_16 0 rfl ?_
  refine r_iload_n dX12_butterShare_17 1 rfl ?_
  refine p_callV (As := [.int (iI ((i : Int)))]) (b := m) (rest := []) (w := (some (.int (iI (hBut s.1))))) (st' := [.int (iI (hBut s.1))]) kv_X12_butterShare_139 dX12_butterShare_18 rfl rfl (Nat.le_of_ble_eq_true rfl) (Nat.le_of_ble_eq_true rfl) (x_rv hM2.1 hM2.2 rfl) rfl rfl (c_X12_butterOf hM2 hR2 (by omega) hw hh4) rfl (fun h3 e3 => ?_)
  rw [show h3 = h2 from e3]
  refine r_i2f dX12_butterShare_21 ?_
  refine r_aload_n dX12_butterShare_22 0 rfl ?_
  refine r_iload_n dX12_butterShare_23 1 rfl ?_
  refine p_callV (As := [.int (iI ((i : Int)))]) (b := m) (rest := [.float (FP.i2f (iI (hBut s.1)))]) (w := (some (.int (iI (hgt s.1))))) (st' := [.int (iI (hgt s.1)), .float (FP.i2f (iI (hBut s.1)))]) kv_X12_butterShare_136 dX12_butterShare_24 rfl rfl (Nat.le_of_ble_eq_true rfl) (Nat.le_of_ble_eq_true rfl) (x_rv hM2.1 hM2.2 rfl) rfl rfl (c_X12_heightOf hM2 hR2 (by omega) hw hh4) rfl (fun h4 e4 => ?_)
  rw [show h4 = h2 from e4]
  refine r_i2f dX12_butterShare_27 ?_
  refine r_fdiv dX12_butterShare_28 (nanF _ _ (by omega) (by omega)) ?_
  refine r_freturn rfl dX12_butterShare_29 ?_
  exact ⟨rfl, hM2, F2⟩
set_option maxRecDepth 20000 in
set_option maxHeartbeats 1000000 in
theorem c_X12_butterShare_no {G : xG} {h : xH} {m : Nat} {a : MA} {r : MR} (hM : MO G h m a r) {g : Nat → Int32} (hR : AR G h r.1 1456 g) {n : Nat} (hn : n ≤ 6) (hc : g 3 = iI (n : Int)) {z : Int} (hz : in32 z) (hs : ¬ (0 ≤ z ∧ z < (n : Int))) : CC G MX12_butterShare [.ref m, .int (iI z)] h (fun o h' => o = .inl (some (.float FP.fconst0)) ∧ MO G h' m a (r_th r 1) ∧ FRp [m] h h') := by
  show RR G MX12_butterShare 0 [(0, .ref m), (1, .int (iI z))] [] h (xm_R MX12_butterShare).cells (xm_R MX12_butterShare).slots (fun o h' => o = .inl (some (.float FP.fconst0)) ∧ MO G h' m a (r_th r 1) ∧ FRp [m] h h')
  refine r_aload_n dX12_butterShare_0 0 rfl ?_
  refine r_aload_n dX12_butterShare_1 0 rfl ?_
  refine r_iload_n dX12_butterShare_2 1 rfl ?_
  refine p_callV (As := [.int (iI z)]) (b := m) (rest := [.ref m]) (w := (some (.int (iI (b2 false))))) (st' := [.int (iI (b2 false)), .ref m]) kv_X12_butterShare_111 dX12_butterShare_3 rfl rfl (Nat.le_of_ble_eq_true rfl) (Nat.le_of_ble_eq_true rfl) (x_rv hM.1 hM.2 rfl) rfl rfl (c_X12_isSheet_f hM hR hn hc hz hs) rfl (fun h1 e1 => ?_)
  rw [show h1 = h from e1]
  refine p_callV (As := [.int (iI (b2 false))]) (b := m) (rest := []) (w := (some (.int (iI 1)))) (st' := [.int (iI 1)]) kv_X12_butterShare_82 dX12_butterShare_6 rfl rfl (Nat.le_of_ble_eq_true rfl) (Nat.le_of_ble_eq_true rfl) (x_rv hM.1 hM.2 rfl) rfl rfl (c_X12_lacks_f hM) rfl (fun h2 e2 => ?_)
  obtain ⟨hM2, F2⟩ := e2
  have hR2 := hR.obj hM F2
  refine i_ifeq dX12_butterShare_9 (tgt := 16) (by decide) ⟨by decide, by decide⟩ (fun c => absurd c (by decide)) (fun _ => ?_)
  refine r_fconst0 dX12_butterShare_12 ?_
  refine r_goto dX12_butterShare_13 (tgt := 29) (by decide) ?_
  refine r_freturn rfl dX12_butterShare_29 ?_
  exact ⟨rfl, hM2, F2⟩
set_option maxRecDepth 20000 in
set_option maxHeartbeats 1000000 in
theorem c_X12_meanThickness_ok {G : xG} {h : xH} {m : Nat} {a : MA} {r : MR} (hM : MO G h m a r) {g : Nat → Int32} (hR : AR G h r.1 1456 g) {n : Nat} (hn : n ≤ 6) (hc : g 3 = iI (n : Int)) {i : Nat} (hi : i < n) {s : AS} (hw : SWr g (7 + 207 * i) s) (hW : WS s) : CC G MX12_meanThickness [.ref m, .int (iI ((i : Int)))] h (fun o h' => o = .inl (some (.double (FP.ddiv (FP.i2d (iI (hgt s.1))) (FP.i2d (iI (s.1.length : Int)))))) ∧ MO G h' m a (r_th r 0) ∧ FRp [m] h h') := by
  obtain ⟨hl1, hnz, hh4, hw0, hw9⟩ := id hW
  have hl2 := hw.len
  have hg0 := hgt_nn s.1
  have hgl := hgt_ge s.1 hnz
  show RR G MX12_meanThickness 0 [(0, .ref m), (1, .int (iI ((i : Int))))] [] h (xm_R MX12_meanThickness).cells (xm_R MX12_meanThickness).slots (fun o h' => o = .inl (some (.double (FP.ddiv (FP.i2d (iI (hgt s.1))) (FP.i2d (iI (s.1.length : Int)))))) ∧ MO G h' m a (r_th r 0) ∧ FRp [m] h h')
  refine r_aload_n dX12_meanThickness_0 0 rfl ?_
  refine r_aload_n dX12_meanThickness_1 0 rfl ?_
  refine r_iload_n dX12_meanThickness_2 1 rfl ?_
  refine p_callV (As := [.int (iI ((i : Int)))]) (b := m) (rest := [.ref m]) (w := (some (.int (iI (b2 true))))) (st' := [.int (iI (b2 true)), .ref m]) kv_X12_meanThickness_111 dX12_meanThickness_3 rfl rfl (Nat.le_of_ble_eq_true rfl) (Nat.le_of_ble_eq_true rfl) (x_rv hM.1 hM.2 rfl) rfl rfl (c_X12_isSheet_t hM hR hn hc hi) rfl (fun h1 e1 => ?_)
  rw [show h1 = h from e1]
  refine p_callV (As := [.int (iI (b2 true))]) (b := m) (rest := []) (w := (some (.int (iI 0)))) (st' := [.int (iI 0)]) kv_X12_meanThickness_82 dX12_meanThickness_6 rfl rfl (Nat.le_of_ble_eq_true rfl) (Nat.le_of_ble_eq_true rfl) (x_rv hM.1 hM.2 rfl) rfl rfl (c_X12_lacks_t hM) rfl (fun h2 e2 => ?_)
  obtain ⟨hM2, F2⟩ := e2
  have hR2 := hR.obj hM F2
  refine i_ifeq dX12_meanThickness_9 (tgt := 16) (by decide) ⟨by decide, by decide⟩ (fun _ => ?_) (fun c => absurd c (by decide))
  refine r_aload_n dX12_meanThickness_16 0 rfl ?_
  refine r_iload_n dX12_meanThickness_17 1 rfl ?_
  refine p_callV (As := [.int (iI ((i : Int)))]) (b := m) (rest := []) (w := (some (.int (iI (hgt s.1))))) (st' := [.int (iI (hgt s.1))]) kv_X12_meanThickness_136 dX12_meanThickness_18 rfl rfl (Nat.le_of_ble_eq_true rfl) (Nat.le_of_ble_eq_true rfl) (x_rv hM2.1 hM2.2 rfl) rfl rfl (c_X12_heightOf hM2 hR2 (by omega) hw hh4) rfl (fun h3 e3 => ?_)
  rw [show h3 = h2 from e3]
  refine r_i2d dX12_meanThickness_21 ?_
  refine r_aload_n dX12_meanThickness_22 0 rfl ?_
  refine r_iload_n dX12_meanThickness_23 1 rfl ?_
  refine i_bipush (6) (by decide) dX12_meanThickness_24 ?_
  refine p_callV (As := [.int (iI ((i : Int))), .int (iI 6)]) (b := m) (rest := [.double (FP.i2d (iI (hgt s.1)))]) (w := (some (.int (iI ((s.1.length : Int)))))) (st' := [.int (iI ((s.1.length : Int))), .double (FP.i2d (iI (hgt s.1)))]) kv_X12_meanThickness_93 dX12_meanThickness_26 rfl rfl (Nat.le_of_ble_eq_true rfl) (Nat.le_of_ble_eq_true rfl) (x_rv hM2.1 hM2.2 rfl) rfl rfl (c_X12_of hM2 hR2 (i := i) (w := 6) (by omega) (by decide) hw.2.2.2.2.2.2.1) rfl (fun h4 e4 => ?_)
  rw [show h4 = h2 from e4]
  refine r_i2d dX12_meanThickness_29 ?_
  refine r_ddiv dX12_meanThickness_30 (nanD _ _ (by omega) (by omega)) ?_
  refine r_dreturn rfl dX12_meanThickness_31 ?_
  exact ⟨rfl, hM2, F2⟩
set_option maxRecDepth 20000 in
set_option maxHeartbeats 1000000 in
theorem c_X12_meanThickness_no {G : xG} {h : xH} {m : Nat} {a : MA} {r : MR} (hM : MO G h m a r) {g : Nat → Int32} (hR : AR G h r.1 1456 g) {n : Nat} (hn : n ≤ 6) (hc : g 3 = iI (n : Int)) {z : Int} (hz : in32 z) (hs : ¬ (0 ≤ z ∧ z < (n : Int))) : CC G MX12_meanThickness [.ref m, .int (iI z)] h (fun o h' => o = .inl (some (.double FP.dconst0)) ∧ MO G h' m a (r_th r 1) ∧ FRp [m] h h') := by
  show RR G MX12_meanThickness 0 [(0, .ref m), (1, .int (iI z))] [] h (xm_R MX12_meanThickness).cells (xm_R MX12_meanThickness).slots (fun o h' => o = .inl (some (.double FP.dconst0)) ∧ MO G h' m a (r_th r 1) ∧ FRp [m] h h')
  refine r_aload_n dX12_meanThickness_0 0 rfl ?_
  refine r_aload_n dX12_meanThickness_1 0 rfl ?_
  refine r_iload_n dX12_meanThickness_2 1 rfl ?_
  refine p_callV (As := [.int (iI z)]) (b := m) (rest := [.ref m]) (w := (some (.int (iI (b2 false))))) (st' := [.int (iI (b2 false)), .ref m]) kv_X12_meanThickness_111 dX12_meanThickness_3 rfl rfl (Nat.le_of_ble_eq_true rfl) (Nat.le_of_ble_eq_true rfl) (x_rv hM.1 hM.2 rfl) rfl rfl (c_X12_isSheet_f hM hR hn hc hz hs) rfl (fun h1 e1 => ?_)
  rw [show h1 = h from e1]
  refine p_callV (As := [.int (iI (b2 false))]) (b := m) (rest := []) (w := (some (.int (iI 1)))) (st' := [.int (iI 1)]) kv_X12_meanThickness_82 dX12_meanThickness_6 rfl rfl (Nat.le_of_ble_eq_true rfl) (Nat.le_of_ble_eq_true rfl) (x_rv hM.1 hM.2 rfl) rfl rfl (c_X12_lacks_f hM) rfl (fun h2 e2 => ?_)
  obtain ⟨hM2, F2⟩ := e2
  have hR2 := hR.obj hM F2
  refine i_ifeq dX12_meanThickness_9 (tgt := 16) (by decide) ⟨by decide, by decide⟩ (fun c => absurd c (by decide)) (fun _ => ?_)
  refine r_dconst0 dX12_meanThickness_12 ?_
  refine r_goto dX12_meanThickness_13 (tgt := 31) (by decide) ?_
  refine r_dreturn rfl dX12_meanThickness_31 ?_
  exact ⟨rfl, hM2, F2⟩
set_option maxRecDepth 20000 in
set_option maxHeartbeats 1000000 in
theorem c_X12_isLayer_t {G : xG} {h : xH} {m : Nat} {a : MA} {r : MR} (hM : MO G h m a r) {g : Nat → Int32} (hR : AR G h r.1 1456 g) {n : Nat} (hn : n ≤ 6) (hc : g 3 = iI (n : Int)) {i : Nat} (hi : i < n) {s : AS} (hw : SWr g (7 + 207 * i) s) {q : Int} (hq : in32 q) (hf : 0 ≤ q ∧ q < (s.1.length : Int)) : CC G MX12_isLayer [.ref m, .int (iI ((i : Int))), .int (iI q)] h (qI (b2 true) h) := by
  have hl2 := hw.len
  show RR G MX12_isLayer 0 [(0, .ref m), (1, .int (iI ((i : Int)))), (2, .int (iI q))] [] h (xm_R MX12_isLayer).cells (xm_R MX12_isLayer).slots (qI (b2 true) h)
  refine r_aload_n dX12_isLayer_0 0 rfl ?_
  refine r_iload_n dX12_isLayer_1 1 rfl ?_
  refine p_callV (As := [.int (iI ((i : Int)))]) (b := m) (rest := []) (w := (some (.int (iI (b2 true))))) (st' := [.int (iI (b2 true))]) kv_X12_isLayer_111 dX12_isLayer_2 rfl rfl (Nat.le_of_ble_eq_true rfl) (Nat.le_of_ble_eq_true rfl) (x_rv hM.1 hM.2 rfl) rfl rfl (c_X12_isSheet_t hM hR hn hc hi) rfl (fun h1 e1 => ?_)
  rw [show h1 = h from e1]
  refine i_ifeqb dX12_isLayer_5 (tgt := 29) (by decide) (fun c => absurd c (by decide)) (fun _ => ?_)
  refine r_iload_n dX12_isLayer_8 2 rfl ?_
  refine i_const (0) dX12_isLayer_9 ?_
  refine r_aload_n dX12_isLayer_10 0 rfl ?_
  refine r_iload_n dX12_isLayer_11 1 rfl ?_
  refine i_bipush (6) (by decide) dX12_isLayer_12 ?_
  refine p_callV (As := [.int (iI ((i : Int))), .int (iI 6)]) (b := m) (rest := [.int (iI 0), .int (iI q)]) (w := (some (.int (iI ((s.1.length : Int)))))) (st' := [.int (iI ((s.1.length : Int))), .int (iI 0), .int (iI q)]) kv_X12_isLayer_93 dX12_isLayer_14 rfl rfl (Nat.le_of_ble_eq_true rfl) (Nat.le_of_ble_eq_true rfl) (x_rv hM.1 hM.2 rfl) rfl rfl (c_X12_of hM hR (i := i) (w := 6) (by omega) (by decide) hw.2.2.2.2.2.2.1) rfl (fun h2 e2 => ?_)
  rw [show h2 = h from e2]
  refine i_const (1) dX12_isLayer_17 ?_
  refine i_sub dX12_isLayer_18 ?_
  refine p_callS (As := [.int (iI q), .int (iI 0), .int (iI ((s.1.length : Int) - 1))]) (rest := []) (w := (some (.int (iI (b2 true))))) (st' := [.int (iI (b2 true))]) kv_X12_isLayer_107 dX12_isLayer_19 rfl rfl (Nat.le_of_ble_eq_true rfl) (Nat.le_of_ble_eq_true rfl) rfl rfl (c_X12_inRange_b hq ⟨by decide, by decide⟩ (by unfold in32; omega) (b := true) (by unfold inR; rw [decide_eq_true (by omega), decide_eq_true (by omega)]; rfl)) rfl (fun h3 e3 => ?_)
  rw [show h3 = h from e3]
  refine i_ifeqb dX12_isLayer_22 (tgt := 29) (by decide) (fun c => absurd c (by decide)) (fun _ => ?_)
  refine i_const (1) dX12_isLayer_25 ?_
  refine r_goto dX12_isLayer_26 (tgt := 30) (by decide) ?_
  refine r_ireturn rfl (b2_nar true) dX12_isLayer_30 ?_
  exact ⟨rfl, rfl⟩
set_option maxRecDepth 20000 in
set_option maxHeartbeats 1000000 in
theorem c_X12_isLayer_f {G : xG} {h : xH} {m : Nat} {a : MA} {r : MR} (hM : MO G h m a r) {g : Nat → Int32} (hR : AR G h r.1 1456 g) {n : Nat} (hn : n ≤ 6) (hc : g 3 = iI (n : Int)) {i : Nat} (hi : i < n) {s : AS} (hw : SWr g (7 + 207 * i) s) {q : Int} (hq : in32 q) (hf : ¬ (0 ≤ q ∧ q < (s.1.length : Int))) : CC G MX12_isLayer [.ref m, .int (iI ((i : Int))), .int (iI q)] h (qI (b2 false) h) := by
  have hl2 := hw.len
  show RR G MX12_isLayer 0 [(0, .ref m), (1, .int (iI ((i : Int)))), (2, .int (iI q))] [] h (xm_R MX12_isLayer).cells (xm_R MX12_isLayer).slots (qI (b2 false) h)
  refine r_aload_n dX12_isLayer_0 0 rfl ?_
  refine r_iload_n dX12_isLayer_1 1 rfl ?_
  refine p_callV (As := [.int (iI ((i : Int)))]) (b := m) (rest := []) (w := (some (.int (iI (b2 true))))) (st' := [.int (iI (b2 true))]) kv_X12_isLayer_111 dX12_isLayer_2 rfl rfl (Nat.le_of_ble_eq_true rfl) (Nat.le_of_ble_eq_true rfl) (x_rv hM.1 hM.2 rfl) rfl rfl (c_X12_isSheet_t hM hR hn hc hi) rfl (fun h1 e1 => ?_)
  rw [show h1 = h from e1]
  refine i_ifeqb dX12_isLayer_5 (tgt := 29) (by decide) (fun c => absurd c (by decide)) (fun _ => ?_)
  refine r_iload_n dX12_isLayer_8 2 rfl ?_
  refine i_const (0) dX12_isLayer_9 ?_
  refine r_aload_n dX12_isLayer_10 0 rfl ?_
  refine r_iload_n dX12_isLayer_11 1 rfl ?_
  refine i_bipush (6) (by decide) dX12_isLayer_12 ?_
  refine p_callV (As := [.int (iI ((i : Int))), .int (iI 6)]) (b := m) (rest := [.int (iI 0), .int (iI q)]) (w := (some (.int (iI ((s.1.length : Int)))))) (st' := [.int (iI ((s.1.length : Int))), .int (iI 0), .int (iI q)]) kv_X12_isLayer_93 dX12_isLayer_14 rfl rfl (Nat.le_of_ble_eq_true rfl) (Nat.le_of_ble_eq_true rfl) (x_rv hM.1 hM.2 rfl) rfl rfl (c_X12_of hM hR (i := i) (w := 6) (by omega) (by decide) hw.2.2.2.2.2.2.1) rfl (fun h2 e2 => ?_)
  rw [show h2 = h from e2]
  refine i_const (1) dX12_isLayer_17 ?_
  refine i_sub dX12_isLayer_18 ?_
  refine p_callS (As := [.int (iI q), .int (iI 0), .int (iI ((s.1.length : Int) - 1))]) (rest := []) (w := (some (.int (iI (b2 false))))) (st' := [.int (iI (b2 false))]) kv_X12_isLayer_107 dX12_isLayer_19 rfl rfl (Nat.le_of_ble_eq_true rfl) (Nat.le_of_ble_eq_true rfl) rfl rfl (c_X12_inRange_b hq ⟨by decide, by decide⟩ (by unfold in32; omega) (b := false) (by unfold inR; simp; omega)) rfl (fun h3 e3 => ?_)
  rw [show h3 = h from e3]
  refine i_ifeqb dX12_isLayer_22 (tgt := 29) (by decide) (fun _ => ?_) (fun c => absurd c (by decide))
  refine i_const (0) dX12_isLayer_29 ?_
  refine r_ireturn rfl (b2_nar false) dX12_isLayer_30 ?_
  exact ⟨rfl, rfl⟩
set_option maxRecDepth 20000 in
set_option maxHeartbeats 1000000 in
theorem c_X12_isLayer_no {G : xG} {h : xH} {m : Nat} {a : MA} {r : MR} (hM : MO G h m a r) {g : Nat → Int32} (hR : AR G h r.1 1456 g) {n : Nat} (hn : n ≤ 6) (hc : g 3 = iI (n : Int)) {z : Int} (hz : in32 z) (hs : ¬ (0 ≤ z ∧ z < (n : Int))) {q : Int} : CC G MX12_isLayer [.ref m, .int (iI z), .int (iI q)] h (qI (b2 false) h) := by
  show RR G MX12_isLayer 0 [(0, .ref m), (1, .int (iI z)), (2, .int (iI q))] [] h (xm_R MX12_isLayer).cells (xm_R MX12_isLayer).slots (qI (b2 false) h)
  refine r_aload_n dX12_isLayer_0 0 rfl ?_
  refine r_iload_n dX12_isLayer_1 1 rfl ?_
  refine p_callV (As := [.int (iI z)]) (b := m) (rest := []) (w := (some (.int (iI (b2 false))))) (st' := [.int (iI (b2 false))]) kv_X12_isLayer_111 dX12_isLayer_2 rfl rfl (Nat.le_of_ble_eq_true rfl) (Nat.le_of_ble_eq_true rfl) (x_rv hM.1 hM.2 rfl) rfl rfl (c_X12_isSheet_f hM hR hn hc hz hs) rfl (fun h1 e1 => ?_)
  rw [show h1 = h from e1]
  refine i_ifeqb dX12_isLayer_5 (tgt := 29) (by decide) (fun _ => ?_) (fun c => absurd c (by decide))
  refine i_const (0) dX12_isLayer_29 ?_
  refine r_ireturn rfl (b2_nar false) dX12_isLayer_30 ?_
  exact ⟨rfl, rfl⟩
set_option maxRecDepth 20000 in
set_option maxHeartbeats 1000000 in
theorem c_X12_isButter_ok {G : xG} {h : xH} {m : Nat} {a : MA} {r : MR} (hM : MO G h m a r) {g : Nat → Int32} (hR : AR G h r.1 1456 g) {n : Nat} (hn : n ≤ 6) (hc : g 3 = iI (n : Int)) {i : Nat} (hi : i < n) {s : AS} (hw : SWr g (7 + 207 * i) s) (hW : WS s) {q : Int} (hq : in32 q) (hf : 0 ≤ q ∧ q < (s.1.length : Int)) : CC G MX12_isButter [.ref m, .int (iI ((i : Int))), .int (iI q)] h (fun o h' => o = .inl (some (.int (iI (b2 (isB (s.1.getD q.toNat 0)))))) ∧ MO G h' m a (r_th r 0) ∧ FRp [m] h h') := by
  obtain ⟨hl1, hnz, hh4, hw0, hw9⟩ := id hW
  have hl2 := hw.len
  have hg0 := hgt_nn s.1
  have hgl := hgt_ge s.1 hnz
  have hlx := lay_b (l := s.1) hh4 (k := q.toNat) (by omega)
  show RR G MX12_isButter 0 [(0, .ref m), (1, .int (iI ((i : Int)))), (2, .int (iI q))] [] h (xm_R MX12_isButter).cells (xm_R MX12_isButter).slots (fun o h' => o = .inl (some (.int (iI (b2 (isB (s.1.getD q.toNat 0)))))) ∧ MO G h' m a (r_th r 0) ∧ FRp [m] h h')
  refine r_aload_n dX12_isButter_0 0 rfl ?_
  refine r_aload_n dX12_isButter_1 0 rfl ?_
  refine r_iload_n dX12_isButter_2 1 rfl ?_
  refine r_iload_n dX12_isButter_3 2 rfl ?_
  refine p_callV (As := [.int (iI ((i : Int))), .int (iI q)]) (b := m) (rest := [.ref m]) (w := (some (.int (iI (b2 true))))) (st' := [.int (iI (b2 true)), .ref m]) kv_X12_isButter_133 dX12_isButter_4 rfl rfl (Nat.le_of_ble_eq_true rfl) (Nat.le_of_ble_eq_true rfl) (x_rv hM.1 hM.2 rfl) rfl rfl (c_X12_isLayer_t hM hR hn hc hi hw hq hf) rfl (fun h1 e1 => ?_)
  rw [show h1 = h from e1]
  refine p_callV (As := [.int (iI (b2 true))]) (b := m) (rest := []) (w := (some (.int (iI 0)))) (st' := [.int (iI 0)]) kv_X12_isButter_82 dX12_isButter_7 rfl rfl (Nat.le_of_ble_eq_true rfl) (Nat.le_of_ble_eq_true rfl) (x_rv hM.1 hM.2 rfl) rfl rfl (c_X12_lacks_t hM) rfl (fun h2 e2 => ?_)
  obtain ⟨hM2, F2⟩ := e2
  have hR2 := hR.obj hM F2
  refine i_ifne dX12_isButter_10 (tgt := 26) (by decide) ⟨by decide, by decide⟩ (fun c => absurd c (by decide)) (fun _ => ?_)
  refine r_aload_n dX12_isButter_13 0 rfl ?_
  refine r_iload_n dX12_isButter_14 1 rfl ?_
  refine r_iload_n dX12_isButter_15 2 rfl ?_
  refine p_callV (As := [.int (iI ((i : Int))), .int (iI q)]) (b := m) (rest := []) (w := (some (.int (iI (s.1.getD q.toNat 0))))) (st' := [.int (iI (s.1.getD q.toNat 0))]) kv_X12_isButter_97 dX12_isButter_16 rfl rfl (Nat.le_of_ble_eq_true rfl) (Nat.le_of_ble_eq_true rfl) (x_rv hM2.1 hM2.2 rfl) rfl rfl (c_X12_layer_z hM2 hR2 (i := i) (k := q.toNat) (by omega) (by omega) hw (by omega)) rfl (fun h3 e3 => ?_)
  rw [show h3 = h2 from e3]
  refine i_ifge dX12_isButter_19 (tgt := 26) (by decide) (by unfold in32; omega) (fun c19 => ?_) (fun c19 => ?_)
  · refine i_const (0) dX12_isButter_26 ?_
    refine r_ireturn rfl (b2_nar false) dX12_isButter_27 ?_
    rw [show isB (s.1.getD q.toNat 0) = false from decide_eq_false (by omega)]
    exact ⟨rfl, hM2, F2⟩
  · refine i_const (1) dX12_isButter_22 ?_
    refine r_goto dX12_isButter_23 (tgt := 27) (by decide) ?_
    refine r_ireturn rfl (b2_nar true) dX12_isButter_27 ?_
    rw [show isB (s.1.getD q.toNat 0) = true from decide_eq_true c19]
    exact ⟨rfl, hM2, F2⟩
set_option maxRecDepth 20000 in
set_option maxHeartbeats 1000000 in
theorem c_X12_thickness_ok {G : xG} {h : xH} {m : Nat} {a : MA} {r : MR} (hM : MO G h m a r) {g : Nat → Int32} (hR : AR G h r.1 1456 g) {n : Nat} (hn : n ≤ 6) (hc : g 3 = iI (n : Int)) {i : Nat} (hi : i < n) {s : AS} (hw : SWr g (7 + 207 * i) s) (hW : WS s) {q : Int} (hq : in32 q) (hf : 0 ≤ q ∧ q < (s.1.length : Int)) : CC G MX12_thickness [.ref m, .int (iI ((i : Int))), .int (iI q)] h (fun o h' => o = .inl (some (.int (iI (sz (s.1.getD q.toNat 0))))) ∧ MO G h' m a (r_th r 0) ∧ FRp [m] h h') := by
  obtain ⟨hl1, hnz, hh4, hw0, hw9⟩ := id hW
  have hl2 := hw.len
  have hg0 := hgt_nn s.1
  have hgl := hgt_ge s.1 hnz
  have hlx := lay_b (l := s.1) hh4 (k := q.toNat) (by omega)
  show RR G MX12_thickness 0 [(0, .ref m), (1, .int (iI ((i : Int)))), (2, .int (iI q))] [] h (xm_R MX12_thickness).cells (xm_R MX12_thickness).slots (fun o h' => o = .inl (some (.int (iI (sz (s.1.getD q.toNat 0))))) ∧ MO G h' m a (r_th r 0) ∧ FRp [m] h h')
  refine r_aload_n dX12_thickness_0 0 rfl ?_
  refine r_aload_n dX12_thickness_1 0 rfl ?_
  refine r_iload_n dX12_thickness_2 1 rfl ?_
  refine r_iload_n dX12_thickness_3 2 rfl ?_
  refine p_callV (As := [.int (iI ((i : Int))), .int (iI q)]) (b := m) (rest := [.ref m]) (w := (some (.int (iI (b2 true))))) (st' := [.int (iI (b2 true)), .ref m]) kv_X12_thickness_133 dX12_thickness_4 rfl rfl (Nat.le_of_ble_eq_true rfl) (Nat.le_of_ble_eq_true rfl) (x_rv hM.1 hM.2 rfl) rfl rfl (c_X12_isLayer_t hM hR hn hc hi hw hq hf) rfl (fun h1 e1 => ?_)
  rw [show h1 = h from e1]
  refine p_callV (As := [.int (iI (b2 true))]) (b := m) (rest := []) (w := (some (.int (iI 0)))) (st' := [.int (iI 0)]) kv_X12_thickness_82 dX12_thickness_7 rfl rfl (Nat.le_of_ble_eq_true rfl) (Nat.le_of_ble_eq_true rfl) (x_rv hM.1 hM.2 rfl) rfl rfl (c_X12_lacks_t hM) rfl (fun h2 e2 => ?_)
  obtain ⟨hM2, F2⟩ := e2
  have hR2 := hR.obj hM F2
  refine i_ifeq dX12_thickness_10 (tgt := 17) (by decide) ⟨by decide, by decide⟩ (fun _ => ?_) (fun c => absurd c (by decide))
  refine r_aload_n dX12_thickness_17 0 rfl ?_
  refine r_iload_n dX12_thickness_18 1 rfl ?_
  refine r_iload_n dX12_thickness_19 2 rfl ?_
  refine p_callV (As := [.int (iI ((i : Int))), .int (iI q)]) (b := m) (rest := []) (w := (some (.int (iI (s.1.getD q.toNat 0))))) (st' := [.int (iI (s.1.getD q.toNat 0))]) kv_X12_thickness_97 dX12_thickness_20 rfl rfl (Nat.le_of_ble_eq_true rfl) (Nat.le_of_ble_eq_true rfl) (x_rv hM2.1 hM2.2 rfl) rfl rfl (c_X12_layer_z hM2 hR2 (i := i) (k := q.toNat) (by omega) (by omega) hw (by omega)) rfl (fun h3 e3 => ?_)
  rw [show h3 = h2 from e3]
  refine p_callS (As := [.int (iI (s.1.getD q.toNat 0))]) (rest := []) (w := (some (.int (iI (sz (s.1.getD q.toNat 0)))))) (st' := [.int (iI (sz (s.1.getD q.toNat 0)))]) kv_X12_thickness_121 dX12_thickness_23 rfl rfl (Nat.le_of_ble_eq_true rfl) (Nat.le_of_ble_eq_true rfl) rfl rfl (c_X12_sizeOf (by unfold in32; omega)) rfl (fun h4 e4 => ?_)
  rw [show h4 = h2 from e4]
  refine r_ireturn rfl rfl dX12_thickness_26 ?_
  exact ⟨rfl, hM2, F2⟩
set_option maxRecDepth 20000 in
set_option maxHeartbeats 1000000 in
theorem c_X12_isButter_bad {G : xG} {h : xH} {m : Nat} {a : MA} {r : MR} (hM : MO G h m a r) {g : Nat → Int32} (hR : AR G h r.1 1456 g) {n : Nat} (hn : n ≤ 6) (hc : g 3 = iI (n : Int)) {i : Nat} (hi : i < n) {s : AS} (hw : SWr g (7 + 207 * i) s) {q : Int} (hq : in32 q) (hf : ¬ (0 ≤ q ∧ q < (s.1.length : Int))) : CC G MX12_isButter [.ref m, .int (iI ((i : Int))), .int (iI q)] h (fun o h' => o = .inl (some (.int (iI 0))) ∧ MO G h' m a (r_th r 1) ∧ FRp [m] h h') := by
  show RR G MX12_isButter 0 [(0, .ref m), (1, .int (iI ((i : Int)))), (2, .int (iI q))] [] h (xm_R MX12_isButter).cells (xm_R MX12_isButter).slots (fun o h' => o = .inl (some (.int (iI 0))) ∧ MO G h' m a (r_th r 1) ∧ FRp [m] h h')
  refine r_aload_n dX12_isButter_0 0 rfl ?_
  refine r_aload_n dX12_isButter_1 0 rfl ?_
  refine r_iload_n dX12_isButter_2 1 rfl ?_
  refine r_iload_n dX12_isButter_3 2 rfl ?_
  refine p_callV (As := [.int (iI ((i : Int))), .int (iI q)]) (b := m) (rest := [.ref m]) (w := (some (.int (iI (b2 false))))) (st' := [.int (iI (b2 false)), .ref m]) kv_X12_isButter_133 dX12_isButter_4 rfl rfl (Nat.le_of_ble_eq_true rfl) (Nat.le_of_ble_eq_true rfl) (x_rv hM.1 hM.2 rfl) rfl rfl (c_X12_isLayer_f hM hR hn hc hi hw hq hf) rfl (fun h1 e1 => ?_)
  rw [show h1 = h from e1]
  refine p_callV (As := [.int (iI (b2 false))]) (b := m) (rest := []) (w := (some (.int (iI 1)))) (st' := [.int (iI 1)]) kv_X12_isButter_82 dX12_isButter_7 rfl rfl (Nat.le_of_ble_eq_true rfl) (Nat.le_of_ble_eq_true rfl) (x_rv hM.1 hM.2 rfl) rfl rfl (c_X12_lacks_f hM) rfl (fun h2 e2 => ?_)
  obtain ⟨hM2, F2⟩ := e2
  have hR2 := hR.obj hM F2
  refine i_ifne dX12_isButter_10 (tgt := 26) (by decide) ⟨by decide, by decide⟩ (fun _ => ?_) (fun c => absurd c (by decide))
  refine i_const (0) dX12_isButter_26 ?_
  refine r_ireturn rfl (b2_nar false) dX12_isButter_27 ?_
  exact ⟨rfl, hM2, F2⟩
set_option maxRecDepth 20000 in
set_option maxHeartbeats 1000000 in
theorem c_X12_isButter_no {G : xG} {h : xH} {m : Nat} {a : MA} {r : MR} (hM : MO G h m a r) {g : Nat → Int32} (hR : AR G h r.1 1456 g) {n : Nat} (hn : n ≤ 6) (hc : g 3 = iI (n : Int)) {z : Int} (hz : in32 z) (hs : ¬ (0 ≤ z ∧ z < (n : Int))) {q : Int} : CC G MX12_isButter [.ref m, .int (iI z), .int (iI q)] h (fun o h' => o = .inl (some (.int (iI 0))) ∧ MO G h' m a (r_th r 1) ∧ FRp [m] h h') := by
  show RR G MX12_isButter 0 [(0, .ref m), (1, .int (iI z)), (2, .int (iI q))] [] h (xm_R MX12_isButter).cells (xm_R MX12_isButter).slots (fun o h' => o = .inl (some (.int (iI 0))) ∧ MO G h' m a (r_th r 1) ∧ FRp [m] h h')
  refine r_aload_n dX12_isButter_0 0 rfl ?_
  refine r_aload_n dX12_isButter_1 0 rfl ?_
  refine r_iload_n dX12_isButter_2 1 rfl ?_
  refine r_iload_n dX12_isButter_3 2 rfl ?_
  refine p_callV (As := [.int (iI z), .int (iI q)]) (b := m) (rest := [.ref m]) (w := (some (.int (iI (b2 false))))) (st' := [.int (iI (b2 false)), .ref m]) kv_X12_isButter_133 dX12_isButter_4 rfl rfl (Nat.le_of_ble_eq_true rfl) (Nat.le_of_ble_eq_true rfl) (x_rv hM.1 hM.2 rfl) rfl rfl (c_X12_isLayer_no hM hR hn hc hz hs) rfl (fun h1 e1 => ?_)
  rw [show h1 = h from e1]
  refine p_callV (As := [.int (iI (b2 false))]) (b := m) (rest := []) (w := (some (.int (iI 1)))) (st' := [.int (iI 1)]) kv_X12_isButter_82 dX12_isButter_7 rfl rfl (Nat.le_of_ble_eq_true rfl) (Nat.le_of_ble_eq_true rfl) (x_rv hM.1 hM.2 rfl) rfl rfl (c_X12_lacks_f hM) rfl (fun h2 e2 => ?_)
  obtain ⟨hM2, F2⟩ := e2
  have hR2 := hR.obj hM F2
  refine i_ifne dX12_isButter_10 (tgt := 26) (by decide) ⟨by decide, by decide⟩ (fun _ => ?_) (fun c => absurd c (by decide))
  refine i_const (0) dX12_isButter_26 ?_
  refine r_ireturn rfl (b2_nar false) dX12_isButter_27 ?_
  exact ⟨rfl, hM2, F2⟩
set_option maxRecDepth 20000 in
set_option maxHeartbeats 1000000 in
theorem c_X12_thickness_bad {G : xG} {h : xH} {m : Nat} {a : MA} {r : MR} (hM : MO G h m a r) {g : Nat → Int32} (hR : AR G h r.1 1456 g) {n : Nat} (hn : n ≤ 6) (hc : g 3 = iI (n : Int)) {i : Nat} (hi : i < n) {s : AS} (hw : SWr g (7 + 207 * i) s) {q : Int} (hq : in32 q) (hf : ¬ (0 ≤ q ∧ q < (s.1.length : Int))) : CC G MX12_thickness [.ref m, .int (iI ((i : Int))), .int (iI q)] h (fun o h' => o = .inl (some (.int (iI 0))) ∧ MO G h' m a (r_th r 1) ∧ FRp [m] h h') := by
  show RR G MX12_thickness 0 [(0, .ref m), (1, .int (iI ((i : Int)))), (2, .int (iI q))] [] h (xm_R MX12_thickness).cells (xm_R MX12_thickness).slots (fun o h' => o = .inl (some (.int (iI 0))) ∧ MO G h' m a (r_th r 1) ∧ FRp [m] h h')
  refine r_aload_n dX12_thickness_0 0 rfl ?_
  refine r_aload_n dX12_thickness_1 0 rfl ?_
  refine r_iload_n dX12_thickness_2 1 rfl ?_
  refine r_iload_n dX12_thickness_3 2 rfl ?_
  refine p_callV (As := [.int (iI ((i : Int))), .int (iI q)]) (b := m) (rest := [.ref m]) (w := (some (.int (iI (b2 false))))) (st' := [.int (iI (b2 false)), .ref m]) kv_X12_thickness_133 dX12_thickness_4 rfl rfl (Nat.le_of_ble_eq_true rfl) (Nat.le_of_ble_eq_true rfl) (x_rv hM.1 hM.2 rfl) rfl rfl (c_X12_isLayer_f hM hR hn hc hi hw hq hf) rfl (fun h1 e1 => ?_)
  rw [show h1 = h from e1]
  refine p_callV (As := [.int (iI (b2 false))]) (b := m) (rest := []) (w := (some (.int (iI 1)))) (st' := [.int (iI 1)]) kv_X12_thickness_82 dX12_thickness_7 rfl rfl (Nat.le_of_ble_eq_true rfl) (Nat.le_of_ble_eq_true rfl) (x_rv hM.1 hM.2 rfl) rfl rfl (c_X12_lacks_f hM) rfl (fun h2 e2 => ?_)
  obtain ⟨hM2, F2⟩ := e2
  have hR2 := hR.obj hM F2
  refine i_ifeq dX12_thickness_10 (tgt := 17) (by decide) ⟨by decide, by decide⟩ (fun c => absurd c (by decide)) (fun _ => ?_)
  refine i_const (0) dX12_thickness_13 ?_
  refine r_goto dX12_thickness_14 (tgt := 26) (by decide) ?_
  refine r_ireturn rfl rfl dX12_thickness_26 ?_
  exact ⟨rfl, hM2, F2⟩
set_option maxRecDepth 20000 in
set_option maxHeartbeats 1000000 in
theorem c_X12_thickness_no {G : xG} {h : xH} {m : Nat} {a : MA} {r : MR} (hM : MO G h m a r) {g : Nat → Int32} (hR : AR G h r.1 1456 g) {n : Nat} (hn : n ≤ 6) (hc : g 3 = iI (n : Int)) {z : Int} (hz : in32 z) (hs : ¬ (0 ≤ z ∧ z < (n : Int))) {q : Int} : CC G MX12_thickness [.ref m, .int (iI z), .int (iI q)] h (fun o h' => o = .inl (some (.int (iI 0))) ∧ MO G h' m a (r_th r 1) ∧ FRp [m] h h') := by
  show RR G MX12_thickness 0 [(0, .ref m), (1, .int (iI z)), (2, .int (iI q))] [] h (xm_R MX12_thickness).cells (xm_R MX12_thickness).slots (fun o h' => o = .inl (some (.int (iI 0))) ∧ MO G h' m a (r_th r 1) ∧ FRp [m] h h')
  refine r_aload_n dX12_thickness_0 0 rfl ?_
  refine r_aload_n dX12_thickness_1 0 rfl ?_
  refine r_iload_n dX12_thickness_2 1 rfl ?_
  refine r_iload_n dX12_thickness_3 2 rfl ?_
  refine p_callV (As := [.int (iI z), .int (iI q)]) (b := m) (rest := [.ref m]) (w := (some (.int (iI (b2 false))))) (st' := [.int (iI (b2 false)), .ref m]) kv_X12_thickness_133 dX12_thickness_4 rfl rfl (Nat.le_of_ble_eq_true rfl) (Nat.le_of_ble_eq_true rfl) (x_rv hM.1 hM.2 rfl) rfl rfl (c_X12_isLayer_no hM hR hn hc hz hs) rfl (fun h1 e1 => ?_)
  rw [show h1 = h from e1]
  refine p_callV (As := [.int (iI (b2 false))]) (b := m) (rest := []) (w := (some (.int (iI 1)))) (st' := [.int (iI 1)]) kv_X12_thickness_82 dX12_thickness_7 rfl rfl (Nat.le_of_ble_eq_true rfl) (Nat.le_of_ble_eq_true rfl) (x_rv hM.1 hM.2 rfl) rfl rfl (c_X12_lacks_f hM) rfl (fun h2 e2 => ?_)
  obtain ⟨hM2, F2⟩ := e2
  have hR2 := hR.obj hM F2
  refine i_ifeq dX12_thickness_10 (tgt := 17) (by decide) ⟨by decide, by decide⟩ (fun c => absurd c (by decide)) (fun _ => ?_)
  refine i_const (0) dX12_thickness_13 ?_
  refine r_goto dX12_thickness_14 (tgt := 26) (by decide) ?_
  refine r_ireturn rfl rfl dX12_thickness_26 ?_
  exact ⟨rfl, hM2, F2⟩
set_option maxRecDepth 20000 in
set_option maxHeartbeats 1000000 in
theorem c_X12_butterLayerCount_ok {G : xG} {h : xH} {m : Nat} {a : MA} {r : MR} (hM : MO G h m a r) {g : Nat → Int32} (hR : AR G h r.1 1456 g) {n : Nat} (hn : n ≤ 6) (hc : g 3 = iI (n : Int)) {i : Nat} (hi : i < n) {s : AS} (hw : SWr g (7 + 207 * i) s) (hW : WS s) : CC G MX12_butterLayerCount [.ref m, .int (iI ((i : Int)))] h (fun o h' => o = .inl (some (.int (iI (nBut s.1)))) ∧ MO G h' m a (r_th r 0) ∧ FRp [m] h h') := by
  obtain ⟨hl1, hnz, hh4, hw0, hw9⟩ := id hW
  have hl2 := hw.len
  have hg0 := hgt_nn s.1
  have hgl := hgt_ge s.1 hnz
  show RR G MX12_butterLayerCount 0 [(0, .ref m), (1, .int (iI ((i : Int))))] [] h (xm_R MX12_butterLayerCount).cells (xm_R MX12_butterLayerCount).slots (fun o h' => o = .inl (some (.int (iI (nBut s.1)))) ∧ MO G h' m a (r_th r 0) ∧ FRp [m] h h')
  refine r_aload_n dX12_butterLayerCount_0 0 rfl ?_
  refine r_aload_n dX12_butterLayerCount_1 0 rfl ?_
  refine r_iload_n dX12_butterLayerCount_2 1 rfl ?_
  refine p_callV (As := [.int (iI ((i : Int)))]) (b := m) (rest := [.ref m]) (w := (some (.int (iI (b2 true))))) (st' := [.int (iI (b2 true)), .ref m]) kv_X12_butterLayerCount_111 dX12_butterLayerCount_3 rfl rfl (Nat.le_of_ble_eq_true rfl) (Nat.le_of_ble_eq_true rfl) (x_rv hM.1 hM.2 rfl) rfl rfl (c_X12_isSheet_t hM hR hn hc hi) rfl (fun h1 e1 => ?_)
  rw [show h1 = h from e1]
  refine p_callV (As := [.int (iI (b2 true))]) (b := m) (rest := []) (w := (some (.int (iI 0)))) (st' := [.int (iI 0)]) kv_X12_butterLayerCount_82 dX12_butterLayerCount_6 rfl rfl (Nat.le_of_ble_eq_true rfl) (Nat.le_of_ble_eq_true rfl) (x_rv hM.1 hM.2 rfl) rfl rfl (c_X12_lacks_t hM) rfl (fun h2 e2 => ?_)
  obtain ⟨hM2, F2⟩ := e2
  have hR2 := hR.obj hM F2
  refine i_ifeq dX12_butterLayerCount_9 (tgt := 14) (by decide) ⟨by decide, by decide⟩ (fun _ => ?_) (fun c => absurd c (by decide))
  refine i_const (0) dX12_butterLayerCount_14 ?_
  refine r_istore_n (ls' := [(0, .ref m), (1, .int (iI ((i : Int)))), (2, .int (iI 0))]) dX12_butterLayerCount_15 (by decide) rfl ?_
  refine i_const (0) dX12_butterLayerCount_16 ?_
  refine r_istore_n (ls' := [(0, .ref m), (1, .int (iI ((i : Int)))), (2, .int (iI 0)), (3, .int (iI 0))]) dX12_butterLayerCount_17 (by decide) rfl ?_
  have L : ∀ k, k ≤ s.1.length → RR G MX12_butterLayerCount 18 [(0, .ref m), (1, .int (iI ((i : Int)))), (2, .int (iI (nBut (s.1.take k)))), (3, .int (iI ((k : Int))))] [] h2 (xm_R MX12_butterLayerCount).cells (xm_R MX12_butterLayerCount).slots (fun o h' => o = .inl (some (.int (iI (nBut s.1)))) ∧ MO G h' m a (r_th r 0) ∧ FRp [m] h h') := by
    refine down (fun k hk ih => ?_)
    refine r_iload_n dX12_butterLayerCount_18 3 rfl ?_
    refine r_aload_n dX12_butterLayerCount_19 0 rfl ?_
    refine r_iload_n dX12_butterLayerCount_20 1 rfl ?_
    refine i_bipush (6) (by decide) dX12_butterLayerCount_21 ?_
    refine p_callV (As := [.int (iI ((i : Int))), .int (iI 6)]) (b := m) (rest := [.int (iI ((k : Int)))]) (w := (some (.int (iI ((s.1.length : Int)))))) (st' := [.int (iI ((s.1.length : Int))), .int (iI ((k : Int)))]) kv_X12_butterLayerCount_93 dX12_butterLayerCount_23 rfl rfl (Nat.le_of_ble_eq_true rfl) (Nat.le_of_ble_eq_true rfl) (x_rv hM2.1 hM2.2 rfl) rfl rfl (c_X12_of hM2 hR2 (i := i) (w := 6) (by omega) (by decide) hw.2.2.2.2.2.2.1) rfl (fun h51 e51 => ?_)
    rw [show h51 = h2 from e51]
    refine i_icmpge dX12_butterLayerCount_26 (tgt := 52) (by decide) (by unfold in32; omega) (by unfold in32; omega) (fun c26 => ?_) (fun c26 => ?_)
    · refine r_iload_n dX12_butterLayerCount_52 2 rfl ?_
      refine r_ireturn rfl rfl dX12_butterLayerCount_53 ?_
      rw [show nBut s.1 = nBut (s.1.take k) by rw [show k = s.1.length by omega, take_all]]
      exact ⟨rfl, hM2, F2⟩
    · have hlx := lay_b (l := s.1) hh4 (k := k) (by omega)
      refine r_iload_n dX12_butterLayerCount_29 2 rfl ?_
      refine r_aload_n dX12_butterLayerCount_30 0 rfl ?_
      refine r_iload_n dX12_butterLayerCount_31 1 rfl ?_
      refine r_iload_n dX12_butterLayerCount_32 3 rfl ?_
      refine p_callV (As := [.int (iI ((i : Int))), .int (iI ((k : Int)))]) (b := m) (rest := [.int (iI (nBut (s.1.take k)))]) (w := (some (.int (iI (s.1.getD k 0))))) (st' := [.int (iI (s.1.getD k 0)), .int (iI (nBut (s.1.take k)))]) kv_X12_butterLayerCount_97 dX12_butterLayerCount_33 rfl rfl (Nat.le_of_ble_eq_true rfl) (Nat.le_of_ble_eq_true rfl) (x_rv hM2.1 hM2.2 rfl) rfl rfl (c_X12_layer_z hM2 hR2 (i := i) (k := k) (by omega) rfl hw (by omega)) rfl (fun h52 e52 => ?_)
      rw [show h52 = h2 from e52]
      refine i_ifge dX12_butterLayerCount_36 (tgt := 43) (by decide) (by unfold in32; omega) (fun c36 => ?_) (fun c36 => ?_)
      · refine i_const (0) dX12_butterLayerCount_43 ?_
        refine i_add dX12_butterLayerCount_44 ?_
        refine r_istore_n (ls' := [(0, .ref m), (1, .int (iI ((i : Int)))), (2, .int (iI ((nBut (s.1.take k)) + 0))), (3, .int (iI ((k : Int))))]) dX12_butterLayerCount_45 (by decide) rfl ?_
        refine i_iinc (ls' := [(0, .ref m), (1, .int (iI ((i : Int)))), (2, .int (iI ((nBut (s.1.take k)) + 0))), (3, .int (iI ((k : Int) + 1)))]) (1) (v := (k : Int) + 1) dX12_butterLayerCount_46 3 rfl (by omega) (by decide) rfl ?_
        refine r_goto dX12_butterLayerCount_49 (tgt := 18) (by decide) ?_
        have q := ih (k + 1) (by omega) (by omega)
        rw [nBut_f (by omega) (show isB _ = false from decide_eq_false (by omega)), ← Int.add_zero (nBut (s.1.take k))] at q
        exact q
      · refine i_const (1) dX12_butterLayerCount_39 ?_
        refine r_goto dX12_butterLayerCount_40 (tgt := 44) (by decide) ?_
        refine i_add dX12_butterLayerCount_44 ?_
        refine r_istore_n (ls' := [(0, .ref m), (1, .int (iI ((i : Int)))), (2, .int (iI ((nBut (s.1.take k)) + 1))), (3, .int (iI ((k : Int))))]) dX12_butterLayerCount_45 (by decide) rfl ?_
        refine i_iinc (ls' := [(0, .ref m), (1, .int (iI ((i : Int)))), (2, .int (iI ((nBut (s.1.take k)) + 1))), (3, .int (iI ((k : Int) + 1)))]) (1) (v := (k : Int) + 1) dX12_butterLayerCount_46 3 rfl (by omega) (by decide) rfl ?_
        refine r_goto dX12_butterLayerCount_49 (tgt := 18) (by decide) ?_
        have q := ih (k + 1) (by omega) (by omega)
        rw [nBut_t (by omega) (show isB _ = true from decide_eq_true c36)] at q
        exact q
  exact L 0 (by omega)
set_option maxRecDepth 20000 in
set_option maxHeartbeats 1000000 in
theorem c_X12_butterLayerCount_no {G : xG} {h : xH} {m : Nat} {a : MA} {r : MR} (hM : MO G h m a r) {g : Nat → Int32} (hR : AR G h r.1 1456 g) {n : Nat} (hn : n ≤ 6) (hc : g 3 = iI (n : Int)) {z : Int} (hz : in32 z) (hs : ¬ (0 ≤ z ∧ z < (n : Int))) : CC G MX12_butterLayerCount [.ref m, .int (iI z)] h (fun o h' => o = .inl (some (.int (iI 0))) ∧ MO G h' m a (r_th r 1) ∧ FRp [m] h h') := by
  show RR G MX12_butterLayerCount 0 [(0, .ref m), (1, .int (iI z))] [] h (xm_R MX12_butterLayerCount).cells (xm_R MX12_butterLayerCount).slots (fun o h' => o = .inl (some (.int (iI 0))) ∧ MO G h' m a (r_th r 1) ∧ FRp [m] h h')
  refine r_aload_n dX12_butterLayerCount_0 0 rfl ?_
  refine r_aload_n dX12_butterLayerCount_1 0 rfl ?_
  refine r_iload_n dX12_butterLayerCount_2 1 rfl ?_
  refine p_callV (As := [.int (iI z)]) (b := m) (rest := [.ref m]) (w := (some (.int (iI (b2 false))))) (st' := [.int (iI (b2 false)), .ref m]) kv_X12_butterLayerCount_111 dX12_butterLayerCount_3 rfl rfl (Nat.le_of_ble_eq_true rfl) (Nat.le_of_ble_eq_true rfl) (x_rv hM.1 hM.2 rfl) rfl rfl (c_X12_isSheet_f hM hR hn hc hz hs) rfl (fun h1 e1 => ?_)
  rw [show h1 = h from e1]
  refine p_callV (As := [.int (iI (b2 false))]) (b := m) (rest := []) (w := (some (.int (iI 1)))) (st' := [.int (iI 1)]) kv_X12_butterLayerCount_82 dX12_butterLayerCount_6 rfl rfl (Nat.le_of_ble_eq_true rfl) (Nat.le_of_ble_eq_true rfl) (x_rv hM.1 hM.2 rfl) rfl rfl (c_X12_lacks_f hM) rfl (fun h2 e2 => ?_)
  obtain ⟨hM2, F2⟩ := e2
  have hR2 := hR.obj hM F2
  refine i_ifeq dX12_butterLayerCount_9 (tgt := 14) (by decide) ⟨by decide, by decide⟩ (fun c => absurd c (by decide)) (fun _ => ?_)
  refine i_const (0) dX12_butterLayerCount_12 ?_
  refine r_ireturn rfl rfl dX12_butterLayerCount_13 ?_
  exact ⟨rfl, hM2, F2⟩
set_option maxRecDepth 20000 in
set_option maxHeartbeats 1000000 in
theorem c_X12_seamCount_ok {G : xG} {h : xH} {m : Nat} {a : MA} {r : MR} (hM : MO G h m a r) {g : Nat → Int32} (hR : AR G h r.1 1456 g) {n : Nat} (hn : n ≤ 6) (hc : g 3 = iI (n : Int)) {i : Nat} (hi : i < n) {s : AS} (hw : SWr g (7 + 207 * i) s) (hW : WS s) : CC G MX12_seamCount [.ref m, .int (iI ((i : Int)))] h (fun o h' => o = .inl (some (.int (iI (seams s.1 s.1.length)))) ∧ MO G h' m a (r_th r 0) ∧ FRp [m] h h') := by
  obtain ⟨hl1, hnz, hh4, hw0, hw9⟩ := id hW
  have hl2 := hw.len
  have hg0 := hgt_nn s.1
  have hgl := hgt_ge s.1 hnz
  show RR G MX12_seamCount 0 [(0, .ref m), (1, .int (iI ((i : Int))))] [] h (xm_R MX12_seamCount).cells (xm_R MX12_seamCount).slots (fun o h' => o = .inl (some (.int (iI (seams s.1 s.1.length)))) ∧ MO G h' m a (r_th r 0) ∧ FRp [m] h h')
  refine r_aload_n dX12_seamCount_0 0 rfl ?_
  refine r_aload_n dX12_seamCount_1 0 rfl ?_
  refine r_iload_n dX12_seamCount_2 1 rfl ?_
  refine p_callV (As := [.int (iI ((i : Int)))]) (b := m) (rest := [.ref m]) (w := (some (.int (iI (b2 true))))) (st' := [.int (iI (b2 true)), .ref m]) kv_X12_seamCount_111 dX12_seamCount_3 rfl rfl (Nat.le_of_ble_eq_true rfl) (Nat.le_of_ble_eq_true rfl) (x_rv hM.1 hM.2 rfl) rfl rfl (c_X12_isSheet_t hM hR hn hc hi) rfl (fun h1 e1 => ?_)
  rw [show h1 = h from e1]
  refine p_callV (As := [.int (iI (b2 true))]) (b := m) (rest := []) (w := (some (.int (iI 0)))) (st' := [.int (iI 0)]) kv_X12_seamCount_82 dX12_seamCount_6 rfl rfl (Nat.le_of_ble_eq_true rfl) (Nat.le_of_ble_eq_true rfl) (x_rv hM.1 hM.2 rfl) rfl rfl (c_X12_lacks_t hM) rfl (fun h2 e2 => ?_)
  obtain ⟨hM2, F2⟩ := e2
  have hR2 := hR.obj hM F2
  refine i_ifeq dX12_seamCount_9 (tgt := 14) (by decide) ⟨by decide, by decide⟩ (fun _ => ?_) (fun c => absurd c (by decide))
  refine i_const (0) dX12_seamCount_14 ?_
  refine r_istore_n (ls' := [(0, .ref m), (1, .int (iI ((i : Int)))), (2, .int (iI 0))]) dX12_seamCount_15 (by decide) rfl ?_
  refine i_const (1) dX12_seamCount_16 ?_
  refine r_istore_n (ls' := [(0, .ref m), (1, .int (iI ((i : Int)))), (2, .int (iI 0)), (3, .int (iI 1))]) dX12_seamCount_17 (by decide) rfl ?_
  have L : ∀ k, k ≤ s.1.length → 1 ≤ k → RR G MX12_seamCount 18 [(0, .ref m), (1, .int (iI ((i : Int)))), (2, .int (iI (seams s.1 k))), (3, .int (iI ((k : Int))))] [] h2 (xm_R MX12_seamCount).cells (xm_R MX12_seamCount).slots (fun o h' => o = .inl (some (.int (iI (seams s.1 s.1.length)))) ∧ MO G h' m a (r_th r 0) ∧ FRp [m] h h') := by
    refine down (fun k hk ih => ?_)
    intro hk1
    refine r_iload_n dX12_seamCount_18 3 rfl ?_
    refine r_aload_n dX12_seamCount_19 0 rfl ?_
    refine r_iload_n dX12_seamCount_20 1 rfl ?_
    refine i_bipush (6) (by decide) dX12_seamCount_21 ?_
    refine p_callV (As := [.int (iI ((i : Int))), .int (iI 6)]) (b := m) (rest := [.int (iI ((k : Int)))]) (w := (some (.int (iI ((s.1.length : Int)))))) (st' := [.int (iI ((s.1.length : Int))), .int (iI ((k : Int)))]) kv_X12_seamCount_93 dX12_seamCount_23 rfl rfl (Nat.le_of_ble_eq_true rfl) (Nat.le_of_ble_eq_true rfl) (x_rv hM2.1 hM2.2 rfl) rfl rfl (c_X12_of hM2 hR2 (i := i) (w := 6) (by omega) (by decide) hw.2.2.2.2.2.2.1) rfl (fun h51 e51 => ?_)
    rw [show h51 = h2 from e51]
    refine i_icmpge dX12_seamCount_26 (tgt := 63) (by decide) (by unfold in32; omega) (by unfold in32; omega) (fun c26 => ?_) (fun c26 => ?_)
    · refine r_iload_n dX12_seamCount_63 2 rfl ?_
      refine r_ireturn rfl rfl dX12_seamCount_64 ?_
      rw [show s.1.length = k by omega]
      exact ⟨rfl, hM2, F2⟩
    · refine r_iload_n dX12_seamCount_29 2 rfl ?_
      refine r_aload_n dX12_seamCount_30 0 rfl ?_
      refine r_iload_n dX12_seamCount_31 1 rfl ?_
      refine r_iload_n dX12_seamCount_32 3 rfl ?_
      refine p_callV (As := [.int (iI ((i : Int))), .int (iI ((k : Int)))]) (b := m) (rest := [.int (iI (seams s.1 k))]) (w := (some (.int (iI (s.1.getD k 0))))) (st' := [.int (iI (s.1.getD k 0)), .int (iI (seams s.1 k))]) kv_X12_seamCount_97 dX12_seamCount_33 rfl rfl (Nat.le_of_ble_eq_true rfl) (Nat.le_of_ble_eq_true rfl) (x_rv hM2.1 hM2.2 rfl) rfl rfl (c_X12_layer_z hM2 hR2 (i := i) (k := k) (by omega) rfl hw (by omega)) rfl (fun h52 e52 => ?_)
      rw [show h52 = h2 from e52]
      refine r_aload_n dX12_seamCount_36 0 rfl ?_
      refine r_iload_n dX12_seamCount_37 1 rfl ?_
      refine r_iload_n dX12_seamCount_38 3 rfl ?_
      refine i_const (1) dX12_seamCount_39 ?_
      refine i_sub dX12_seamCount_40 ?_
      refine p_callV (As := [.int (iI ((i : Int))), .int (iI ((k : Int) - 1))]) (b := m) (rest := [.int (iI (s.1.getD k 0)), .int (iI (seams s.1 k))]) (w := (some (.int (iI (s.1.getD (k - 1) 0))))) (st' := [.int (iI (s.1.getD (k - 1) 0)), .int (iI (s.1.getD k 0)), .int (iI (seams s.1 k))]) kv_X12_seamCount_97 dX12_seamCount_41 rfl rfl (Nat.le_of_ble_eq_true rfl) (Nat.le_of_ble_eq_true rfl) (x_rv hM2.1 hM2.2 rfl) rfl rfl (c_X12_layer_z hM2 hR2 (i := i) (k := (k - 1)) (by omega) (by omega) hw (by omega)) rfl (fun h53 e53 => ?_)
      rw [show h53 = h2 from e53]
      refine p_callS (As := [.int (iI (s.1.getD k 0)), .int (iI (s.1.getD (k - 1) 0))]) (rest := [.int (iI (seams s.1 k))]) (w := (some (.int (iI (b2 (alk (s.1.getD k 0) (s.1.getD (k - 1) 0))))))) (st' := [.int (iI (b2 (alk (s.1.getD k 0) (s.1.getD (k - 1) 0)))), .int (iI (seams s.1 k))]) kv_X12_seamCount_100 dX12_seamCount_44 rfl rfl (Nat.le_of_ble_eq_true rfl) (Nat.le_of_ble_eq_true rfl) rfl rfl (c_X12_areAlike (in32_lay hh4 (by omega)) (in32_lay hh4 (by omega))) rfl (fun h54 e54 => ?_)
      rw [show h54 = h2 from e54]
      refine i_ifeqb dX12_seamCount_47 (tgt := 54) (by decide) (fun c47 => ?_) (fun c47 => ?_)
      · refine i_const (0) dX12_seamCount_54 ?_
        refine i_add dX12_seamCount_55 ?_
        refine r_istore_n (ls' := [(0, .ref m), (1, .int (iI ((i : Int)))), (2, .int (iI ((seams s.1 k) + 0))), (3, .int (iI ((k : Int))))]) dX12_seamCount_56 (by decide) rfl ?_
        refine i_iinc (ls' := [(0, .ref m), (1, .int (iI ((i : Int)))), (2, .int (iI ((seams s.1 k) + 0))), (3, .int (iI ((k : Int) + 1)))]) (1) (v := (k : Int) + 1) dX12_seamCount_57 3 rfl (by omega) (by decide) rfl ?_
        refine r_goto dX12_seamCount_60 (tgt := 18) (by decide) ?_
        have q := ih (k + 1) (by omega) (by omega) (by omega)
        rw [alk_isB (hnz _ (getD_mem (l := s.1) (i := k) (by omega))) (hnz _ (getD_mem (l := s.1) (i := k - 1) (by omega)))] at c47
        rw [seams_f (by simpa using c47), ← Int.add_zero (seams s.1 k)] at q
        exact q
      · refine i_const (1) dX12_seamCount_50 ?_
        refine r_goto dX12_seamCount_51 (tgt := 55) (by decide) ?_
        refine i_add dX12_seamCount_55 ?_
        refine r_istore_n (ls' := [(0, .ref m), (1, .int (iI ((i : Int)))), (2, .int (iI ((seams s.1 k) + 1))), (3, .int (iI ((k : Int))))]) dX12_seamCount_56 (by decide) rfl ?_
        refine i_iinc (ls' := [(0, .ref m), (1, .int (iI ((i : Int)))), (2, .int (iI ((seams s.1 k) + 1))), (3, .int (iI ((k : Int) + 1)))]) (1) (v := (k : Int) + 1) dX12_seamCount_57 3 rfl (by omega) (by decide) rfl ?_
        refine r_goto dX12_seamCount_60 (tgt := 18) (by decide) ?_
        have q := ih (k + 1) (by omega) (by omega) (by omega)
        rw [alk_isB (hnz _ (getD_mem (l := s.1) (i := k) (by omega))) (hnz _ (getD_mem (l := s.1) (i := k - 1) (by omega)))] at c47
        rw [seams_t (by omega) (by simpa using c47)] at q
        exact q
  have q := L 1 (by omega) (by omega)
  rw [seams_1] at q
  exact q
set_option maxRecDepth 20000 in
set_option maxHeartbeats 1000000 in
theorem c_X12_seamCount_no {G : xG} {h : xH} {m : Nat} {a : MA} {r : MR} (hM : MO G h m a r) {g : Nat → Int32} (hR : AR G h r.1 1456 g) {n : Nat} (hn : n ≤ 6) (hc : g 3 = iI (n : Int)) {z : Int} (hz : in32 z) (hs : ¬ (0 ≤ z ∧ z < (n : Int))) : CC G MX12_seamCount [.ref m, .int (iI z)] h (fun o h' => o = .inl (some (.int (iI 0))) ∧ MO G h' m a (r_th r 1) ∧ FRp [m] h h') := by
  show RR G MX12_seamCount 0 [(0, .ref m), (1, .int (iI z))] [] h (xm_R MX12_seamCount).cells (xm_R MX12_seamCount).slots (fun o h' => o = .inl (some (.int (iI 0))) ∧ MO G h' m a (r_th r 1) ∧ FRp [m] h h')
  refine r_aload_n dX12_seamCount_0 0 rfl ?_
  refine r_aload_n dX12_seamCount_1 0 rfl ?_
  refine r_iload_n dX12_seamCount_2 1 rfl ?_
  refine p_callV (As := [.int (iI z)]) (b := m) (rest := [.ref m]) (w := (some (.int (iI (b2 false))))) (st' := [.int (iI (b2 false)), .ref m]) kv_X12_seamCount_111 dX12_seamCount_3 rfl rfl (Nat.le_of_ble_eq_true rfl) (Nat.le_of_ble_eq_true rfl) (x_rv hM.1 hM.2 rfl) rfl rfl (c_X12_isSheet_f hM hR hn hc hz hs) rfl (fun h1 e1 => ?_)
  rw [show h1 = h from e1]
  refine p_callV (As := [.int (iI (b2 false))]) (b := m) (rest := []) (w := (some (.int (iI 1)))) (st' := [.int (iI 1)]) kv_X12_seamCount_82 dX12_seamCount_6 rfl rfl (Nat.le_of_ble_eq_true rfl) (Nat.le_of_ble_eq_true rfl) (x_rv hM.1 hM.2 rfl) rfl rfl (c_X12_lacks_f hM) rfl (fun h2 e2 => ?_)
  obtain ⟨hM2, F2⟩ := e2
  have hR2 := hR.obj hM F2
  refine i_ifeq dX12_seamCount_9 (tgt := 14) (by decide) ⟨by decide, by decide⟩ (fun c => absurd c (by decide)) (fun _ => ?_)
  refine i_const (0) dX12_seamCount_12 ?_
  refine r_ireturn rfl rfl dX12_seamCount_13 ?_
  exact ⟨rfl, hM2, F2⟩
set_option maxRecDepth 20000 in
set_option maxHeartbeats 1000000 in
theorem c_X12_isSymmetric_ok {G : xG} {h : xH} {m : Nat} {a : MA} {r : MR} (hM : MO G h m a r) {g : Nat → Int32} (hR : AR G h r.1 1456 g) {n : Nat} (hn : n ≤ 6) (hc : g 3 = iI (n : Int)) {i : Nat} (hi : i < n) {s : AS} (hw : SWr g (7 + 207 * i) s) (hW : WS s) : CC G MX12_isSymmetric [.ref m, .int (iI ((i : Int)))] h (fun o h' => o = .inl (some (.int (iI (b2 (symL s.1))))) ∧ MO G h' m a (r_th r 0) ∧ FRp [m] h h') := by
  obtain ⟨hl1, hnz, hh4, hw0, hw9⟩ := id hW
  have hl2 := hw.len
  have hg0 := hgt_nn s.1
  have hgl := hgt_ge s.1 hnz
  show RR G MX12_isSymmetric 0 [(0, .ref m), (1, .int (iI ((i : Int))))] [] h (xm_R MX12_isSymmetric).cells (xm_R MX12_isSymmetric).slots (fun o h' => o = .inl (some (.int (iI (b2 (symL s.1))))) ∧ MO G h' m a (r_th r 0) ∧ FRp [m] h h')
  refine r_aload_n dX12_isSymmetric_0 0 rfl ?_
  refine r_aload_n dX12_isSymmetric_1 0 rfl ?_
  refine r_iload_n dX12_isSymmetric_2 1 rfl ?_
  refine p_callV (As := [.int (iI ((i : Int)))]) (b := m) (rest := [.ref m]) (w := (some (.int (iI (b2 true))))) (st' := [.int (iI (b2 true)), .ref m]) kv_X12_isSymmetric_111 dX12_isSymmetric_3 rfl rfl (Nat.le_of_ble_eq_true rfl) (Nat.le_of_ble_eq_true rfl) (x_rv hM.1 hM.2 rfl) rfl rfl (c_X12_isSheet_t hM hR hn hc hi) rfl (fun h1 e1 => ?_)
  rw [show h1 = h from e1]
  refine p_callV (As := [.int (iI (b2 true))]) (b := m) (rest := []) (w := (some (.int (iI 0)))) (st' := [.int (iI 0)]) kv_X12_isSymmetric_82 dX12_isSymmetric_6 rfl rfl (Nat.le_of_ble_eq_true rfl) (Nat.le_of_ble_eq_true rfl) (x_rv hM.1 hM.2 rfl) rfl rfl (c_X12_lacks_t hM) rfl (fun h2 e2 => ?_)
  obtain ⟨hM2, F2⟩ := e2
  have hR2 := hR.obj hM F2
  refine i_ifeq dX12_isSymmetric_9 (tgt := 14) (by decide) ⟨by decide, by decide⟩ (fun _ => ?_) (fun c => absurd c (by decide))
  refine i_const (0) dX12_isSymmetric_14 ?_
  refine r_istore_n (ls' := [(0, .ref m), (1, .int (iI ((i : Int)))), (2, .int (iI 0))]) dX12_isSymmetric_15 (by decide) rfl ?_
  have L : ∀ k, k ≤ s.1.length → (∀ j, j < k → s.1.getD j 0 = s.1.getD (s.1.length - 1 - j) 0) → RR G MX12_isSymmetric 16 [(0, .ref m), (1, .int (iI ((i : Int)))), (2, .int (iI ((k : Int))))] [] h2 (xm_R MX12_isSymmetric).cells (xm_R MX12_isSymmetric).slots (fun o h' => o = .inl (some (.int (iI (b2 (symL s.1))))) ∧ MO G h' m a (r_th r 0) ∧ FRp [m] h h') := by
    refine down (fun k hk ih => ?_)
    intro hj9
    refine r_iload_n dX12_isSymmetric_16 2 rfl ?_
    refine r_aload_n dX12_isSymmetric_17 0 rfl ?_
    refine r_iload_n dX12_isSymmetric_18 1 rfl ?_
    refine i_bipush (6) (by decide) dX12_isSymmetric_19 ?_
    refine p_callV (As := [.int (iI ((i : Int))), .int (iI 6)]) (b := m) (rest := [.int (iI ((k : Int)))]) (w := (some (.int (iI ((s.1.length : Int)))))) (st' := [.int (iI ((s.1.length : Int))), .int (iI ((k : Int)))]) kv_X12_isSymmetric_93 dX12_isSymmetric_21 rfl rfl (Nat.le_of_ble_eq_true rfl) (Nat.le_of_ble_eq_true rfl) (x_rv hM2.1 hM2.2 rfl) rfl rfl (c_X12_of hM2 hR2 (i := i) (w := 6) (by omega) (by decide) hw.2.2.2.2.2.2.1) rfl (fun h51 e51 => ?_)
    rw [show h51 = h2 from e51]
    refine i_icmpge dX12_isSymmetric_24 (tgt := 60) (by decide) (by unfold in32; omega) (by unfold in32; omega) (fun c24 => ?_) (fun c24 => ?_)
    · refine i_const (1) dX12_isSymmetric_60 ?_
      refine r_ireturn rfl (b2_nar true) dX12_isSymmetric_61 ?_
      have e : symL s.1 = true := decide_eq_true (fun j hj => hj9 j (by omega))
      rw [e]
      exact ⟨rfl, hM2, F2⟩
    · have hlx := lay_b (l := s.1) hh4 (k := k) (by omega)
      have hly := lay_b (l := s.1) hh4 (k := s.1.length - 1 - k) (by omega)
      refine r_aload_n dX12_isSymmetric_27 0 rfl ?_
      refine r_iload_n dX12_isSymmetric_28 1 rfl ?_
      refine r_iload_n dX12_isSymmetric_29 2 rfl ?_
      refine p_callV (As := [.int (iI ((i : Int))), .int (iI ((k : Int)))]) (b := m) (rest := []) (w := (some (.int (iI (s.1.getD k 0))))) (st' := [.int (iI (s.1.getD k 0))]) kv_X12_isSymmetric_97 dX12_isSymmetric_30 rfl rfl (Nat.le_of_ble_eq_true rfl) (Nat.le_of_ble_eq_true rfl) (x_rv hM2.1 hM2.2 rfl) rfl rfl (c_X12_layer_z hM2 hR2 (i := i) (k := k) (by omega) rfl hw (by omega)) rfl (fun h52 e52 => ?_)
      rw [show h52 = h2 from e52]
      refine r_aload_n dX12_isSymmetric_33 0 rfl ?_
      refine r_iload_n dX12_isSymmetric_34 1 rfl ?_
      refine r_aload_n dX12_isSymmetric_35 0 rfl ?_
      refine r_iload_n dX12_isSymmetric_36 1 rfl ?_
      refine i_bipush (6) (by decide) dX12_isSymmetric_37 ?_
      refine p_callV (As := [.int (iI ((i : Int))), .int (iI 6)]) (b := m) (rest := [.int (iI ((i : Int))), .ref m, .int (iI (s.1.getD k 0))]) (w := (some (.int (iI ((s.1.length : Int)))))) (st' := [.int (iI ((s.1.length : Int))), .int (iI ((i : Int))), .ref m, .int (iI (s.1.getD k 0))]) kv_X12_isSymmetric_93 dX12_isSymmetric_39 rfl rfl (Nat.le_of_ble_eq_true rfl) (Nat.le_of_ble_eq_true rfl) (x_rv hM2.1 hM2.2 rfl) rfl rfl (c_X12_of hM2 hR2 (i := i) (w := 6) (by omega) (by decide) hw.2.2.2.2.2.2.1) rfl (fun h53 e53 => ?_)
      rw [show h53 = h2 from e53]
      refine i_const (1) dX12_isSymmetric_42 ?_
      refine i_sub dX12_isSymmetric_43 ?_
      refine r_iload_n dX12_isSymmetric_44 2 rfl ?_
      refine i_sub dX12_isSymmetric_45 ?_
      refine p_callV (As := [.int (iI ((i : Int))), .int (iI (((s.1.length : Int) - 1) - (k : Int)))]) (b := m) (rest := [.int (iI (s.1.getD k 0))]) (w := (some (.int (iI (s.1.getD (s.1.length - 1 - k) 0))))) (st' := [.int (iI (s.1.getD (s.1.length - 1 - k) 0)), .int (iI (s.1.getD k 0))]) kv_X12_isSymmetric_97 dX12_isSymmetric_46 rfl rfl (Nat.le_of_ble_eq_true rfl) (Nat.le_of_ble_eq_true rfl) (x_rv hM2.1 hM2.2 rfl) rfl rfl (c_X12_layer_z hM2 hR2 (i := i) (k := (s.1.length - 1 - k)) (by omega) (by omega) hw (by omega)) rfl (fun h54 e54 => ?_)
      rw [show h54 = h2 from e54]
      refine i_icmpeq dX12_isSymmetric_49 (tgt := 54) (by decide) (by unfold in32; omega) (by unfold in32; omega) (fun c49 => ?_) (fun c49 => ?_)
      · refine i_iinc (ls' := [(0, .ref m), (1, .int (iI ((i : Int)))), (2, .int (iI ((k : Int) + 1)))]) (1) (v := (k : Int) + 1) dX12_isSymmetric_54 2 rfl (by omega) (by decide) rfl ?_
        refine r_goto dX12_isSymmetric_57 (tgt := 16) (by decide) ?_
        exact ih (k + 1) (by omega) (by omega) (fun j hj => (Decidable.em (j = k)).elim (fun c => by rw [c]; exact c49) (fun c => hj9 j (by omega)))
      · refine i_const (0) dX12_isSymmetric_52 ?_
        refine r_ireturn rfl (b2_nar false) dX12_isSymmetric_53 ?_
        have e : symL s.1 = false := decide_eq_false (fun z => c49 (z k (by omega)))
        rw [e]
        exact ⟨rfl, hM2, F2⟩
  exact L 0 (by omega) (fun j hj => absurd hj (Nat.not_lt_zero _))
set_option maxRecDepth 20000 in
set_option maxHeartbeats 1000000 in
theorem c_X12_isSymmetric_no {G : xG} {h : xH} {m : Nat} {a : MA} {r : MR} (hM : MO G h m a r) {g : Nat → Int32} (hR : AR G h r.1 1456 g) {n : Nat} (hn : n ≤ 6) (hc : g 3 = iI (n : Int)) {z : Int} (hz : in32 z) (hs : ¬ (0 ≤ z ∧ z < (n : Int))) : CC G MX12_isSymmetric [.ref m, .int (iI z)] h (fun o h' => o = .inl (some (.int (iI 0))) ∧ MO G h' m a (r_th r 1) ∧ FRp [m] h h') := by
  show RR G MX12_isSymmetric 0 [(0, .ref m), (1, .int (iI z))] [] h (xm_R MX12_isSymmetric).cells (xm_R MX12_isSymmetric).slots (fun o h' => o = .inl (some (.int (iI 0))) ∧ MO G h' m a (r_th r 1) ∧ FRp [m] h h')
  refine r_aload_n dX12_isSymmetric_0 0 rfl ?_
  refine r_aload_n dX12_isSymmetric_1 0 rfl ?_
  refine r_iload_n dX12_isSymmetric_2 1 rfl ?_
  refine p_callV (As := [.int (iI z)]) (b := m) (rest := [.ref m]) (w := (some (.int (iI (b2 false))))) (st' := [.int (iI (b2 false)), .ref m]) kv_X12_isSymmetric_111 dX12_isSymmetric_3 rfl rfl (Nat.le_of_ble_eq_true rfl) (Nat.le_of_ble_eq_true rfl) (x_rv hM.1 hM.2 rfl) rfl rfl (c_X12_isSheet_f hM hR hn hc hz hs) rfl (fun h1 e1 => ?_)
  rw [show h1 = h from e1]
  refine p_callV (As := [.int (iI (b2 false))]) (b := m) (rest := []) (w := (some (.int (iI 1)))) (st' := [.int (iI 1)]) kv_X12_isSymmetric_82 dX12_isSymmetric_6 rfl rfl (Nat.le_of_ble_eq_true rfl) (Nat.le_of_ble_eq_true rfl) (x_rv hM.1 hM.2 rfl) rfl rfl (c_X12_lacks_f hM) rfl (fun h2 e2 => ?_)
  obtain ⟨hM2, F2⟩ := e2
  have hR2 := hR.obj hM F2
  refine i_ifeq dX12_isSymmetric_9 (tgt := 14) (by decide) ⟨by decide, by decide⟩ (fun c => absurd c (by decide)) (fun _ => ?_)
  refine i_const (0) dX12_isSymmetric_12 ?_
  refine r_ireturn rfl (b2_nar false) dX12_isSymmetric_13 ?_
  exact ⟨rfl, hM2, F2⟩
