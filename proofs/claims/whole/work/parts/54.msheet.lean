/-! ===== the reference: one sheet in the row ===== -/
theorem c_X12_lay_z {G : xG} {h : xH} {m : Nat} {a : MA} {r : MR} (hM : MO G h m a r) {g : Nat → Int32} (hR : AR G h r.1 1456 g) {i w : Nat} (hi : i ≤ 6) {z : Int} (hz : z = (w : Int)) (hw : w < 207) {v : Int32} : CC G MX12_lay [.ref m, .int (iI (i : Int)), .int (iI z), .int v] h (fun o h' => o = .inl none ∧ AR G h' r.1 1456 (upd g (7 + 207 * i + w) v) ∧ FRp [r.1] h h') := by
  subst hz; exact c_X12_lay hM hR hi hw
theorem c_X12_layer_z {G : xG} {h : xH} {m : Nat} {a : MA} {r : MR} (hM : MO G h m a r) {g : Nat → Int32} (hR : AR G h r.1 1456 g) {i k : Nat} (hi : i ≤ 6) {z : Int} (hz : z = (k : Int)) {s : AS} (hw : SWr g (7 + 207 * i) s) (hk : k < s.1.length) : CC G MX12_layer [.ref m, .int (iI (i : Int)), .int (iI z)] h (qI (s.1.getD k 0) h) := by
  subst hz; exact c_X12_layer hM hR hi (by have := hw.len; omega) (hw.2.2.2.2.2.2.2.2 k hk)
theorem c_X12_lay_0 {G : xG} {h : xH} {m : Nat} {a : MA} {r : MR} (hM : MO G h m a r) {g : Nat → Int32} (hR : AR G h r.1 1456 g) {i : Nat} (hi : i ≤ 6) {s : AS} (hw : SWr g (7 + 207 * i) s) {v : Int} : CC G MX12_lay [.ref m, .int (iI (i : Int)), .int (iI 0), .int (iI v)] h (fun o h' => o = .inl none ∧ ∃ g', AR G h' r.1 1456 g' ∧ SWr g' (7 + 207 * i) (s.1, s.2.1, v, s.2.2.2.1, s.2.2.2.2.1, s.2.2.2.2.2.1, s.2.2.2.2.2.2) ∧ EQo i g g' ∧ FRp [r.1] h h') := cc_mono (c_X12_lay hM hR hi (w := 0) (by decide)) (fun o h' q => ⟨q.1, _, q.2.1, hw.u0 v, EQo.u (by decide), q.2.2⟩)
theorem c_X12_lay_1 {G : xG} {h : xH} {m : Nat} {a : MA} {r : MR} (hM : MO G h m a r) {g : Nat → Int32} (hR : AR G h r.1 1456 g) {i : Nat} (hi : i ≤ 6) {s : AS} (hw : SWr g (7 + 207 * i) s) {v : Bool} : CC G MX12_lay [.ref m, .int (iI (i : Int)), .int (iI 1), .int (iI (b2 v))] h (fun o h' => o = .inl none ∧ ∃ g', AR G h' r.1 1456 g' ∧ SWr g' (7 + 207 * i) (s.1, s.2.1, s.2.2.1, s.2.2.2.1, v, s.2.2.2.2.2.1, s.2.2.2.2.2.2) ∧ EQo i g g' ∧ FRp [r.1] h h') := cc_mono (c_X12_lay hM hR hi (w := 1) (by decide)) (fun o h' q => ⟨q.1, _, q.2.1, hw.u1 v, EQo.u (by decide), q.2.2⟩)
theorem c_X12_lay_2 {G : xG} {h : xH} {m : Nat} {a : MA} {r : MR} (hM : MO G h m a r) {g : Nat → Int32} (hR : AR G h r.1 1456 g) {i : Nat} (hi : i ≤ 6) {s : AS} (hw : SWr g (7 + 207 * i) s) {v : Bool} : CC G MX12_lay [.ref m, .int (iI (i : Int)), .int (iI 2), .int (iI (b2 v))] h (fun o h' => o = .inl none ∧ ∃ g', AR G h' r.1 1456 g' ∧ SWr g' (7 + 207 * i) (s.1, s.2.1, s.2.2.1, s.2.2.2.1, s.2.2.2.2.1, v, s.2.2.2.2.2.2) ∧ EQo i g g' ∧ FRp [r.1] h h') := cc_mono (c_X12_lay hM hR hi (w := 2) (by decide)) (fun o h' q => ⟨q.1, _, q.2.1, hw.u2 v, EQo.u (by decide), q.2.2⟩)
theorem c_X12_lay_3 {G : xG} {h : xH} {m : Nat} {a : MA} {r : MR} (hM : MO G h m a r) {g : Nat → Int32} (hR : AR G h r.1 1456 g) {i : Nat} (hi : i ≤ 6) {s : AS} (hw : SWr g (7 + 207 * i) s) {v : Bool} : CC G MX12_lay [.ref m, .int (iI (i : Int)), .int (iI 3), .int (iI (b2 v))] h (fun o h' => o = .inl none ∧ ∃ g', AR G h' r.1 1456 g' ∧ SWr g' (7 + 207 * i) (s.1, s.2.1, s.2.2.1, s.2.2.2.1, s.2.2.2.2.1, s.2.2.2.2.2.1, v) ∧ EQo i g g' ∧ FRp [r.1] h h') := cc_mono (c_X12_lay hM hR hi (w := 3) (by decide)) (fun o h' q => ⟨q.1, _, q.2.1, hw.u3 v, EQo.u (by decide), q.2.2⟩)
theorem c_X12_lay_4 {G : xG} {h : xH} {m : Nat} {a : MA} {r : MR} (hM : MO G h m a r) {g : Nat → Int32} (hR : AR G h r.1 1456 g) {i : Nat} (hi : i ≤ 6) {s : AS} (hw : SWr g (7 + 207 * i) s) {v : Int32} : CC G MX12_lay [.ref m, .int (iI (i : Int)), .int (iI 4), .int (v)] h (fun o h' => o = .inl none ∧ ∃ g', AR G h' r.1 1456 g' ∧ SWr g' (7 + 207 * i) (s.1, s.2.1, s.2.2.1, v, s.2.2.2.2.1, s.2.2.2.2.2.1, s.2.2.2.2.2.2) ∧ EQo i g g' ∧ FRp [r.1] h h') := cc_mono (c_X12_lay hM hR hi (w := 4) (by decide)) (fun o h' q => ⟨q.1, _, q.2.1, hw.u4 v, EQo.u (by decide), q.2.2⟩)
theorem c_X12_lay_5 {G : xG} {h : xH} {m : Nat} {a : MA} {r : MR} (hM : MO G h m a r) {g : Nat → Int32} (hR : AR G h r.1 1456 g) {i : Nat} (hi : i ≤ 6) {s : AS} (hw : SWr g (7 + 207 * i) s) {v : Int} : CC G MX12_lay [.ref m, .int (iI (i : Int)), .int (iI 5), .int (iI v)] h (fun o h' => o = .inl none ∧ ∃ g', AR G h' r.1 1456 g' ∧ SWr g' (7 + 207 * i) (s.1, v, s.2.2.1, s.2.2.2.1, s.2.2.2.2.1, s.2.2.2.2.2.1, s.2.2.2.2.2.2) ∧ EQo i g g' ∧ FRp [r.1] h h') := cc_mono (c_X12_lay hM hR hi (w := 5) (by decide)) (fun o h' q => ⟨q.1, _, q.2.1, hw.u5 v, EQo.u (by decide), q.2.2⟩)
theorem c_X12_lay_6 {G : xG} {h : xH} {m : Nat} {a : MA} {r : MR} (hM : MO G h m a r) {g : Nat → Int32} (hR : AR G h r.1 1456 g) {i : Nat} (hi : i ≤ 6) {s : AS} (hw : SWr g (7 + 207 * i) s) : CC G MX12_lay [.ref m, .int (iI (i : Int)), .int (iI 6), .int (iI 0)] h (fun o h' => o = .inl none ∧ ∃ g', AR G h' r.1 1456 g' ∧ SWr g' (7 + 207 * i) ([], s.2) ∧ EQo i g g' ∧ FRp [r.1] h h') := cc_mono (c_X12_lay hM hR hi (w := 6) (by decide)) (fun o h' q => ⟨q.1, _, q.2.1, hw.u6, EQo.u (by decide), q.2.2⟩)
set_option maxRecDepth 20000 in
set_option maxHeartbeats 1000000 in
theorem c_X12_warm {G : xG} {h : xH} {m : Nat} {a : MA} {r : MR} (hM : MO G h m a r) {g : Nat → Int32} (hR : AR G h r.1 1456 g) {i : Nat} (hi : i ≤ 6) {s : AS} (hw : SWr g (7 + 207 * i) s) (hb : 0 ≤ s.2.2.1 ∧ s.2.2.1 ≤ 40) : CC G MX12_warm [.ref m, .int (iI ((i : Int)))] h (fun o h' => o = .inl none ∧ ∃ g', AR G h' r.1 1456 g' ∧ SWr g' (7 + 207 * i) (s.1, s.2.1, warmed s.2.2.1, s.2.2.2.1, s.2.2.2.2.1, s.2.2.2.2.2.1, s.2.2.2.2.2.2) ∧ EQo i g g' ∧ FRp [r.1] h h') := by
  show RR G MX12_warm 0 [(0, .ref m), (1, .int (iI ((i : Int))))] [] h (xm_R MX12_warm).cells (xm_R MX12_warm).slots (fun o h' => o = .inl none ∧ ∃ g', AR G h' r.1 1456 g' ∧ SWr g' (7 + 207 * i) (s.1, s.2.1, warmed s.2.2.1, s.2.2.2.1, s.2.2.2.2.1, s.2.2.2.2.2.1, s.2.2.2.2.2.2) ∧ EQo i g g' ∧ FRp [r.1] h h')
  refine r_aload_n dX12_warm_0 0 rfl ?_
  refine r_iload_n dX12_warm_1 1 rfl ?_
  refine i_const (0) dX12_warm_2 ?_
  refine i_bipush (40) (by decide) dX12_warm_3 ?_
  refine r_aload_n dX12_warm_5 0 rfl ?_
  refine r_iload_n dX12_warm_6 1 rfl ?_
  refine i_const (0) dX12_warm_7 ?_
  refine p_callV (As := [.int (iI ((i : Int))), .int (iI 0)]) (b := m) (rest := [.int (iI 40), .int (iI 0), .int (iI ((i : Int))), .ref m]) (w := (some (.int (iI s.2.2.1)))) (st' := [.int (iI s.2.2.1), .int (iI 40), .int (iI 0), .int (iI ((i : Int))), .ref m]) kv_X12_warm_93 dX12_warm_8 rfl rfl (Nat.le_of_ble_eq_true rfl) (Nat.le_of_ble_eq_true rfl) (x_rv hM.1 hM.2 rfl) rfl rfl (c_X12_of hM hR (i := i) (w := 0) (by omega) (by decide) hw.1) rfl (fun h1 e1 => ?_)
  rw [show h1 = h from e1]
  refine i_const (2) dX12_warm_11 ?_
  refine i_add dX12_warm_12 ?_
  refine p_callS (As := [.int (iI 40), .int (iI (s.2.2.1 + 2))]) (rest := [.int (iI 0), .int (iI ((i : Int))), .ref m]) (w := (some (.int (iI (warmed s.2.2.1))))) (st' := [.int (iI (warmed s.2.2.1)), .int (iI 0), .int (iI ((i : Int))), .ref m]) kv_X12_warm_165 dX12_warm_13 rfl rfl (Nat.le_of_ble_eq_true rfl) (Nat.le_of_ble_eq_true rfl) rfl rfl (c_X12_least ⟨by decide, by decide⟩ (by unfold in32; omega)) rfl (fun h2 e2 => ?_)
  rw [show h2 = h from e2]
  refine p_callV (As := [.int (iI ((i : Int))), .int (iI 0), .int (iI (warmed s.2.2.1))]) (b := m) (rest := []) (w := none) (st' := []) kv_X12_warm_90 dX12_warm_16 rfl rfl (Nat.le_of_ble_eq_true rfl) (Nat.le_of_ble_eq_true rfl) (x_rv hM.1 hM.2 rfl) rfl rfl (c_X12_lay_0 hM hR (i := i) (by omega) hw (v := warmed s.2.2.1)) rfl (fun h3 e3 => ?_)
  obtain ⟨g3, hR3, hw3, E3, F3⟩ := e3
  have hM3 := hM.row hR F3
  have hF3 : FRp [m, r.1] h h3 := FRr F3
  refine r_return rfl dX12_warm_19 ?_
  exact ⟨rfl, g3, hR3, hw3, E3, F3⟩
set_option maxRecDepth 20000 in
set_option maxHeartbeats 1000000 in
theorem c_X12_addLayer {G : xG} {h : xH} {m : Nat} {a : MA} {r : MR} (hM : MO G h m a r) {g : Nat → Int32} (hR : AR G h r.1 1456 g) {i : Nat} (hi : i ≤ 6) {s : AS} (hw : SWr g (7 + 207 * i) s) (hl : s.1.length < 200) {x : Int} : CC G MX12_addLayer [.ref m, .int (iI ((i : Int))), .int (iI x)] h (fun o h' => o = .inl none ∧ ∃ g', AR G h' r.1 1456 g' ∧ SWr g' (7 + 207 * i) (s.1 ++ [x], s.2) ∧ EQo i g g' ∧ FRp [r.1] h h') := by
  show RR G MX12_addLayer 0 [(0, .ref m), (1, .int (iI ((i : Int)))), (2, .int (iI x))] [] h (xm_R MX12_addLayer).cells (xm_R MX12_addLayer).slots (fun o h' => o = .inl none ∧ ∃ g', AR G h' r.1 1456 g' ∧ SWr g' (7 + 207 * i) (s.1 ++ [x], s.2) ∧ EQo i g g' ∧ FRp [r.1] h h')
  refine r_aload_n dX12_addLayer_0 0 rfl ?_
  refine r_iload_n dX12_addLayer_1 1 rfl ?_
  refine i_bipush (7) (by decide) dX12_addLayer_2 ?_
  refine r_aload_n dX12_addLayer_4 0 rfl ?_
  refine r_iload_n dX12_addLayer_5 1 rfl ?_
  refine i_bipush (6) (by decide) dX12_addLayer_6 ?_
  refine p_callV (As := [.int (iI ((i : Int))), .int (iI 6)]) (b := m) (rest := [.int (iI 7), .int (iI ((i : Int))), .ref m]) (w := (some (.int (iI ((s.1.length : Int)))))) (st' := [.int (iI ((s.1.length : Int))), .int (iI 7), .int (iI ((i : Int))), .ref m]) kv_X12_addLayer_93 dX12_addLayer_8 rfl rfl (Nat.le_of_ble_eq_true rfl) (Nat.le_of_ble_eq_true rfl) (x_rv hM.1 hM.2 rfl) rfl rfl (c_X12_of hM hR (i := i) (w := 6) (by omega) (by decide) hw.2.2.2.2.2.2.1) rfl (fun h1 e1 => ?_)
  rw [show h1 = h from e1]
  refine i_add dX12_addLayer_11 ?_
  refine r_iload_n dX12_addLayer_12 2 rfl ?_
  refine p_callV (As := [.int (iI ((i : Int))), .int (iI (7 + (s.1.length : Int))), .int (iI x)]) (b := m) (rest := []) (w := none) (st' := []) kv_X12_addLayer_90 dX12_addLayer_13 rfl rfl (Nat.le_of_ble_eq_true rfl) (Nat.le_of_ble_eq_true rfl) (x_rv hM.1 hM.2 rfl) rfl rfl (c_X12_lay_z hM hR (i := i) (w := 7 + s.1.length) (by omega) (by omega) (by omega)) rfl (fun h2 e2 => ?_)
  obtain ⟨hR2, F2⟩ := e2
  have hM2 := hM.row hR F2
  refine r_aload_n dX12_addLayer_16 0 rfl ?_
  refine r_iload_n dX12_addLayer_17 1 rfl ?_
  refine i_bipush (6) (by decide) dX12_addLayer_18 ?_
  refine r_aload_n dX12_addLayer_20 0 rfl ?_
  refine r_iload_n dX12_addLayer_21 1 rfl ?_
  refine i_bipush (6) (by decide) dX12_addLayer_22 ?_
  refine p_callV (As := [.int (iI ((i : Int))), .int (iI 6)]) (b := m) (rest := [.int (iI 6), .int (iI ((i : Int))), .ref m]) (w := (some (.int (iI ((s.1.length : Int)))))) (st' := [.int (iI ((s.1.length : Int))), .int (iI 6), .int (iI ((i : Int))), .ref m]) kv_X12_addLayer_93 dX12_addLayer_24 rfl rfl (Nat.le_of_ble_eq_true rfl) (Nat.le_of_ble_eq_true rfl) (x_rv hM2.1 hM2.2 rfl) rfl rfl (c_X12_of hM2 hR2 (i := i) (w := 6) (by omega) (by decide) ((upd_n (by omega)).trans hw.2.2.2.2.2.2.1)) rfl (fun h3 e3 => ?_)
  rw [show h3 = h2 from e3]
  refine i_const (1) dX12_addLayer_27 ?_
  refine i_add dX12_addLayer_28 ?_
  refine p_callV (As := [.int (iI ((i : Int))), .int (iI 6), .int (iI ((s.1.length : Int) + 1))]) (b := m) (rest := []) (w := none) (st' := []) kv_X12_addLayer_90 dX12_addLayer_29 rfl rfl (Nat.le_of_ble_eq_true rfl) (Nat.le_of_ble_eq_true rfl) (x_rv hM2.1 hM2.2 rfl) rfl rfl (c_X12_lay hM2 hR2 (i := i) (w := 6) (by omega) (by decide)) rfl (fun h4 e4 => ?_)
  obtain ⟨hR4, F4⟩ := e4
  have hM4 := hM2.row hR2 F4
  refine r_return rfl dX12_addLayer_32 ?_
  have hz := hR4
  exact ⟨rfl, _, hz, hw.push hl x, (EQo.u (by omega)).tr (EQo.u (by omega)), (F2.tr F4)⟩
theorem jz_0 (r : MR) : r_jz r (r.2.2.2.2.2.2.2.1 + b2 false) = r := by
  show r_jz r (r.2.2.2.2.2.2.2.1 + 0) = r
  rw [Int.add_zero]; rfl
set_option maxRecDepth 20000 in
set_option maxHeartbeats 1000000 in
theorem c_X12_putLayer {G : xG} {h : xH} {m : Nat} {a : MA} {r : MR} (hM : MO G h m a r) {g : Nat → Int32} (hR : AR G h r.1 1456 g) {i : Nat} (hi : i ≤ 6) {s : AS} (hw : SWr g (7 + 207 * i) s) (hnz : ∀ y ∈ s.1, y ≠ 0) (h32 : ∀ k, k < s.1.length → in32 (s.1.getD k 0)) {x : Int} (hx : x ≠ 0) (hx32 : in32 x) {mt : Bool} (hroom : s.1.length < 200 ∨ (mt = true ∧ joinsL s.1 x = true)) : CC G MX12_putLayer [.ref m, .int (iI ((i : Int))), .int (iI x), .int (iI (b2 mt))] h (fun o h' => o = .inl none ∧ MO G h' m a (r_jz r (r.2.2.2.2.2.2.2.1 + b2 (putN s.1 x mt).2)) ∧ ∃ g', AR G h' r.1 1456 g' ∧ SWr g' (7 + 207 * i) ((putN s.1 x mt).1, s.2) ∧ EQo i g g' ∧ FRp [m, r.1] h h') := by
  have hl2 := hw.len
  show RR G MX12_putLayer 0 [(0, .ref m), (1, .int (iI ((i : Int)))), (2, .int (iI x)), (3, .int (iI (b2 mt)))] [] h (xm_R MX12_putLayer).cells (xm_R MX12_putLayer).slots (fun o h' => o = .inl none ∧ MO G h' m a (r_jz r (r.2.2.2.2.2.2.2.1 + b2 (putN s.1 x mt).2)) ∧ ∃ g', AR G h' r.1 1456 g' ∧ SWr g' (7 + 207 * i) ((putN s.1 x mt).1, s.2) ∧ EQo i g g' ∧ FRp [m, r.1] h h')
  refine r_aload_n dX12_putLayer_0 0 rfl ?_
  refine r_iload_n dX12_putLayer_1 1 rfl ?_
  refine i_bipush (6) (by decide) dX12_putLayer_2 ?_
  refine p_callV (As := [.int (iI ((i : Int))), .int (iI 6)]) (b := m) (rest := []) (w := (some (.int (iI ((s.1.length : Int)))))) (st' := [.int (iI ((s.1.length : Int)))]) kv_X12_putLayer_93 dX12_putLayer_4 rfl rfl (Nat.le_of_ble_eq_true rfl) (Nat.le_of_ble_eq_true rfl) (x_rv hM.1 hM.2 rfl) rfl rfl (c_X12_of hM hR (i := i) (w := 6) (by omega) (by decide) hw.2.2.2.2.2.2.1) rfl (fun h1 e1 => ?_)
  rw [show h1 = h from e1]
  refine i_const (1) dX12_putLayer_7 ?_
  refine i_sub dX12_putLayer_8 ?_
  refine r_istore (ls' := [(0, .ref m), (1, .int (iI ((i : Int)))), (2, .int (iI x)), (3, .int (iI (b2 mt))), (4, .int (iI ((s.1.length : Int) - 1)))]) dX12_putLayer_9 (by decide) rfl ?_
  refine r_iload_n dX12_putLayer_11 3 rfl ?_
  refine i_ifeqb dX12_putLayer_12 (tgt := 66) (by decide) (fun c12 => ?_) (fun c12 => ?_)
  · refine r_aload_n dX12_putLayer_66 0 rfl ?_
    refine r_iload_n dX12_putLayer_67 1 rfl ?_
    refine r_iload_n dX12_putLayer_68 2 rfl ?_
    have ej : (mt && joinsL s.1 x) = false := by rw [c12]; rfl
    have e : putN s.1 x mt = (s.1 ++ [x], false) := by unfold putN; rw [ej]; rfl
    have hl : s.1.length < 200 := hroom.elim id (fun z => by rw [z.1, z.2] at ej; cases ej)
    refine p_callV (As := [.int (iI ((i : Int))), .int (iI x)]) (b := m) (rest := []) (w := none) (st' := []) kv_X12_putLayer_73 dX12_putLayer_69 rfl rfl (Nat.le_of_ble_eq_true rfl) (Nat.le_of_ble_eq_true rfl) (x_rv hM.1 hM.2 rfl) rfl rfl (c_X12_addLayer hM hR hi hw hl) rfl (fun h2 e2 => ?_)
    obtain ⟨g2, hR2, hw2, E2, F2⟩ := e2
    have hM2 := hM.row hR F2
    have hF2 : FRp [m, r.1] h h2 := FRr F2
    refine r_return rfl dX12_putLayer_72 ?_
    rw [e, jz_0]
    exact ⟨rfl, hM2, g2, hR2, hw2, E2, hF2⟩
  · refine r_iload dX12_putLayer_15 4 rfl ?_
    refine i_iflt dX12_putLayer_17 (tgt := 66) (by decide) (by unfold in32; omega) (fun c17 => ?_) (fun c17 => ?_)
    · refine r_aload_n dX12_putLayer_66 0 rfl ?_
      refine r_iload_n dX12_putLayer_67 1 rfl ?_
      refine r_iload_n dX12_putLayer_68 2 rfl ?_
      have ej : (mt && joinsL s.1 x) = false := by unfold joinsL; rw [show decide (0 < s.1.length) = false from decide_eq_false (by omega)]; simp
      have e : putN s.1 x mt = (s.1 ++ [x], false) := by unfold putN; rw [ej]; rfl
      have hl : s.1.length < 200 := hroom.elim id (fun z => by rw [z.1, z.2] at ej; cases ej)
      refine p_callV (As := [.int (iI ((i : Int))), .int (iI x)]) (b := m) (rest := []) (w := none) (st' := []) kv_X12_putLayer_73 dX12_putLayer_69 rfl rfl (Nat.le_of_ble_eq_true rfl) (Nat.le_of_ble_eq_true rfl) (x_rv hM.1 hM.2 rfl) rfl rfl (c_X12_addLayer hM hR hi hw hl) rfl (fun h3 e3 => ?_)
      obtain ⟨g3, hR3, hw3, E3, F3⟩ := e3
      have hM3 := hM.row hR F3
      have hF3 : FRp [m, r.1] h h3 := FRr F3
      refine r_return rfl dX12_putLayer_72 ?_
      rw [e, jz_0]
      exact ⟨rfl, hM3, g3, hR3, hw3, E3, hF3⟩
    · refine r_aload_n dX12_putLayer_20 0 rfl ?_
      refine r_iload_n dX12_putLayer_21 1 rfl ?_
      refine r_iload dX12_putLayer_22 4 rfl ?_
      refine p_callV (As := [.int (iI ((i : Int))), .int (iI ((s.1.length : Int) - 1))]) (b := m) (rest := []) (w := (some (.int (iI (s.1.getD (s.1.length - 1) 0))))) (st' := [.int (iI (s.1.getD (s.1.length - 1) 0))]) kv_X12_putLayer_97 dX12_putLayer_24 rfl rfl (Nat.le_of_ble_eq_true rfl) (Nat.le_of_ble_eq_true rfl) (x_rv hM.1 hM.2 rfl) rfl rfl (c_X12_layer_z hM hR (i := i) (k := (s.1.length - 1)) (by omega) (by omega) hw (by omega)) rfl (fun h4 e4 => ?_)
      rw [show h4 = h from e4]
      refine r_iload_n dX12_putLayer_27 2 rfl ?_
      refine p_callS (As := [.int (iI (s.1.getD (s.1.length - 1) 0)), .int (iI x)]) (rest := []) (w := (some (.int (iI (b2 (alk (s.1.getD (s.1.length - 1) 0) x)))))) (st' := [.int (iI (b2 (alk (s.1.getD (s.1.length - 1) 0) x)))]) kv_X12_putLayer_100 dX12_putLayer_28 rfl rfl (Nat.le_of_ble_eq_true rfl) (Nat.le_of_ble_eq_true rfl) rfl rfl (c_X12_areAlike (h32 _ (by omega)) hx32) rfl (fun h5 e5 => ?_)
      rw [show h5 = h from e5]
      refine i_ifeqb dX12_putLayer_31 (tgt := 66) (by decide) (fun c31 => ?_) (fun c31 => ?_)
      · refine r_aload_n dX12_putLayer_66 0 rfl ?_
        refine r_iload_n dX12_putLayer_67 1 rfl ?_
        refine r_iload_n dX12_putLayer_68 2 rfl ?_
        have ej : (mt && joinsL s.1 x) = false := by unfold joinsL lastL; rw [← alk_isB (hnz _ (getD_mem (by omega))) hx, c31]; simp
        have e : putN s.1 x mt = (s.1 ++ [x], false) := by unfold putN; rw [ej]; rfl
        have hl : s.1.length < 200 := hroom.elim id (fun z => by rw [z.1, z.2] at ej; cases ej)
        refine p_callV (As := [.int (iI ((i : Int))), .int (iI x)]) (b := m) (rest := []) (w := none) (st' := []) kv_X12_putLayer_73 dX12_putLayer_69 rfl rfl (Nat.le_of_ble_eq_true rfl) (Nat.le_of_ble_eq_true rfl) (x_rv hM.1 hM.2 rfl) rfl rfl (c_X12_addLayer hM hR hi hw hl) rfl (fun h6 e6 => ?_)
        obtain ⟨g6, hR6, hw6, E6, F6⟩ := e6
        have hM6 := hM.row hR F6
        have hF6 : FRp [m, r.1] h h6 := FRr F6
        refine r_return rfl dX12_putLayer_72 ?_
        rw [e, jz_0]
        exact ⟨rfl, hM6, g6, hR6, hw6, E6, hF6⟩
      · refine r_aload_n dX12_putLayer_34 0 rfl ?_
        refine r_iload_n dX12_putLayer_35 1 rfl ?_
        refine i_bipush (7) (by decide) dX12_putLayer_36 ?_
        refine r_iload dX12_putLayer_38 4 rfl ?_
        refine i_add dX12_putLayer_40 ?_
        refine r_aload_n dX12_putLayer_41 0 rfl ?_
        refine r_iload_n dX12_putLayer_42 1 rfl ?_
        refine r_iload dX12_putLayer_43 4 rfl ?_
        refine p_callV (As := [.int (iI ((i : Int))), .int (iI ((s.1.length : Int) - 1))]) (b := m) (rest := [.int (iI (7 + ((s.1.length : Int) - 1))), .int (iI ((i : Int))), .ref m]) (w := (some (.int (iI (s.1.getD (s.1.length - 1) 0))))) (st' := [.int (iI (s.1.getD (s.1.length - 1) 0)), .int (iI (7 + ((s.1.length : Int) - 1))), .int (iI ((i : Int))), .ref m]) kv_X12_putLayer_97 dX12_putLayer_45 rfl rfl (Nat.le_of_ble_eq_true rfl) (Nat.le_of_ble_eq_true rfl) (x_rv hM.1 hM.2 rfl) rfl rfl (c_X12_layer_z hM hR (i := i) (k := (s.1.length - 1)) (by omega) (by omega) hw (by omega)) rfl (fun h7 e7 => ?_)
        rw [show h7 = h from e7]
        refine r_iload_n dX12_putLayer_48 2 rfl ?_
        refine i_add dX12_putLayer_49 ?_
        refine p_callV (As := [.int (iI ((i : Int))), .int (iI (7 + ((s.1.length : Int) - 1))), .int (iI ((s.1.getD (s.1.length - 1) 0) + x))]) (b := m) (rest := []) (w := none) (st' := []) kv_X12_putLayer_90 dX12_putLayer_50 rfl rfl (Nat.le_of_ble_eq_true rfl) (Nat.le_of_ble_eq_true rfl) (x_rv hM.1 hM.2 rfl) rfl rfl (c_X12_lay_z hM hR (i := i) (w := 7 + (s.1.length - 1)) (by omega) (by omega) (by omega)) rfl (fun h8 e8 => ?_)
        obtain ⟨hR8, F8⟩ := e8
        have hM8 := hM.row hR F8
        have hF8 : FRp [m, r.1] h h8 := FRr F8
        refine r_aload_n dX12_putLayer_53 0 rfl ?_
        refine r_dup dX12_putLayer_54 rfl ?_
        refine m_g_jz (v := r.2.2.2.2.2.2.2.1) hM8 rfl kf_X12_104 dX12_putLayer_55 ?_
        refine i_const (1) dX12_putLayer_58 ?_
        refine i_add dX12_putLayer_59 ?_
        refine m_p_jz (v := r.2.2.2.2.2.2.2.1 + 1) hM8 kf_X12_104 dX12_putLayer_60 (fun h9 hM9 F9 => ?_)
        have hR9 := hR8.obj hM8 F9
        have hF9 := hF8.tr (FRm F9)
        refine r_goto dX12_putLayer_63 (tgt := 72) (by decide) ?_
        refine r_return rfl dX12_putLayer_72 ?_
        have ej : (mt && joinsL s.1 x) = true := by unfold joinsL lastL; rw [c12, ← alk_isB (hnz _ (getD_mem (by omega))) hx, c31, decide_eq_true (by omega)]; rfl
        have e : putN s.1 x mt = (s.1.set (s.1.length - 1) (lastL s.1 + x), true) := by unfold putN; rw [ej]; rfl
        rw [e]
        exact ⟨rfl, hM9, _, hR9, hw.top (by omega) _, EQo.u (by omega), hF9⟩
set_option maxRecDepth 20000 in
set_option maxHeartbeats 1000000 in
theorem c_X12_copySheet {G : xG} {h : xH} {m : Nat} {a : MA} {r : MR} (hM : MO G h m a r) {g : Nat → Int32} (hR : AR G h r.1 1456 g) {i j : Nat} (hi : i ≤ 6) (hj : j ≤ 6) {s : AS} (hw : SWr g (7 + 207 * i) s) : CC G MX12_copySheet [.ref m, .int (iI ((i : Int))), .int (iI ((j : Int)))] h (fun o h' => o = .inl none ∧ ∃ g', AR G h' r.1 1456 g' ∧ SWr g' (7 + 207 * j) s ∧ EQo j g g' ∧ FRp [r.1] h h') := by
  show RR G MX12_copySheet 0 [(0, .ref m), (1, .int (iI ((i : Int)))), (2, .int (iI ((j : Int))))] [] h (xm_R MX12_copySheet).cells (xm_R MX12_copySheet).slots (fun o h' => o = .inl none ∧ ∃ g', AR G h' r.1 1456 g' ∧ SWr g' (7 + 207 * j) s ∧ EQo j g g' ∧ FRp [r.1] h h')
  refine r_aload_n dX12_copySheet_0 0 rfl ?_
  refine m_g_rr (v := r.1) hM rfl kf_X12_25 dX12_copySheet_1 ?_
  refine r_iload_n dX12_copySheet_4 1 rfl ?_
  refine p_callS (As := [.int (iI ((i : Int)))]) (rest := [.ref r.1]) (w := (some (.int (iI (7 + 207 * (i : Int)))))) (st' := [.int (iI (7 + 207 * (i : Int))), .ref r.1]) kv_X12_copySheet_86 dX12_copySheet_5 rfl rfl (Nat.le_of_ble_eq_true rfl) (Nat.le_of_ble_eq_true rfl) rfl rfl (c_X12_at) rfl (fun h1 e1 => ?_)
  rw [show h1 = h from e1]
  refine r_aload_n dX12_copySheet_8 0 rfl ?_
  refine m_g_rr (v := r.1) hM rfl kf_X12_25 dX12_copySheet_9 ?_
  refine r_iload_n dX12_copySheet_12 2 rfl ?_
  refine p_callS (As := [.int (iI ((j : Int)))]) (rest := [.ref r.1, .int (iI (7 + 207 * (i : Int))), .ref r.1]) (w := (some (.int (iI (7 + 207 * (j : Int)))))) (st' := [.int (iI (7 + 207 * (j : Int))), .ref r.1, .int (iI (7 + 207 * (i : Int))), .ref r.1]) kv_X12_copySheet_86 dX12_copySheet_13 rfl rfl (Nat.le_of_ble_eq_true rfl) (Nat.le_of_ble_eq_true rfl) rfl rfl (c_X12_at) rfl (fun h2 e2 => ?_)
  rw [show h2 = h from e2]
  refine i_sipush (207) (by decide) dX12_copySheet_16 ?_
  refine m_cp (7 + 207 * i) (7 + 207 * j) 207 (by omega) (by omega) rfl (kv_X12_copySheet_115 0 (by decide)) rfl dX12_copySheet_19 hR hR (by omega) (by omega) (by decide) (by decide) (fun h3 hR3 F3 => ?_)
  have hM3 := hM.row hR F3
  refine r_return rfl dX12_copySheet_22 ?_
  have hz := hR3
  exact ⟨rfl, _, hz, hw.mv (fun k hk => by unfold va_cpy; rw [if_pos (by omega)]; exact congrArg g (by omega)), fun k hk => if_neg (by omega), F3⟩
theorem SWr.new {g : Nat → Int32} {b : Nat} {T : Int} (h0 : g (b + 0) = iI T) (z : ∀ j, 1 ≤ j → j < 7 → g (b + j) = iI 0) : SWr g b (bgS T) := ⟨h0, z 1 (by omega) (by omega), z 2 (by omega) (by omega), z 3 (by omega) (by omega), z 4 (by omega) (by omega), z 5 (by omega) (by omega), z 6 (by omega) (by omega), Nat.zero_le _, fun k hk => absurd hk (Nat.not_lt_zero _)⟩
set_option maxRecDepth 20000 in
set_option maxHeartbeats 1000000 in
theorem c_X12_startSheet {G : xG} {h : xH} {m : Nat} {a : MA} {r : MR} (hM : MO G h m a r) {g : Nat → Int32} (hR : AR G h r.1 1456 g) {i : Nat} (hi : i ≤ 6) {T : Int} : CC G MX12_startSheet [.ref m, .int (iI (i : Int)), .int (iI T)] h (fun o h' => o = .inl none ∧ ∃ g', AR G h' r.1 1456 g' ∧ SWr g' (7 + 207 * i) (bgS T) ∧ EQo i g g' ∧ FRp [r.1] h h') := by
  have L : ∀ k, k ≤ 7 → ∀ (h1 : xH) (g1 : Nat → Int32), MO G h1 m a r → AR G h1 r.1 1456 g1 → (∀ j, j < k → g1 (7 + 207 * i + j) = iI 0) → EQo i g g1 → FRp [r.1] h h1 → RR G MX12_startSheet 2 [(0, .ref m), (1, .int (iI ((i : Int)))), (2, .int (iI T)), (3, .int (iI ((k : Int))))] [] h1 (xm_R MX12_startSheet).cells (xm_R MX12_startSheet).slots (fun o h' => o = .inl none ∧ ∃ g', AR G h' r.1 1456 g' ∧ SWr g' (7 + 207 * i) (bgS T) ∧ EQo i g g' ∧ FRp [r.1] h h') := by
    refine down (fun k hk ih => ?_)
    intro h1 g1 hM1 hR1 z1 E1 F1
    refine r_iload_n dX12_startSheet_2 3 rfl ?_
    refine i_bipush (7) (by decide) dX12_startSheet_3 ?_
    refine i_icmpge dX12_startSheet_5 (tgt := 21) (by decide) (by unfold in32; omega) ⟨by decide, by decide⟩ (fun c5 => ?_) (fun c5 => ?_)
    · refine r_aload_n dX12_startSheet_21 0 rfl ?_
      refine r_iload_n dX12_startSheet_22 1 rfl ?_
      refine i_const (0) dX12_startSheet_23 ?_
      refine r_iload_n dX12_startSheet_24 2 rfl ?_
      refine p_callV (As := [.int (iI ((i : Int))), .int (iI 0), .int (iI T)]) (b := m) (rest := []) (w := none) (st' := []) kv_X12_startSheet_90 dX12_startSheet_25 rfl rfl (Nat.le_of_ble_eq_true rfl) (Nat.le_of_ble_eq_true rfl) (x_rv hM1.1 hM1.2 rfl) rfl rfl (c_X12_lay hM1 hR1 (i := i) (w := 0) (by omega) (by omega)) rfl (fun h11 e11 => ?_)
      obtain ⟨hR11, F11⟩ := e11
      have hM11 := hM1.row hR1 F11
      refine r_return rfl dX12_startSheet_28 ?_
      have hz := hR11
      exact ⟨rfl, _, hz, SWr.new upd_s (fun j h1 h2 => (upd_n (by omega)).trans (z1 j (by omega))), E1.tr (EQo.u (by omega)), (F1.tr F11)⟩
    · refine r_aload_n dX12_startSheet_8 0 rfl ?_
      refine r_iload_n dX12_startSheet_9 1 rfl ?_
      refine r_iload_n dX12_startSheet_10 3 rfl ?_
      refine i_const (0) dX12_startSheet_11 ?_
      refine p_callV (As := [.int (iI ((i : Int))), .int (iI ((k : Int))), .int (iI 0)]) (b := m) (rest := []) (w := none) (st' := []) kv_X12_startSheet_90 dX12_startSheet_12 rfl rfl (Nat.le_of_ble_eq_true rfl) (Nat.le_of_ble_eq_true rfl) (x_rv hM1.1 hM1.2 rfl) rfl rfl (c_X12_lay hM1 hR1 (i := i) (w := k) (by omega) (by omega)) rfl (fun h12 e12 => ?_)
      obtain ⟨hR12, F12⟩ := e12
      have hM12 := hM1.row hR1 F12
      refine i_iinc (ls' := [(0, .ref m), (1, .int (iI ((i : Int)))), (2, .int (iI T)), (3, .int (iI ((k : Int) + 1)))]) (1) (v := (k : Int) + 1) dX12_startSheet_15 3 rfl (by omega) (by decide) rfl ?_
      refine r_goto dX12_startSheet_18 (tgt := 2) (by decide) ?_
      exact ih (k + 1) (by omega) (by omega) h12 _ hM12 hR12 (fun j hj => (Decidable.em (j = k)).elim (fun c => by subst c; exact upd_s) (fun c => (upd_n (by omega)).trans (z1 j (by omega)))) (E1.tr (EQo.u (by omega))) (F1.tr F12)
  show RR G MX12_startSheet 0 [(0, .ref m), (1, .int (iI ((i : Int)))), (2, .int (iI T))] [] h (xm_R MX12_startSheet).cells (xm_R MX12_startSheet).slots (fun o h' => o = .inl none ∧ ∃ g', AR G h' r.1 1456 g' ∧ SWr g' (7 + 207 * i) (bgS T) ∧ EQo i g g' ∧ FRp [r.1] h h')
  refine i_const (0) dX12_startSheet_0 ?_
  refine r_istore_n (ls' := [(0, .ref m), (1, .int (iI ((i : Int)))), (2, .int (iI T)), (3, .int (iI 0))]) dX12_startSheet_1 (by decide) rfl ?_
  exact L 0 (by omega) h g hM hR (fun j hj => absurd hj (Nat.not_lt_zero _)) EQo.rf FRp.rf
