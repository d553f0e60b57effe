/-! ===== the reference: a bench that begins, its layers ===== -/
theorem RWf.new {g : Nat → Int32} {ro me fl : Int} (h0 : g 0 = iI ro) (h1 : g 1 = iI me) (h2 : g 2 = iI fl) (z : ∀ k, 3 ≤ k → k < 1456 → g k = iI 0) : RWf g 0 ((ro, me, fl, 0, 0, 0), []) := by
  refine ⟨⟨⟨h0, h1, h2, z 3 (by omega) (by omega), z 4 (by omega) (by omega), z 5 (by omega) (by omega), z 6 (by omega) (by omega)⟩, Nat.zero_le _, fun i hi => absurd hi (Nat.not_lt_zero i)⟩, bgS 0, SWr.new (z _ (by omega) (by omega)) (fun j h1 h2 => z _ (by omega) (by omega))⟩
theorem AR.rk {G : xG} {h : xH} {r r' : MR} {n : Nat} {g : Nat → Int32} (hR : AR G h r.1 n g) (hK : RT r r') : AR G h r'.1 n g := by rw [hK.1.1]; exact hR
def exS (s : AS) : AS := (s.1, (s.1.length : Int), s.2.2.1, s.2.2.2.1, s.2.2.2.2.1, s.2.2.2.2.2.1, s.2.2.2.2.2.2)
def exM (j : Nat) (L : List AS) : List AS := (L.take j).map exS ++ L.drop j
theorem exM_0 (L : List AS) : exM 0 L = L := by simp [exM]
theorem exM_all (L : List AS) : exM L.length L = L.map exS := by simp [exM]
theorem exM_len (j : Nat) (L : List AS) : (exM j L).length = L.length := by simp [exM]; omega
theorem exM_get {j : Nat} {L : List AS} (h : j < L.length) : (exM j L).getD j dS = L.getD j dS := by
  unfold exM
  rw [List.getD_eq_getElem?_getD, List.getElem?_append_right (by simp; omega)]
  simp
  rw [show j + (j - min j L.length) = j by omega]
theorem exM_s {j : Nat} {L : List AS} (h : j < L.length) : (exM j L).set j (exS (L.getD j dS)) = exM (j + 1) L := by
  unfold exM
  have e1 : L.drop j = L.getD j dS :: L.drop (j + 1) := by rw [List.drop_eq_getElem_cons h, getD_eqS h]
  rw [e1, List.set_append_right _ _ (by simp; omega), take_sS h]
  simp [Nat.min_eq_left (Nat.le_of_lt h)]
set_option maxRecDepth 20000 in
set_option maxHeartbeats 1000000 in
theorem c_X12_begin {G : xG} {h : xH} {m : Nat} {a : MA} {r : MR} (hM : MO G h m a r) {g : Nat → Int32} (hR : AR G h r.1 1456 g) {ro me fl : Int} : CC G MX12_begin [.ref m, .int (iI ro), .int (iI me), .int (iI fl)] h (fun o h' => o = .inl none ∧ ∃ g', AR G h' r.1 1456 g' ∧ RWf g' 0 ((ro, me, fl, 0, 0, 0), []) ∧ FRp [r.1] h h') := by
  have L : ∀ k, k ≤ 1456 → ∀ (h1 : xH) (g1 : Nat → Int32), MO G h1 m a r → AR G h1 r.1 1456 g1 → (∀ j, j < k → g1 j = iI 0) → FRp [r.1] h h1 → RR G MX12_begin 3 [(0, .ref m), (1, .int (iI ro)), (2, .int (iI me)), (3, .int (iI fl)), (4, .int (iI ((k : Int))))] [] h1 (xm_R MX12_begin).cells (xm_R MX12_begin).slots (fun o h' => o = .inl none ∧ ∃ g', AR G h' r.1 1456 g' ∧ RWf g' 0 ((ro, me, fl, 0, 0, 0), []) ∧ FRp [r.1] h h') := by
    refine down (fun k hk ih => ?_)
    intro h1 g1 hM1 hR1 z1 F1
    refine r_iload dX12_begin_3 4 rfl ?_
    refine i_sipush (1456) (by decide) dX12_begin_5 ?_
    refine i_icmpge dX12_begin_8 (tgt := 25) (by decide) (by unfold in32; omega) ⟨by decide, by decide⟩ (fun c8 => ?_) (fun c8 => ?_)
    · refine r_aload_n dX12_begin_25 0 rfl ?_
      refine m_g_rr (v := r.1) hM1 rfl kf_X12_25 dX12_begin_26 ?_
      refine i_const (0) dX12_begin_29 ?_
      refine r_iload_n dX12_begin_30 1 rfl ?_
      refine m_st 0 rfl hR1 dX12_begin_31 (by omega) (by decide) (fun h11 hR11 F11 => ?_)
      have hM11 := hM1.row hR1 F11
      refine r_aload_n dX12_begin_32 0 rfl ?_
      refine m_g_rr (v := r.1) hM11 rfl kf_X12_25 dX12_begin_33 ?_
      refine i_const (1) dX12_begin_36 ?_
      refine r_iload_n dX12_begin_37 2 rfl ?_
      refine m_st 1 rfl hR11 dX12_begin_38 (by omega) (by decide) (fun h12 hR12 F12 => ?_)
      have hM12 := hM11.row hR11 F12
      refine r_aload_n dX12_begin_39 0 rfl ?_
      refine m_g_rr (v := r.1) hM12 rfl kf_X12_25 dX12_begin_40 ?_
      refine i_const (2) dX12_begin_43 ?_
      refine r_iload_n dX12_begin_44 3 rfl ?_
      refine m_st 2 rfl hR12 dX12_begin_45 (by omega) (by decide) (fun h13 hR13 F13 => ?_)
      have hM13 := hM12.row hR12 F13
      refine r_return rfl dX12_begin_46 ?_
      have hz := hR13
      exact ⟨rfl, _, hz, RWf.new ((upd_n (by decide)).trans ((upd_n (by decide)).trans upd_s)) ((upd_n (by decide)).trans upd_s) upd_s (fun j h1 h2 => (upd_n (by omega)).trans ((upd_n (by omega)).trans ((upd_n (by omega)).trans (z1 j (by omega))))), (((F1.tr F11).tr F12).tr F13)⟩
    · refine r_aload_n dX12_begin_11 0 rfl ?_
      refine m_g_rr (v := r.1) hM1 rfl kf_X12_25 dX12_begin_12 ?_
      refine r_iload dX12_begin_15 4 rfl ?_
      refine i_const (0) dX12_begin_17 ?_
      refine m_st k rfl hR1 dX12_begin_18 (by omega) (by decide) (fun h14 hR14 F14 => ?_)
      have hM14 := hM1.row hR1 F14
      refine i_iinc (ls' := [(0, .ref m), (1, .int (iI ro)), (2, .int (iI me)), (3, .int (iI fl)), (4, .int (iI ((k : Int) + 1)))]) (1) (v := (k : Int) + 1) dX12_begin_19 4 rfl (by omega) (by decide) rfl ?_
      refine r_goto dX12_begin_22 (tgt := 3) (by decide) ?_
      exact ih (k + 1) (by omega) (by omega) h14 _ hM14 hR14 (fun j hj => (Decidable.em (j = k)).elim (fun c => by rw [c]; exact upd_s) (fun c => (upd_n c).trans (z1 j (by omega)))) (F1.tr F14)
  show RR G MX12_begin 0 [(0, .ref m), (1, .int (iI ro)), (2, .int (iI me)), (3, .int (iI fl))] [] h (xm_R MX12_begin).cells (xm_R MX12_begin).slots (fun o h' => o = .inl none ∧ ∃ g', AR G h' r.1 1456 g' ∧ RWf g' 0 ((ro, me, fl, 0, 0, 0), []) ∧ FRp [r.1] h h')
  refine i_const (0) dX12_begin_0 ?_
  refine r_istore (ls' := [(0, .ref m), (1, .int (iI ro)), (2, .int (iI me)), (3, .int (iI fl)), (4, .int (iI 0))]) dX12_begin_1 (by decide) rfl ?_
  exact L 0 (by omega) h g hM hR (fun j hj => absurd hj (Nat.not_lt_zero j)) FRp.rf
set_option maxRecDepth 20000 in
set_option maxHeartbeats 1000000 in
theorem c_X12_expectLayers {G : xG} {h : xH} {m : Nat} {a : MA} {r : MR} (hM : MO G h m a r) {g : Nat → Int32} (hR : AR G h r.1 1456 g) {B : AB} (hRW : RWf g 0 B) : CC G MX12_expectLayers [.ref m] h (fun o h' => o = .inl none ∧ ∃ g', AR G h' r.1 1456 g' ∧ RWf g' 0 (B.1, B.2.map exS) ∧ FRp [r.1] h h') := by
  have hn6 := hRW.1.2.1
  have L : ∀ j, j ≤ B.2.length → ∀ (h1 : xH) (g1 : Nat → Int32), MO G h1 m a r → AR G h1 r.1 1456 g1 → RWf g1 0 (B.1, exM j B.2) → FRp [r.1] h h1 → RR G MX12_expectLayers 2 [(0, .ref m), (1, .int (iI ((j : Int))))] [] h1 (xm_R MX12_expectLayers).cells (xm_R MX12_expectLayers).slots (fun o h' => o = .inl none ∧ ∃ g', AR G h' r.1 1456 g' ∧ RWf g' 0 (B.1, B.2.map exS) ∧ FRp [r.1] h h') := by
    refine down (fun j hj9 ih => ?_)
    intro h1 g1 hM1 hR1 hRW1 F1
    have hel := exM_len j B.2
    refine r_iload_n dX12_expectLayers_2 1 rfl ?_
    refine r_aload_n dX12_expectLayers_3 0 rfl ?_
    refine m_g_rr (v := r.1) hM1 rfl kf_X12_25 dX12_expectLayers_4 ?_
    refine i_const (3) dX12_expectLayers_7 ?_
    refine m_ld (v := iI (((exM j B.2).length : Int))) 3 rfl hRW1.1.1.2.2.2.1 hR1 dX12_expectLayers_8 (by omega) (by decide) ?_
    refine i_icmpge dX12_expectLayers_9 (tgt := 31) (by decide) (by unfold in32; omega) (by unfold in32; omega) (fun c9 => ?_) (fun c9 => ?_)
    · refine r_return rfl dX12_expectLayers_31 ?_
      rw [show j = B.2.length by omega, exM_all] at hRW1
      exact ⟨rfl, g1, hR1, hRW1, F1⟩
    · have hwj := hRW1.1.s (i := j) (by rw [exM_len]; omega)
      rw [show ((B.1, exM j B.2) : AB).2.getD j dS = B.2.getD j dS from exM_get (by omega)] at hwj
      refine r_aload_n dX12_expectLayers_12 0 rfl ?_
      refine r_iload_n dX12_expectLayers_13 1 rfl ?_
      refine i_const (5) dX12_expectLayers_14 ?_
      refine r_aload_n dX12_expectLayers_15 0 rfl ?_
      refine r_iload_n dX12_expectLayers_16 1 rfl ?_
      refine i_bipush (6) (by decide) dX12_expectLayers_17 ?_
      refine p_callV (As := [.int (iI ((j : Int))), .int (iI 6)]) (b := m) (rest := [.int (iI 5), .int (iI ((j : Int))), .ref m]) (w := (some (.int (iI ((((B.2.getD j dS).1).length : Int)))))) (st' := [.int (iI ((((B.2.getD j dS).1).length : Int))), .int (iI 5), .int (iI ((j : Int))), .ref m]) kv_X12_expectLayers_93 dX12_expectLayers_19 rfl rfl (Nat.le_of_ble_eq_true rfl) (Nat.le_of_ble_eq_true rfl) (x_rv hM1.1 hM1.2 rfl) rfl rfl (c_X12_of hM1 hR1 (i := j) (w := 6) (by omega) (by decide) hwj.2.2.2.2.2.2.1) rfl (fun h11 e11 => ?_)
      rw [show h11 = h1 from e11]
      refine p_callV (As := [.int (iI ((j : Int))), .int (iI 5), .int (iI ((((B.2.getD j dS).1).length : Int)))]) (b := m) (rest := []) (w := none) (st' := []) kv_X12_expectLayers_90 dX12_expectLayers_22 rfl rfl (Nat.le_of_ble_eq_true rfl) (Nat.le_of_ble_eq_true rfl) (x_rv hM1.1 hM1.2 rfl) rfl rfl (c_X12_lay_5 hM1 hR1 (i := j) (by omega) hwj (v := (((B.2.getD j dS).1).length : Int))) rfl (fun h12 e12 => ?_)
      obtain ⟨g12, hR12, hw12, E12, F12⟩ := e12
      have hM12 := hM1.row hR1 F12
      refine i_iinc (ls' := [(0, .ref m), (1, .int (iI ((j : Int) + 1)))]) (1) (v := (j : Int) + 1) dX12_expectLayers_25 1 rfl (by omega) (by decide) rfl ?_
      refine r_goto dX12_expectLayers_28 (tgt := 2) (by decide) ?_
      have hx := hRW1.set (i := j) (by rw [exM_len]; omega) hw12 E12
      rw [show ((B.2.getD j dS).1, ((B.2.getD j dS).1.length : Int), (B.2.getD j dS).2.2.1, (B.2.getD j dS).2.2.2.1, (B.2.getD j dS).2.2.2.2.1, (B.2.getD j dS).2.2.2.2.2.1, (B.2.getD j dS).2.2.2.2.2.2) = exS (B.2.getD j dS) from rfl, exM_s (by omega)] at hx
      exact ih (j + 1) (by omega) (by omega) h12 g12 hM12 hR12 hx (F1.tr F12)
  show RR G MX12_expectLayers 0 [(0, .ref m)] [] h (xm_R MX12_expectLayers).cells (xm_R MX12_expectLayers).slots (fun o h' => o = .inl none ∧ ∃ g', AR G h' r.1 1456 g' ∧ RWf g' 0 (B.1, B.2.map exS) ∧ FRp [r.1] h h')
  refine i_const (0) dX12_expectLayers_0 ?_
  refine r_istore_n (ls' := [(0, .ref m), (1, .int (iI 0))]) dX12_expectLayers_1 (by decide) rfl ?_
  exact L 0 (by omega) h g hM hR (by rw [exM_0]; exact hRW) FRp.rf
theorem c_X12_isLayerHere_b {G : xG} {h : xH} {m : Nat} {a : MA} {r : MR} (hM : MO G h m a r) {T : List Int} {p : Nat} {o : Int} (hT : TS r T p 0 o) {gi : Nat → Int32} (hA : AR G h a.2.2.2.2.2.2.1 500 gi) (hl5 : T.length ≤ 500) (hg : ∀ k, k < T.length → gi k = iI (T.getD k 0)) (hb : BYT T) {sa : Nat → Nat} (hGT : GT G sa) {v : Bool} (hv : isLW T p = v) : CC G MX12_isLayerHere [.ref m] h (qI (b2 v) h) := by
  subst hv; exact c_X12_isLayerHere_k hM hT hA hl5 hg hb hGT
theorem sLay_inv {T : List Int} {p : Nat} {x : Int} {q : Nat} (h : sLayer T p = .inr (x, q)) : isLW T p = true ∧ ∃ v, sNum T (tokAt T p).2.2 1 400 = .inr (v, q) ∧ x = (if isW T (tokAt T p) (txS 3) then -v else v) := by
  unfold sLayer at h
  split at h
  · rename_i c
    refine ⟨c, ?_⟩
    split at h
    · cases h
    · rename_i a e
      obtain ⟨a1, a2⟩ := a
      cases h
      exact ⟨a1, e, rfl⟩
  · cases h
theorem sLay_bad {T : List Int} {p : Nat} {c off : Int} (h : sLayer T p = .inl (c, off)) : (isLW T p = false ∧ c = 1 ∧ off = ((tokAt T p).2.1 : Int)) ∨ (isLW T p = true ∧ sNum T (tokAt T p).2.2 1 400 = .inl (c, off)) := by
  unfold sLayer at h
  split at h
  · rename_i d
    right
    refine ⟨d, ?_⟩
    split at h
    · rename_i e he; cases h; exact he
    · cases h
  · rename_i d
    left
    cases h
    exact ⟨by simpa using d, rfl, rfl⟩
set_option maxRecDepth 20000 in
set_option maxHeartbeats 1000000 in
theorem c_X12_readLayer_ok {G : xG} {h : xH} {m : Nat} {a : MA} {r : MR} (hM : MO G h m a r) {g : Nat → Int32} (hR : AR G h r.1 1456 g) {T : List Int} {p : Nat} {o : Int} (hT : TS r T p 0 o) {gi : Nat → Int32} (hA : AR G h a.2.2.2.2.2.2.1 500 gi) (hl5 : T.length ≤ 500) (hg : ∀ k, k < T.length → gi k = iI (T.getD k 0)) (hb : BYT T) {sa : Nat → Nat} (hGT : GT G sa) {i : Nat} (hi : i < 6) {s : AS} (hw : SWr g (7 + 207 * i) s) {x : Int} {q : Nat} (hs : sLayer T p = .inr (x, q)) (hn9 : s.1.length < 9) : CC G MX12_readLayer [.ref m, .int (iI ((i : Int)))] h (fun o9 h' => o9 = .inl none ∧ ∃ r' g', MO G h' m a r' ∧ RT r r' ∧ TS r' T q 0 o ∧ AR G h' r.1 1456 g' ∧ SWr g' (7 + 207 * i) (s.1 ++ [x], s.2) ∧ EQo i g g' ∧ FRp [m, r.1] h h') := by
  obtain ⟨hlw, v, hsn, hx0⟩ := sLay_inv hs
  have hvb := sNum_t hsn
  show RR G MX12_readLayer 0 [(0, .ref m), (1, .int (iI ((i : Int))))] [] h (xm_R MX12_readLayer).cells (xm_R MX12_readLayer).slots (fun o9 h' => o9 = .inl none ∧ ∃ r' g', MO G h' m a r' ∧ RT r r' ∧ TS r' T q 0 o ∧ AR G h' r.1 1456 g' ∧ SWr g' (7 + 207 * i) (s.1 ++ [x], s.2) ∧ EQo i g g' ∧ FRp [m, r.1] h h')
  refine r_aload_n dX12_readLayer_0 0 rfl ?_
  refine r_aload_n dX12_readLayer_1 0 rfl ?_
  refine p_callV (As := []) (b := m) (rest := [.ref m]) (w := (some (.int (iI (b2 true))))) (st' := [.int (iI (b2 true)), .ref m]) kv_X12_readLayer_353 dX12_readLayer_2 rfl rfl (Nat.le_of_ble_eq_true rfl) (Nat.le_of_ble_eq_true rfl) (x_rv hM.1 hM.2 rfl) rfl rfl (c_X12_isLayerHere_b hM hT hA hl5 hg hb hGT hlw) rfl (fun h1 e1 => ?_)
  rw [show h1 = h from e1]
  refine i_const (1) dX12_readLayer_5 ?_
  refine p_callV (As := [.int (iI (b2 true)), .int (iI 1)]) (b := m) (rest := []) (w := none) (st' := []) kv_X12_readLayer_329 dX12_readLayer_6 rfl rfl (Nat.le_of_ble_eq_true rfl) (Nat.le_of_ble_eq_true rfl) (x_rv hM.1 hM.2 rfl) rfl rfl (c_X12_check_t hM hT) rfl (fun h2 e2 => ?_)
  obtain ⟨r2, hM2, hK2, hT2, F2⟩ := e2
  have hA2 := hA.obj hM F2
  have hQ2 := hK2
  have hZ2 := F2
  have hR2 := hR.obj hM F2
  refine r_aload_n dX12_readLayer_9 0 rfl ?_
  refine r_aload_n dX12_readLayer_10 0 rfl ?_
  refine m_g_er (v := 0) hM2 hT2.2.2.2.2.2.1 kf_X12_303 dX12_readLayer_11 ?_
  refine i_ifne dX12_readLayer_14 (tgt := 29) (by decide) ⟨by decide, by decide⟩ (fun c => absurd c (by decide)) (fun _ => ?_)
  refine r_aload_n dX12_readLayer_17 0 rfl ?_
  refine r_iload_n dX12_readLayer_18 1 rfl ?_
  refine i_bipush (6) (by decide) dX12_readLayer_19 ?_
  refine p_callV (As := [.int (iI ((i : Int))), .int (iI 6)]) (b := m) (rest := [.ref m]) (w := (some (.int (iI ((s.1.length : Int)))))) (st' := [.int (iI ((s.1.length : Int))), .ref m]) kv_X12_readLayer_93 dX12_readLayer_21 rfl rfl (Nat.le_of_ble_eq_true rfl) (Nat.le_of_ble_eq_true rfl) (x_rv hM2.1 hM2.2 rfl) rfl rfl (c_X12_of hM2 (AR.rk hR2 hQ2) (i := i) (w := 6) (by omega) (by decide) hw.2.2.2.2.2.2.1) rfl (fun h3 e3 => ?_)
  rw [show h3 = h2 from e3]
  refine i_bipush (9) (by decide) dX12_readLayer_24 ?_
  refine i_icmpge dX12_readLayer_26 (tgt := 33) (by decide) (by unfold in32; omega) ⟨by decide, by decide⟩ (fun c => absurd c (by omega)) (fun _ => ?_)
  refine i_const (1) dX12_readLayer_29 ?_
  refine r_goto dX12_readLayer_30 (tgt := 34) (by decide) ?_
  refine i_const (3) dX12_readLayer_34 ?_
  refine p_callV (As := [.int (iI 1), .int (iI 3)]) (b := m) (rest := []) (w := none) (st' := []) kv_X12_readLayer_329 dX12_readLayer_35 rfl rfl (Nat.le_of_ble_eq_true rfl) (Nat.le_of_ble_eq_true rfl) (x_rv hM2.1 hM2.2 rfl) rfl rfl (c_X12_check_t hM2 hT2) rfl (fun h4 e4 => ?_)
  obtain ⟨r4, hM4, hK4, hT4, F4⟩ := e4
  have hA4 := hA2.obj hM2 F4
  have hQ4 := hQ2.tr hK4
  have hZ4 := hZ2.tr F4
  have hR4 := hR2.obj hM2 F4
  refine r_aload_n dX12_readLayer_38 0 rfl ?_
  refine r_ldcSW (hGT.2.2 ("PastryBenchModel", 351, "butter", 3) (List.mem_of_getElem? (i := 14) rfl)) rfl dX12_readLayer_39 ?_
  refine p_callV (As := [.ref (sa 3)]) (b := m) (rest := []) (w := (some (.int (iI (b2 (isW T (tokAt T p) (txS 3))))))) (st' := [.int (iI (b2 (isW T (tokAt T p) (txS 3))))]) kv_X12_readLayer_322 dX12_readLayer_42 rfl rfl (Nat.le_of_ble_eq_true rfl) (Nat.le_of_ble_eq_true rfl) (x_rv hM4.1 hM4.2 rfl) rfl rfl (c_X12_isWord_k hM4 hT4 hA4 hl5 hg hb hGT.1 (hGT.2.1 3 (by decide))) rfl (fun h5 e5 => ?_)
  rw [show h5 = h4 from e5]
  refine r_istore_n (ls' := [(0, .ref m), (1, .int (iI ((i : Int)))), (2, .int (iI (b2 (isW T (tokAt T p) (txS 3)))))]) dX12_readLayer_45 (by decide) rfl ?_
  refine r_aload_n dX12_readLayer_46 0 rfl ?_
  refine p_callV (As := []) (b := m) (rest := []) (w := none) (st' := []) kv_X12_readLayer_333 dX12_readLayer_47 rfl rfl (Nat.le_of_ble_eq_true rfl) (Nat.le_of_ble_eq_true rfl) (x_rv hM4.1 hM4.2 rfl) rfl rfl (c_X12_advance_k hM4 hT4 hA4 hl5 hg hb) rfl (fun h6 e6 => ?_)
  obtain ⟨r6, hM6, hK6, hT6, F6⟩ := e6
  have hA6 := hA4.obj hM4 F6
  have hQ6 := hQ4.tr hK6
  have hZ6 := hZ4.tr F6
  have hR6 := hR4.obj hM4 F6
  refine r_aload_n dX12_readLayer_50 0 rfl ?_
  refine i_const (1) dX12_readLayer_51 ?_
  refine i_sipush (400) (by decide) dX12_readLayer_52 ?_
  refine p_callV (As := [.int (iI 1), .int (iI 400)]) (b := m) (rest := []) (w := (some (.int (iI v)))) (st' := [.int (iI v)]) kv_X12_readLayer_357 dX12_readLayer_55 rfl rfl (Nat.le_of_ble_eq_true rfl) (Nat.le_of_ble_eq_true rfl) (x_rv hM6.1 hM6.2 rfl) rfl rfl (t_X12_readNumber_ok hM6 hT6 hA6 hl5 hg hb ⟨by decide, by decide⟩ ⟨by decide, by decide⟩ hsn) rfl (fun h7 e7 => ?_)
  obtain ⟨r7, hM7, hK7, hT7, F7⟩ := e7
  have hA7 := hA6.obj hM6 F7
  have hQ7 := hQ6.tr hK7
  have hZ7 := hZ6.tr F7
  have hR7 := hR6.obj hM6 F7
  refine r_istore_n (ls' := [(0, .ref m), (1, .int (iI ((i : Int)))), (2, .int (iI (b2 (isW T (tokAt T p) (txS 3))))), (3, .int (iI v))]) dX12_readLayer_58 (by decide) rfl ?_
  refine r_aload_n dX12_readLayer_59 0 rfl ?_
  refine m_g_er (v := 0) hM7 hT7.2.2.2.2.2.1 kf_X12_303 dX12_readLayer_60 ?_
  refine i_ifne dX12_readLayer_63 (tgt := 81) (by decide) ⟨by decide, by decide⟩ (fun c => absurd c (by decide)) (fun _ => ?_)
  refine r_aload_n dX12_readLayer_66 0 rfl ?_
  refine r_iload_n dX12_readLayer_67 1 rfl ?_
  refine r_iload_n dX12_readLayer_68 2 rfl ?_
  refine i_ifeqb dX12_readLayer_69 (tgt := 77) (by decide) (fun c69 => ?_) (fun c69 => ?_)
  · refine r_iload_n dX12_readLayer_77 3 rfl ?_
    refine p_callV (As := [.int (iI ((i : Int))), .int (iI v)]) (b := m) (rest := []) (w := none) (st' := []) kv_X12_readLayer_73 dX12_readLayer_78 rfl rfl (Nat.le_of_ble_eq_true rfl) (Nat.le_of_ble_eq_true rfl) (x_rv hM7.1 hM7.2 rfl) rfl rfl (c_X12_addLayer hM7 (AR.rk hR7 hQ7) (i := i) (by omega) hw (by omega) (x := v)) rfl (fun h8 e8 => ?_)
    obtain ⟨g8, hR8, hw8, E8, F8⟩ := e8
    have hM8 := hM7.row (AR.rk hR7 hQ7) F8
    rw [hQ7.1.1] at hR8 F8
    refine r_return rfl dX12_readLayer_81 ?_
    have hx : x = v := by rw [hx0, c69]; rfl
    rw [hx]
    exact ⟨rfl, _, g8, hM8, hQ7, hT7, hR8, hw8, E8, (FRm hZ7).tr (FRr F8)⟩
  · refine r_iload_n dX12_readLayer_72 3 rfl ?_
    refine i_neg dX12_readLayer_73 ?_
    refine r_goto dX12_readLayer_74 (tgt := 78) (by decide) ?_
    refine p_callV (As := [.int (iI ((i : Int))), .int (iI (-v))]) (b := m) (rest := []) (w := none) (st' := []) kv_X12_readLayer_73 dX12_readLayer_78 rfl rfl (Nat.le_of_ble_eq_true rfl) (Nat.le_of_ble_eq_true rfl) (x_rv hM7.1 hM7.2 rfl) rfl rfl (c_X12_addLayer hM7 (AR.rk hR7 hQ7) (i := i) (by omega) hw (by omega) (x := -v)) rfl (fun h9 e9 => ?_)
    obtain ⟨g9, hR9, hw9, E9, F9⟩ := e9
    have hM9 := hM7.row (AR.rk hR7 hQ7) F9
    rw [hQ7.1.1] at hR9 F9
    refine r_return rfl dX12_readLayer_81 ?_
    have hx : x = -v := by rw [hx0, c69]; rfl
    rw [hx]
    exact ⟨rfl, _, g9, hM9, hQ7, hT7, hR9, hw9, E9, (FRm hZ7).tr (FRr F9)⟩
set_option maxRecDepth 20000 in
set_option maxHeartbeats 1000000 in
theorem c_X12_readLayer_b1 {G : xG} {h : xH} {m : Nat} {a : MA} {r : MR} (hM : MO G h m a r) {g : Nat → Int32} (hR : AR G h r.1 1456 g) {T : List Int} {p : Nat} {o : Int} (hT : TS r T p 0 o) {gi : Nat → Int32} (hA : AR G h a.2.2.2.2.2.2.1 500 gi) (hl5 : T.length ≤ 500) (hg : ∀ k, k < T.length → gi k = iI (T.getD k 0)) (hb : BYT T) {sa : Nat → Nat} (hGT : GT G sa) {i : Nat} (hi : i < 6) {s : AS} (hw : SWr g (7 + 207 * i) s) (hlw : isLW T p = false) : CC G MX12_readLayer [.ref m, .int (iI ((i : Int)))] h (fun o9 h' => o9 = .inl none ∧ TP G h h' m a r T p 1 ((tokAt T p).2.1 : Int)) := by
  show RR G MX12_readLayer 0 [(0, .ref m), (1, .int (iI ((i : Int))))] [] h (xm_R MX12_readLayer).cells (xm_R MX12_readLayer).slots (fun o9 h' => o9 = .inl none ∧ TP G h h' m a r T p 1 ((tokAt T p).2.1 : Int))
  refine r_aload_n dX12_readLayer_0 0 rfl ?_
  refine r_aload_n dX12_readLayer_1 0 rfl ?_
  refine p_callV (As := []) (b := m) (rest := [.ref m]) (w := (some (.int (iI (b2 false))))) (st' := [.int (iI (b2 false)), .ref m]) kv_X12_readLayer_353 dX12_readLayer_2 rfl rfl (Nat.le_of_ble_eq_true rfl) (Nat.le_of_ble_eq_true rfl) (x_rv hM.1 hM.2 rfl) rfl rfl (c_X12_isLayerHere_b hM hT hA hl5 hg hb hGT hlw) rfl (fun h1 e1 => ?_)
  rw [show h1 = h from e1]
  refine i_const (1) dX12_readLayer_5 ?_
  refine p_callV (As := [.int (iI (b2 false)), .int (iI 1)]) (b := m) (rest := []) (w := none) (st' := []) kv_X12_readLayer_329 dX12_readLayer_6 rfl rfl (Nat.le_of_ble_eq_true rfl) (Nat.le_of_ble_eq_true rfl) (x_rv hM.1 hM.2 rfl) rfl rfl (c_X12_check_f hM hT (c := 1) (by decide)) rfl (fun h2 e2 => ?_)
  obtain ⟨r2, hM2, hK2, hT2, F2⟩ := e2
  have hA2 := hA.obj hM F2
  have hQ2 := hK2
  have hZ2 := F2
  have hR2 := hR.obj hM F2
  refine r_aload_n dX12_readLayer_9 0 rfl ?_
  refine r_aload_n dX12_readLayer_10 0 rfl ?_
  refine m_g_er (v := 1) hM2 hT2.2.2.2.2.2.1 kf_X12_303 dX12_readLayer_11 ?_
  refine i_ifne dX12_readLayer_14 (tgt := 29) (by decide) ⟨by decide, by decide⟩ (fun _ => ?_) (fun c => absurd c (by decide))
  refine i_const (1) dX12_readLayer_29 ?_
  refine r_goto dX12_readLayer_30 (tgt := 34) (by decide) ?_
  refine i_const (3) dX12_readLayer_34 ?_
  refine p_callV (As := [.int (iI 1), .int (iI 3)]) (b := m) (rest := []) (w := none) (st' := []) kv_X12_readLayer_329 dX12_readLayer_35 rfl rfl (Nat.le_of_ble_eq_true rfl) (Nat.le_of_ble_eq_true rfl) (x_rv hM2.1 hM2.2 rfl) rfl rfl (c_X12_check_e hM2 hT2 (b := true) (e13 ⟨by decide, by decide⟩) (i13 ⟨by decide, by decide⟩)) rfl (fun h3 e3 => ?_)
  obtain ⟨r3, hM3, hK3, hT3, F3⟩ := e3
  have hA3 := hA2.obj hM2 F3
  have hQ3 := hQ2.tr hK3
  have hZ3 := hZ2.tr F3
  have hR3 := hR2.obj hM2 F3
  refine r_aload_n dX12_readLayer_38 0 rfl ?_
  refine r_ldcSW (hGT.2.2 ("PastryBenchModel", 351, "butter", 3) (List.mem_of_getElem? (i := 14) rfl)) rfl dX12_readLayer_39 ?_
  refine p_callV (As := [.ref (sa 3)]) (b := m) (rest := []) (w := (some (.int (iI (b2 false))))) (st' := [.int (iI (b2 false))]) kv_X12_readLayer_322 dX12_readLayer_42 rfl rfl (Nat.le_of_ble_eq_true rfl) (Nat.le_of_ble_eq_true rfl) (x_rv hM3.1 hM3.2 rfl) rfl rfl (c_X12_isWord_e hM3 hT3 (e13 ⟨by decide, by decide⟩) (i13 ⟨by decide, by decide⟩)) rfl (fun h4 e4 => ?_)
  rw [show h4 = h3 from e4]
  refine r_istore_n (ls' := [(0, .ref m), (1, .int (iI ((i : Int)))), (2, .int (iI (b2 false)))]) dX12_readLayer_45 (by decide) rfl ?_
  refine r_aload_n dX12_readLayer_46 0 rfl ?_
  refine p_callV (As := []) (b := m) (rest := []) (w := none) (st' := []) kv_X12_readLayer_333 dX12_readLayer_47 rfl rfl (Nat.le_of_ble_eq_true rfl) (Nat.le_of_ble_eq_true rfl) (x_rv hM3.1 hM3.2 rfl) rfl rfl (c_X12_advance_e hM3 hT3 hA3 hl5 hg hb (e13 ⟨by decide, by decide⟩) (i13 ⟨by decide, by decide⟩)) rfl (fun h5 e5 => ?_)
  obtain ⟨r5, hM5, hK5, hT5, F5⟩ := e5
  have hA5 := hA3.obj hM3 F5
  have hQ5 := hQ3.tr hK5
  have hZ5 := hZ3.tr F5
  have hR5 := hR3.obj hM3 F5
  refine r_aload_n dX12_readLayer_50 0 rfl ?_
  refine i_const (1) dX12_readLayer_51 ?_
  refine i_sipush (400) (by decide) dX12_readLayer_52 ?_
  refine p_callV (As := [.int (iI 1), .int (iI 400)]) (b := m) (rest := []) (w := (some (.int (iI 1)))) (st' := [.int (iI 1)]) kv_X12_readLayer_357 dX12_readLayer_55 rfl rfl (Nat.le_of_ble_eq_true rfl) (Nat.le_of_ble_eq_true rfl) (x_rv hM5.1 hM5.2 rfl) rfl rfl (c_X12_readNumber_e hM5 hT5 hA5 hl5 hg hb ⟨by decide, by decide⟩ ⟨by decide, by decide⟩ ⟨by decide, by decide⟩) rfl (fun h6 e6 => ?_)
  obtain ⟨r6, hM6, hK6, hT6, F6⟩ := e6
  have hA6 := hA5.obj hM5 F6
  have hQ6 := hQ5.tr hK6
  have hZ6 := hZ5.tr F6
  have hR6 := hR5.obj hM5 F6
  refine r_istore_n (ls' := [(0, .ref m), (1, .int (iI ((i : Int)))), (2, .int (iI (b2 false))), (3, .int (iI 1))]) dX12_readLayer_58 (by decide) rfl ?_
  refine r_aload_n dX12_readLayer_59 0 rfl ?_
  refine m_g_er (v := 1) hM6 hT6.2.2.2.2.2.1 kf_X12_303 dX12_readLayer_60 ?_
  refine i_ifne dX12_readLayer_63 (tgt := 81) (by decide) ⟨by decide, by decide⟩ (fun _ => ?_) (fun c => absurd c (by decide))
  refine r_return rfl dX12_readLayer_81 ?_
  exact ⟨rfl, r6, hM6, hQ6, hT6, hZ6⟩
set_option maxRecDepth 20000 in
set_option maxHeartbeats 1000000 in
theorem c_X12_readLayer_b2 {G : xG} {h : xH} {m : Nat} {a : MA} {r : MR} (hM : MO G h m a r) {g : Nat → Int32} (hR : AR G h r.1 1456 g) {T : List Int} {p : Nat} {o : Int} (hT : TS r T p 0 o) {gi : Nat → Int32} (hA : AR G h a.2.2.2.2.2.2.1 500 gi) (hl5 : T.length ≤ 500) (hg : ∀ k, k < T.length → gi k = iI (T.getD k 0)) (hb : BYT T) {sa : Nat → Nat} (hGT : GT G sa) {i : Nat} (hi : i < 6) {s : AS} (hw : SWr g (7 + 207 * i) s) {c off : Int} (hlw : isLW T p = true) (hsn : sNum T (tokAt T p).2.2 1 400 = .inl (c, off)) (hn9 : s.1.length < 9) : CC G MX12_readLayer [.ref m, .int (iI ((i : Int)))] h (fun o9 h' => o9 = .inl none ∧ TP G h h' m a r T (tokAt T p).2.2 c off) := by
  show RR G MX12_readLayer 0 [(0, .ref m), (1, .int (iI ((i : Int))))] [] h (xm_R MX12_readLayer).cells (xm_R MX12_readLayer).slots (fun o9 h' => o9 = .inl none ∧ TP G h h' m a r T (tokAt T p).2.2 c off)
  refine r_aload_n dX12_readLayer_0 0 rfl ?_
  refine r_aload_n dX12_readLayer_1 0 rfl ?_
  refine p_callV (As := []) (b := m) (rest := [.ref m]) (w := (some (.int (iI (b2 true))))) (st' := [.int (iI (b2 true)), .ref m]) kv_X12_readLayer_353 dX12_readLayer_2 rfl rfl (Nat.le_of_ble_eq_true rfl) (Nat.le_of_ble_eq_true rfl) (x_rv hM.1 hM.2 rfl) rfl rfl (c_X12_isLayerHere_b hM hT hA hl5 hg hb hGT hlw) rfl (fun h1 e1 => ?_)
  rw [show h1 = h from e1]
  refine i_const (1) dX12_readLayer_5 ?_
  refine p_callV (As := [.int (iI (b2 true)), .int (iI 1)]) (b := m) (rest := []) (w := none) (st' := []) kv_X12_readLayer_329 dX12_readLayer_6 rfl rfl (Nat.le_of_ble_eq_true rfl) (Nat.le_of_ble_eq_true rfl) (x_rv hM.1 hM.2 rfl) rfl rfl (c_X12_check_t hM hT) rfl (fun h2 e2 => ?_)
  obtain ⟨r2, hM2, hK2, hT2, F2⟩ := e2
  have hA2 := hA.obj hM F2
  have hQ2 := hK2
  have hZ2 := F2
  have hR2 := hR.obj hM F2
  refine r_aload_n dX12_readLayer_9 0 rfl ?_
  refine r_aload_n dX12_readLayer_10 0 rfl ?_
  refine m_g_er (v := 0) hM2 hT2.2.2.2.2.2.1 kf_X12_303 dX12_readLayer_11 ?_
  refine i_ifne dX12_readLayer_14 (tgt := 29) (by decide) ⟨by decide, by decide⟩ (fun c => absurd c (by decide)) (fun _ => ?_)
  refine r_aload_n dX12_readLayer_17 0 rfl ?_
  refine r_iload_n dX12_readLayer_18 1 rfl ?_
  refine i_bipush (6) (by decide) dX12_readLayer_19 ?_
  refine p_callV (As := [.int (iI ((i : Int))), .int (iI 6)]) (b := m) (rest := [.ref m]) (w := (some (.int (iI ((s.1.length : Int)))))) (st' := [.int (iI ((s.1.length : Int))), .ref m]) kv_X12_readLayer_93 dX12_readLayer_21 rfl rfl (Nat.le_of_ble_eq_true rfl) (Nat.le_of_ble_eq_true rfl) (x_rv hM2.1 hM2.2 rfl) rfl rfl (c_X12_of hM2 (AR.rk hR2 hQ2) (i := i) (w := 6) (by omega) (by decide) hw.2.2.2.2.2.2.1) rfl (fun h3 e3 => ?_)
  rw [show h3 = h2 from e3]
  refine i_bipush (9) (by decide) dX12_readLayer_24 ?_
  refine i_icmpge dX12_readLayer_26 (tgt := 33) (by decide) (by first | exact i13 hbn.1 | (unfold in32; omega)) ⟨by decide, by decide⟩ (fun c => absurd c (by omega)) (fun _ => ?_)
  refine i_const (1) dX12_readLayer_29 ?_
  refine r_goto dX12_readLayer_30 (tgt := 34) (by decide) ?_
  refine i_const (3) dX12_readLayer_34 ?_
  refine p_callV (As := [.int (iI 1), .int (iI 3)]) (b := m) (rest := []) (w := none) (st' := []) kv_X12_readLayer_329 dX12_readLayer_35 rfl rfl (Nat.le_of_ble_eq_true rfl) (Nat.le_of_ble_eq_true rfl) (x_rv hM2.1 hM2.2 rfl) rfl rfl (c_X12_check_t hM2 hT2) rfl (fun h4 e4 => ?_)
  obtain ⟨r4, hM4, hK4, hT4, F4⟩ := e4
  have hA4 := hA2.obj hM2 F4
  have hQ4 := hQ2.tr hK4
  have hZ4 := hZ2.tr F4
  have hR4 := hR2.obj hM2 F4
  refine r_aload_n dX12_readLayer_38 0 rfl ?_
  refine r_ldcSW (hGT.2.2 ("PastryBenchModel", 351, "butter", 3) (List.mem_of_getElem? (i := 14) rfl)) rfl dX12_readLayer_39 ?_
  refine p_callV (As := [.ref (sa 3)]) (b := m) (rest := []) (w := (some (.int (iI (b2 (isW T (tokAt T p) (txS 3))))))) (st' := [.int (iI (b2 (isW T (tokAt T p) (txS 3))))]) kv_X12_readLayer_322 dX12_readLayer_42 rfl rfl (Nat.le_of_ble_eq_true rfl) (Nat.le_of_ble_eq_true rfl) (x_rv hM4.1 hM4.2 rfl) rfl rfl (c_X12_isWord_k hM4 hT4 hA4 hl5 hg hb hGT.1 (hGT.2.1 3 (by decide))) rfl (fun h5 e5 => ?_)
  rw [show h5 = h4 from e5]
  refine r_istore_n (ls' := [(0, .ref m), (1, .int (iI ((i : Int)))), (2, .int (iI (b2 (isW T (tokAt T p) (txS 3)))))]) dX12_readLayer_45 (by decide) rfl ?_
  refine r_aload_n dX12_readLayer_46 0 rfl ?_
  refine p_callV (As := []) (b := m) (rest := []) (w := none) (st' := []) kv_X12_readLayer_333 dX12_readLayer_47 rfl rfl (Nat.le_of_ble_eq_true rfl) (Nat.le_of_ble_eq_true rfl) (x_rv hM4.1 hM4.2 rfl) rfl rfl (c_X12_advance_k hM4 hT4 hA4 hl5 hg hb) rfl (fun h6 e6 => ?_)
  obtain ⟨r6, hM6, hK6, hT6, F6⟩ := e6
  have hA6 := hA4.obj hM4 F6
  have hQ6 := hQ4.tr hK6
  have hZ6 := hZ4.tr F6
  have hR6 := hR4.obj hM4 F6
  refine r_aload_n dX12_readLayer_50 0 rfl ?_
  refine i_const (1) dX12_readLayer_51 ?_
  refine i_sipush (400) (by decide) dX12_readLayer_52 ?_
  have hbn := t_X12_readNumber_bad hM6 hT6 hA6 hl5 hg hb ⟨by decide, by decide⟩ ⟨by decide, by decide⟩ hsn
  refine p_callV (As := [.int (iI 1), .int (iI 400)]) (b := m) (rest := []) (w := (some (.int (iI 1)))) (st' := [.int (iI 1)]) kv_X12_readLayer_357 dX12_readLayer_55 rfl rfl (Nat.le_of_ble_eq_true rfl) (Nat.le_of_ble_eq_true rfl) (x_rv hM6.1 hM6.2 rfl) rfl rfl (hbn.2) rfl (fun h7 e7 => ?_)
  obtain ⟨r7, hM7, hK7, hT7, F7⟩ := e7
  have hA7 := hA6.obj hM6 F7
  have hQ7 := hQ6.tr hK7
  have hZ7 := hZ6.tr F7
  have hR7 := hR6.obj hM6 F7
  refine r_istore_n (ls' := [(0, .ref m), (1, .int (iI ((i : Int)))), (2, .int (iI (b2 (isW T (tokAt T p) (txS 3))))), (3, .int (iI 1))]) dX12_readLayer_58 (by decide) rfl ?_
  refine r_aload_n dX12_readLayer_59 0 rfl ?_
  refine m_g_er (v := c) hM7 hT7.2.2.2.2.2.1 kf_X12_303 dX12_readLayer_60 ?_
  have hcb := hbn.1
  refine i_ifne dX12_readLayer_63 (tgt := 81) (by decide) (by first | exact i13 hbn.1 | (unfold in32; omega)) (fun _ => ?_) (fun c => absurd c (by omega))
  refine r_return rfl dX12_readLayer_81 ?_
  exact ⟨rfl, r7, hM7, hQ7, hT7, hZ7⟩
set_option maxRecDepth 20000 in
set_option maxHeartbeats 1000000 in
theorem c_X12_readLayer_full {G : xG} {h : xH} {m : Nat} {a : MA} {r : MR} (hM : MO G h m a r) {g : Nat → Int32} (hR : AR G h r.1 1456 g) {T : List Int} {p : Nat} {o : Int} (hT : TS r T p 0 o) {gi : Nat → Int32} (hA : AR G h a.2.2.2.2.2.2.1 500 gi) (hl5 : T.length ≤ 500) (hg : ∀ k, k < T.length → gi k = iI (T.getD k 0)) (hb : BYT T) {sa : Nat → Nat} (hGT : GT G sa) {i : Nat} (hi : i < 6) {s : AS} (hw : SWr g (7 + 207 * i) s) (hlw : isLW T p = true) (hn9 : 9 ≤ s.1.length) : CC G MX12_readLayer [.ref m, .int (iI ((i : Int)))] h (fun o9 h' => o9 = .inl none ∧ TP G h h' m a r T p 3 ((tokAt T p).2.1 : Int)) := by
  have hl2 := hw.len
  show RR G MX12_readLayer 0 [(0, .ref m), (1, .int (iI ((i : Int))))] [] h (xm_R MX12_readLayer).cells (xm_R MX12_readLayer).slots (fun o9 h' => o9 = .inl none ∧ TP G h h' m a r T p 3 ((tokAt T p).2.1 : Int))
  refine r_aload_n dX12_readLayer_0 0 rfl ?_
  refine r_aload_n dX12_readLayer_1 0 rfl ?_
  refine p_callV (As := []) (b := m) (rest := [.ref m]) (w := (some (.int (iI (b2 true))))) (st' := [.int (iI (b2 true)), .ref m]) kv_X12_readLayer_353 dX12_readLayer_2 rfl rfl (Nat.le_of_ble_eq_true rfl) (Nat.le_of_ble_eq_true rfl) (x_rv hM.1 hM.2 rfl) rfl rfl (c_X12_isLayerHere_b hM hT hA hl5 hg hb hGT hlw) rfl (fun h1 e1 => ?_)
  rw [show h1 = h from e1]
  refine i_const (1) dX12_readLayer_5 ?_
  refine p_callV (As := [.int (iI (b2 true)), .int (iI 1)]) (b := m) (rest := []) (w := none) (st' := []) kv_X12_readLayer_329 dX12_readLayer_6 rfl rfl (Nat.le_of_ble_eq_true rfl) (Nat.le_of_ble_eq_true rfl) (x_rv hM.1 hM.2 rfl) rfl rfl (c_X12_check_t hM hT) rfl (fun h2 e2 => ?_)
  obtain ⟨r2, hM2, hK2, hT2, F2⟩ := e2
  have hA2 := hA.obj hM F2
  have hQ2 := hK2
  have hZ2 := F2
  have hR2 := hR.obj hM F2
  refine r_aload_n dX12_readLayer_9 0 rfl ?_
  refine r_aload_n dX12_readLayer_10 0 rfl ?_
  refine m_g_er (v := 0) hM2 hT2.2.2.2.2.2.1 kf_X12_303 dX12_readLayer_11 ?_
  refine i_ifne dX12_readLayer_14 (tgt := 29) (by decide) ⟨by decide, by decide⟩ (fun c => absurd c (by decide)) (fun _ => ?_)
  refine r_aload_n dX12_readLayer_17 0 rfl ?_
  refine r_iload_n dX12_readLayer_18 1 rfl ?_
  refine i_bipush (6) (by decide) dX12_readLayer_19 ?_
  refine p_callV (As := [.int (iI ((i : Int))), .int (iI 6)]) (b := m) (rest := [.ref m]) (w := (some (.int (iI ((s.1.length : Int)))))) (st' := [.int (iI ((s.1.length : Int))), .ref m]) kv_X12_readLayer_93 dX12_readLayer_21 rfl rfl (Nat.le_of_ble_eq_true rfl) (Nat.le_of_ble_eq_true rfl) (x_rv hM2.1 hM2.2 rfl) rfl rfl (c_X12_of hM2 (AR.rk hR2 hQ2) (i := i) (w := 6) (by omega) (by decide) hw.2.2.2.2.2.2.1) rfl (fun h3 e3 => ?_)
  rw [show h3 = h2 from e3]
  refine i_bipush (9) (by decide) dX12_readLayer_24 ?_
  refine i_icmpge dX12_readLayer_26 (tgt := 33) (by decide) (by unfold in32; omega) ⟨by decide, by decide⟩ (fun _ => ?_) (fun c => absurd c (by omega))
  refine i_const (0) dX12_readLayer_33 ?_
  refine i_const (3) dX12_readLayer_34 ?_
  refine p_callV (As := [.int (iI 0), .int (iI 3)]) (b := m) (rest := []) (w := none) (st' := []) kv_X12_readLayer_329 dX12_readLayer_35 rfl rfl (Nat.le_of_ble_eq_true rfl) (Nat.le_of_ble_eq_true rfl) (x_rv hM2.1 hM2.2 rfl) rfl rfl (c_X12_check_f hM2 hT2 (c := 3) (by decide)) rfl (fun h4 e4 => ?_)
  obtain ⟨r4, hM4, hK4, hT4, F4⟩ := e4
  have hA4 := hA2.obj hM2 F4
  have hQ4 := hQ2.tr hK4
  have hZ4 := hZ2.tr F4
  have hR4 := hR2.obj hM2 F4
  refine r_aload_n dX12_readLayer_38 0 rfl ?_
  refine r_ldcSW (hGT.2.2 ("PastryBenchModel", 351, "butter", 3) (List.mem_of_getElem? (i := 14) rfl)) rfl dX12_readLayer_39 ?_
  refine p_callV (As := [.ref (sa 3)]) (b := m) (rest := []) (w := (some (.int (iI (b2 false))))) (st' := [.int (iI (b2 false))]) kv_X12_readLayer_322 dX12_readLayer_42 rfl rfl (Nat.le_of_ble_eq_true rfl) (Nat.le_of_ble_eq_true rfl) (x_rv hM4.1 hM4.2 rfl) rfl rfl (c_X12_isWord_e hM4 hT4 (e13 ⟨by decide, by decide⟩) (i13 ⟨by decide, by decide⟩)) rfl (fun h5 e5 => ?_)
  rw [show h5 = h4 from e5]
  refine r_istore_n (ls' := [(0, .ref m), (1, .int (iI ((i : Int)))), (2, .int (iI (b2 false)))]) dX12_readLayer_45 (by decide) rfl ?_
  refine r_aload_n dX12_readLayer_46 0 rfl ?_
  refine p_callV (As := []) (b := m) (rest := []) (w := none) (st' := []) kv_X12_readLayer_333 dX12_readLayer_47 rfl rfl (Nat.le_of_ble_eq_true rfl) (Nat.le_of_ble_eq_true rfl) (x_rv hM4.1 hM4.2 rfl) rfl rfl (c_X12_advance_e hM4 hT4 hA4 hl5 hg hb (e13 ⟨by decide, by decide⟩) (i13 ⟨by decide, by decide⟩)) rfl (fun h6 e6 => ?_)
  obtain ⟨r6, hM6, hK6, hT6, F6⟩ := e6
  have hA6 := hA4.obj hM4 F6
  have hQ6 := hQ4.tr hK6
  have hZ6 := hZ4.tr F6
  have hR6 := hR4.obj hM4 F6
  refine r_aload_n dX12_readLayer_50 0 rfl ?_
  refine i_const (1) dX12_readLayer_51 ?_
  refine i_sipush (400) (by decide) dX12_readLayer_52 ?_
  refine p_callV (As := [.int (iI 1), .int (iI 400)]) (b := m) (rest := []) (w := (some (.int (iI 1)))) (st' := [.int (iI 1)]) kv_X12_readLayer_357 dX12_readLayer_55 rfl rfl (Nat.le_of_ble_eq_true rfl) (Nat.le_of_ble_eq_true rfl) (x_rv hM6.1 hM6.2 rfl) rfl rfl (c_X12_readNumber_e hM6 hT6 hA6 hl5 hg hb ⟨by decide, by decide⟩ ⟨by decide, by decide⟩ ⟨by decide, by decide⟩) rfl (fun h7 e7 => ?_)
  obtain ⟨r7, hM7, hK7, hT7, F7⟩ := e7
  have hA7 := hA6.obj hM6 F7
  have hQ7 := hQ6.tr hK7
  have hZ7 := hZ6.tr F7
  have hR7 := hR6.obj hM6 F7
  refine r_istore_n (ls' := [(0, .ref m), (1, .int (iI ((i : Int)))), (2, .int (iI (b2 false))), (3, .int (iI 1))]) dX12_readLayer_58 (by decide) rfl ?_
  refine r_aload_n dX12_readLayer_59 0 rfl ?_
  refine m_g_er (v := 3) hM7 hT7.2.2.2.2.2.1 kf_X12_303 dX12_readLayer_60 ?_
  refine i_ifne dX12_readLayer_63 (tgt := 81) (by decide) ⟨by decide, by decide⟩ (fun _ => ?_) (fun c => absurd c (by decide))
  refine r_return rfl dX12_readLayer_81 ?_
  exact ⟨rfl, r7, hM7, hQ7, hT7, hZ7⟩
