/-! ===== the reference: hours, cutting, stacking ===== -/
theorem hrS_1 (r : Int) (k : Nat) (s : AS) : hrS r 1 (hrS r k s) = hrS r (k + 1) s := rfl
theorem hrS_m (r : Int) (k : Nat) (L : List AS) : (L.map (hrS r k)).map (hrS r 1) = L.map (hrS r (k + 1)) := by
  rw [List.map_map]; rfl
theorem hrS_0 (r : Int) (L : List AS) : L.map (hrS r 0) = L := by
  have e : hrS r 0 = id := by funext s; rfl
  rw [e, List.map_id]
theorem RWf.snoc {g g1 g2 : Nat → Int32} {B : AB} (h : RWf g 0 B) (hl : B.2.length < 6) {s' : AS} (hs : SWr g1 (7 + 207 * B.2.length) s') (e : EQo B.2.length g g1) (e2 : ∀ j, j ≠ 3 → g2 j = g1 j) (e3 : g2 3 = iI ((B.2.length : Int) + 1)) : RWf g2 0 (B.1, B.2 ++ [s']) := by
  obtain ⟨s6, h6⟩ := h.2
  have h6 : SWr g (7 + 207 * 6) s6 := h6
  have h6b : SWr g1 (7 + 207 * 6) s6 := h6.oth e (by omega)
  obtain ⟨⟨h0, h1, h2, h3, h4, h5, h9⟩, h7, h8⟩ := id h.1
  refine ⟨⟨⟨(e2 0 (by omega)).trans ((e 0 (by omega)).trans h0), (e2 1 (by omega)).trans ((e 1 (by omega)).trans h1), (e2 2 (by omega)).trans ((e 2 (by omega)).trans h2), e3.trans (by simp), (e2 4 (by omega)).trans ((e 4 (by omega)).trans h4), (e2 5 (by omega)).trans ((e 5 (by omega)).trans h5), (e2 6 (by omega)).trans ((e 6 (by omega)).trans h9)⟩, by simp; omega, fun i hi => ?_⟩, s6, (h6b.eq (fun k q1 q2 => e2 k (by omega)) : SWr g2 (7 + 207 * 6) s6)⟩
  have hi : i < B.2.length + 1 := by simpa using hi
  rw [show 0 + 7 + 207 * i = 7 + 207 * i by omega]
  show SWr g2 (7 + 207 * i) ((B.2 ++ [s']).getD i dS)
  by_cases c : i = B.2.length
  · subst c
    rw [show (B.2 ++ [s']).getD B.2.length dS = s' by simp]
    exact hs.eq (fun k q1 q2 => e2 k (by omega))
  · rw [show (B.2 ++ [s']).getD i dS = B.2.getD i dS by simp [List.getElem?_append_left (show i < B.2.length by omega)]]
    exact ((h.1.s (i := i) (by omega)).oth e (by omega)).eq (fun k q1 q2 => e2 k (by omega))
set_option maxRecDepth 20000 in
set_option maxHeartbeats 1000000 in
theorem c_X12_doHours_n {G : xG} {h : xH} {m : Nat} {a : MA} {r : MR} (hM : MO G h m a r) {g : Nat → Int32} (hR : AR G h r.1 1456 g) {B : AB} (hRW : RWf g 0 B) (hWB : WB B) {n9 : Nat} (hn9 : 1 ≤ n9 ∧ n9 ≤ 24) (h0 : 9999 < B.1.2.2.2.1 + (n9 : Int)) : CC G MX12_doHours [.ref m, .int (iI ((n9 : Int)))] h (qI 2 h) := by
  obtain ⟨hms, hro, hme, hfl, hho⟩ := id hWB
  show RR G MX12_doHours 0 [(0, .ref m), (1, .int (iI ((n9 : Int))))] [] h (xm_R MX12_doHours).cells (xm_R MX12_doHours).slots (qI 2 h)
  refine r_aload_n dX12_doHours_0 0 rfl ?_
  refine m_g_rr (v := r.1) hM rfl kf_X12_25 dX12_doHours_1 ?_
  refine i_const (4) dX12_doHours_4 ?_
  refine m_ld (v := iI B.1.2.2.2.1) 4 rfl hRW.1.1.2.2.2.2.1 hR dX12_doHours_5 (by omega) (by decide) ?_
  refine r_iload_n dX12_doHours_6 1 rfl ?_
  refine i_add dX12_doHours_7 ?_
  refine i_sipush (9999) (by decide) dX12_doHours_8 ?_
  refine i_icmple dX12_doHours_11 (tgt := 16) (by decide) (by unfold in32; omega) ⟨by decide, by decide⟩ (fun c => absurd c (by omega)) (fun _ => ?_)
  refine i_const (2) dX12_doHours_14 ?_
  refine r_ireturn rfl rfl dX12_doHours_15 ?_
  exact ⟨rfl, rfl⟩
set_option maxRecDepth 20000 in
set_option maxHeartbeats 1000000 in
theorem c_X12_doHours_ok {G : xG} {h : xH} {m : Nat} {a : MA} {r : MR} (hM : MO G h m a r) {g : Nat → Int32} (hR : AR G h r.1 1456 g) {B : AB} (hRW : RWf g 0 B) (hWB : WB B) {n9 : Nat} (hn9 : 1 ≤ n9 ∧ n9 ≤ 24) (h0 : B.1.2.2.2.1 + (n9 : Int) ≤ 9999) : CC G MX12_doHours [.ref m, .int (iI ((n9 : Int)))] h (fun o h' => o = .inl (some (.int (iI 0))) ∧ DOk G h h' m a r (aHours B n9) (cnt (unsafeS B.1.2.1) (B.2.map (hrS B.1.1 n9)))) := by
  obtain ⟨hms, hro, hme, hfl, hho⟩ := id hWB
  have hn6 := hRW.1.2.1
  have L : ∀ k, k ≤ n9 → ∀ (h1 : xH) (g1 : Nat → Int32), MO G h1 m a r → AR G h1 r.1 1456 g1 → RWf g1 0 ((B.1.1, B.1.2.1, B.1.2.2.1, B.1.2.2.2.1 + (n9 : Int), B.1.2.2.2.2.1, B.1.2.2.2.2.2), B.2.map (hrS B.1.1 k)) → FRp [m, r.1] h h1 → RR G MX12_doHours 28 [(0, .ref m), (1, .int (iI ((n9 : Int)))), (2, .int (iI ((k : Int))))] [] h1 (xm_R MX12_doHours).cells (xm_R MX12_doHours).slots (fun o h' => o = .inl (some (.int (iI 0))) ∧ DOk G h h' m a r (aHours B n9) (cnt (unsafeS B.1.2.1) (B.2.map (hrS B.1.1 n9)))) := by
    refine down (fun k hk ih => ?_)
    intro h1 g1 hM1 hR1 hRW1 hF1
    refine r_iload_n dX12_doHours_28 2 rfl ?_
    refine r_iload_n dX12_doHours_29 1 rfl ?_
    refine i_icmpge dX12_doHours_30 (tgt := 79) (by decide) (by unfold in32; omega) (by unfold in32; omega) (fun c30 => ?_) (fun c30 => ?_)
    · have hk9 : k = n9 := by omega
      rw [hk9] at hRW1
      refine r_aload_n dX12_doHours_79 0 rfl ?_
      refine r_aload_n dX12_doHours_80 0 rfl ?_
      refine p_callV (As := []) (b := m) (rest := [.ref m]) (w := (some (.int (iI (cnt (unsafeS B.1.2.1) (B.2.map (hrS B.1.1 n9))))))) (st' := [.int (iI (cnt (unsafeS B.1.2.1) (B.2.map (hrS B.1.1 n9)))), .ref m]) kv_X12_doHours_210 dX12_doHours_81 rfl rfl (Nat.le_of_ble_eq_true rfl) (Nat.le_of_ble_eq_true rfl) (x_rv hM1.1 hM1.2 rfl) rfl rfl (c_X12_countWarm hM1 hR1 hRW1.1 (fun s hs => by obtain ⟨s0, q0, rfl⟩ := List.mem_map.mp hs; exact (hms s0 q0).hr hro) (by show 0 ≤ B.1.2.1 ∧ B.1.2.1 ≤ 40; omega)) rfl (fun h41 e41 => ?_)
      rw [show h41 = h1 from e41]
      refine m_p_re (v := cnt (unsafeS B.1.2.1) (B.2.map (hrS B.1.1 n9))) hM1 kf_X12_204 dX12_doHours_84 (fun h42 hM42 F42 => ?_)
      have hR42 := hR1.obj hM1 F42
      have hF42 := hF1.tr (FRm F42)
      refine i_const (0) dX12_doHours_87 ?_
      refine r_ireturn rfl rfl dX12_doHours_88 ?_
      exact ⟨rfl, _, _, hM42, ⟨⟨rfl, rfl, rfl, rfl, rfl, rfl, rfl, rfl⟩, rfl, rfl⟩, rfl, hR42, hRW1, hF42⟩
    · refine i_const (0) dX12_doHours_33 ?_
      refine r_istore_n (ls' := [(0, .ref m), (1, .int (iI ((n9 : Int)))), (2, .int (iI ((k : Int)))), (3, .int (iI 0))]) dX12_doHours_34 (by decide) rfl ?_
      have hkl : (B.2.map (hrS B.1.1 k)).length = B.2.length := List.length_map _
      have hWk : ∀ s ∈ (B.2.map (hrS B.1.1 k)), WS s := fun s hs => by
        obtain ⟨s0, h0, rfl⟩ := List.mem_map.mp hs
        exact (hms s0 h0).hr hro
      have Lj : ∀ j, j ≤ (B.2.map (hrS B.1.1 k)).length → ∀ (h2 : xH) (g2 : Nat → Int32), MO G h2 m a r → AR G h2 r.1 1456 g2 → RWf g2 0 ((B.1.1, B.1.2.1, B.1.2.2.1, B.1.2.2.2.1 + (n9 : Int), B.1.2.2.2.2.1, B.1.2.2.2.2.2), hrL B.1.1 1 j (B.2.map (hrS B.1.1 k))) → FRp [m, r.1] h h2 → RR G MX12_doHours 35 [(0, .ref m), (1, .int (iI ((n9 : Int)))), (2, .int (iI ((k : Int)))), (3, .int (iI ((j : Int))))] [] h2 (xm_R MX12_doHours).cells (xm_R MX12_doHours).slots (fun o h' => o = .inl (some (.int (iI 0))) ∧ DOk G h h' m a r (aHours B n9) (cnt (unsafeS B.1.2.1) (B.2.map (hrS B.1.1 n9)))) := by
        refine down (fun j hj9 ihj => ?_)
        intro h2 g2 hM2 hR2 hRW2 hF2
        have hjn := hrL_len B.1.1 1 j (B.2.map (hrS B.1.1 k))
        refine r_iload_n dX12_doHours_35 3 rfl ?_
        refine r_aload_n dX12_doHours_36 0 rfl ?_
        refine m_g_rr (v := r.1) hM2 rfl kf_X12_25 dX12_doHours_37 ?_
        refine i_const (3) dX12_doHours_40 ?_
        refine m_ld (v := iI (((hrL B.1.1 1 j (B.2.map (hrS B.1.1 k))).length : Int))) 3 rfl hRW2.1.1.2.2.2.1 hR2 dX12_doHours_41 (by omega) (by decide) ?_
        refine i_icmpge dX12_doHours_42 (tgt := 73) (by decide) (by unfold in32; omega) (by unfold in32; omega) (fun c42 => ?_) (fun c42 => ?_)
        · refine i_iinc (ls' := [(0, .ref m), (1, .int (iI ((n9 : Int)))), (2, .int (iI ((k : Int) + 1))), (3, .int (iI ((j : Int))))]) (1) (v := (k : Int) + 1) dX12_doHours_73 2 rfl (by omega) (by decide) rfl ?_
          refine r_goto dX12_doHours_76 (tgt := 28) (by decide) ?_
          refine rr_take 3 rfl ?_
          have q := ih (k + 1) (by omega) (by omega) h2 g2 hM2 hR2
          rw [show j = (B.2.map (hrS B.1.1 k)).length by omega, hrL_all, hrS_m] at hRW2
          exact q hRW2 hF2
        · have hjl : j < (B.2.map (hrS B.1.1 k)).length := by omega
          have hwj := hRW2.1.s (i := j) (by rw [hrL_len]; omega)
          rw [hrL_get hjl] at hwj
          have hWj : WS ((B.2.map (hrS B.1.1 k)).getD j dS) := hWk _ (getD_memS hjl)
          refine r_aload_n dX12_doHours_45 0 rfl ?_
          refine r_iload_n dX12_doHours_46 3 rfl ?_
          refine i_const (0) dX12_doHours_47 ?_
          refine r_aload_n dX12_doHours_48 0 rfl ?_
          refine r_aload_n dX12_doHours_49 0 rfl ?_
          refine r_iload_n dX12_doHours_50 3 rfl ?_
          refine i_const (0) dX12_doHours_51 ?_
          refine p_callV (As := [.int (iI ((j : Int))), .int (iI 0)]) (b := m) (rest := [.ref m, .int (iI 0), .int (iI ((j : Int))), .ref m]) (w := (some (.int (iI (((B.2.map (hrS B.1.1 k)).getD j dS).2.2.1))))) (st' := [.int (iI (((B.2.map (hrS B.1.1 k)).getD j dS).2.2.1)), .ref m, .int (iI 0), .int (iI ((j : Int))), .ref m]) kv_X12_doHours_93 dX12_doHours_52 rfl rfl (Nat.le_of_ble_eq_true rfl) (Nat.le_of_ble_eq_true rfl) (x_rv hM2.1 hM2.2 rfl) rfl rfl (c_X12_of hM2 hR2 (i := j) (w := 0) (by omega) (by decide) hwj.1) rfl (fun h21 e21 => ?_)
          rw [show h21 = h2 from e21]
          refine r_aload_n dX12_doHours_55 0 rfl ?_
          refine r_iload_n dX12_doHours_56 3 rfl ?_
          refine i_const (3) dX12_doHours_57 ?_
          refine p_callV (As := [.int (iI ((j : Int))), .int (iI 3)]) (b := m) (rest := [.int (iI (((B.2.map (hrS B.1.1 k)).getD j dS).2.2.1)), .ref m, .int (iI 0), .int (iI ((j : Int))), .ref m]) (w := (some (.int (iI (b2 (((B.2.map (hrS B.1.1 k)).getD j dS).2.2.2.2.2.2)))))) (st' := [.int (iI (b2 (((B.2.map (hrS B.1.1 k)).getD j dS).2.2.2.2.2.2))), .int (iI (((B.2.map (hrS B.1.1 k)).getD j dS).2.2.1)), .ref m, .int (iI 0), .int (iI ((j : Int))), .ref m]) kv_X12_doHours_124 dX12_doHours_58 rfl rfl (Nat.le_of_ble_eq_true rfl) (Nat.le_of_ble_eq_true rfl) (x_rv hM2.1 hM2.2 rfl) rfl rfl (c_X12_is hM2 hR2 (i := j) (w := 3) (by omega) (by decide) hwj.2.2.2.1) rfl (fun h22 e22 => ?_)
          rw [show h22 = h2 from e22]
          refine p_callV (As := [.int (iI (((B.2.map (hrS B.1.1 k)).getD j dS).2.2.1)), .int (iI (b2 (((B.2.map (hrS B.1.1 k)).getD j dS).2.2.2.2.2.2)))]) (b := m) (rest := [.int (iI 0), .int (iI ((j : Int))), .ref m]) (w := (some (.int (iI (laterV ((B.2.map (hrS B.1.1 k)).getD j dS).2.2.2.2.2.2 ((B.2.map (hrS B.1.1 k)).getD j dS).2.2.1 B.1.1))))) (st' := [.int (iI (laterV ((B.2.map (hrS B.1.1 k)).getD j dS).2.2.2.2.2.2 ((B.2.map (hrS B.1.1 k)).getD j dS).2.2.1 B.1.1)), .int (iI 0), .int (iI ((j : Int))), .ref m]) kv_X12_doHours_197 dX12_doHours_61 rfl rfl (Nat.le_of_ble_eq_true rfl) (Nat.le_of_ble_eq_true rfl) (x_rv hM2.1 hM2.2 rfl) rfl rfl (c_X12_later hM2 hR2 hRW2.1.1.1 hro hWj.2.2.2) rfl (fun h23 e23 => ?_)
          rw [show h23 = h2 from e23]
          refine p_callV (As := [.int (iI ((j : Int))), .int (iI 0), .int (iI (laterV ((B.2.map (hrS B.1.1 k)).getD j dS).2.2.2.2.2.2 ((B.2.map (hrS B.1.1 k)).getD j dS).2.2.1 B.1.1))]) (b := m) (rest := []) (w := none) (st' := []) kv_X12_doHours_90 dX12_doHours_64 rfl rfl (Nat.le_of_ble_eq_true rfl) (Nat.le_of_ble_eq_true rfl) (x_rv hM2.1 hM2.2 rfl) rfl rfl (c_X12_lay_0 hM2 hR2 (i := j) (by omega) hwj (v := laterV ((B.2.map (hrS B.1.1 k)).getD j dS).2.2.2.2.2.2 ((B.2.map (hrS B.1.1 k)).getD j dS).2.2.1 B.1.1)) rfl (fun h24 e24 => ?_)
          obtain ⟨g24, hR24, hw24, E24, F24⟩ := e24
          have hM24 := hM2.row hR2 F24
          have hF24 := hF2.tr (FRr F24)
          refine i_iinc (ls' := [(0, .ref m), (1, .int (iI ((n9 : Int)))), (2, .int (iI ((k : Int)))), (3, .int (iI ((j : Int) + 1)))]) (1) (v := (j : Int) + 1) dX12_doHours_67 3 rfl (by omega) (by decide) rfl ?_
          refine r_goto dX12_doHours_70 (tgt := 35) (by decide) ?_
          have q := ihj (j + 1) (by omega) (by omega) h24 g24 hM24 hR24
          have hx := hRW2.set (i := j) (by rw [hrL_len]; omega) hw24 E24
          have ey : hrS B.1.1 1 ((B.2.map (hrS B.1.1 k)).getD j dS) = (((B.2.map (hrS B.1.1 k)).getD j dS).1, ((B.2.map (hrS B.1.1 k)).getD j dS).2.1, laterV ((B.2.map (hrS B.1.1 k)).getD j dS).2.2.2.2.2.2 ((B.2.map (hrS B.1.1 k)).getD j dS).2.2.1 B.1.1, ((B.2.map (hrS B.1.1 k)).getD j dS).2.2.2.1, ((B.2.map (hrS B.1.1 k)).getD j dS).2.2.2.2.1, ((B.2.map (hrS B.1.1 k)).getD j dS).2.2.2.2.2.1, ((B.2.map (hrS B.1.1 k)).getD j dS).2.2.2.2.2.2) := rfl
          rw [← ey, hrL_s (by omega)] at hx
          exact q hx hF24
      exact Lj 0 (by omega) h1 g1 hM1 hR1 (by rw [hrL_0]; exact hRW1) hF1
  show RR G MX12_doHours 0 [(0, .ref m), (1, .int (iI ((n9 : Int))))] [] h (xm_R MX12_doHours).cells (xm_R MX12_doHours).slots (fun o h' => o = .inl (some (.int (iI 0))) ∧ DOk G h h' m a r (aHours B n9) (cnt (unsafeS B.1.2.1) (B.2.map (hrS B.1.1 n9))))
  refine r_aload_n dX12_doHours_0 0 rfl ?_
  refine m_g_rr (v := r.1) hM rfl kf_X12_25 dX12_doHours_1 ?_
  refine i_const (4) dX12_doHours_4 ?_
  refine m_ld (v := iI B.1.2.2.2.1) 4 rfl hRW.1.1.2.2.2.2.1 hR dX12_doHours_5 (by omega) (by decide) ?_
  refine r_iload_n dX12_doHours_6 1 rfl ?_
  refine i_add dX12_doHours_7 ?_
  refine i_sipush (9999) (by decide) dX12_doHours_8 ?_
  refine i_icmple dX12_doHours_11 (tgt := 16) (by decide) (by unfold in32; omega) ⟨by decide, by decide⟩ (fun _ => ?_) (fun c => absurd c (by omega))
  refine r_aload_n dX12_doHours_16 0 rfl ?_
  refine m_g_rr (v := r.1) hM rfl kf_X12_25 dX12_doHours_17 ?_
  refine i_const (4) dX12_doHours_20 ?_
  refine r_dup2 dX12_doHours_21 rfl rfl ?_
  refine m_ld (v := iI B.1.2.2.2.1) 4 rfl hRW.1.1.2.2.2.2.1 hR dX12_doHours_22 (by omega) (by decide) ?_
  refine r_iload_n dX12_doHours_23 1 rfl ?_
  refine i_add dX12_doHours_24 ?_
  refine m_st 4 rfl hR dX12_doHours_25 (by omega) (by decide) (fun h61 hR61 F61 => ?_)
  have hM61 := hM.row hR F61
  have hF61 : FRp [m, r.1] h h61 := FRr F61
  obtain ⟨g61, hg61⟩ : ∃ y, y = (upd g 4 (iI (B.1.2.2.2.1 + (n9 : Int)))) := ⟨_, rfl⟩
  rw [← hg61] at hR61
  have hn61 : ∀ j, j ≠ 4 → g61 j = g j := fun j hj => by rw [hg61]; exact upd_n hj
  have hk61 : g61 4 = iI (B.1.2.2.2.1 + (n9 : Int)) := by rw [hg61]; exact upd_s
  have hRW61 : RWf g61 0 ((B.1.1, B.1.2.1, B.1.2.2.1, (B.1.2.2.2.1 + (n9 : Int)), B.1.2.2.2.2.1, B.1.2.2.2.2.2), B.2) := hRW.hd (fun j hj => hn61 j (by omega)) ((hn61 0 (by omega)).trans hRW.1.1.1) ((hn61 1 (by omega)).trans hRW.1.1.2.1) ((hn61 2 (by omega)).trans hRW.1.1.2.2.1) (hn61 3 (by omega)) hk61 ((hn61 5 (by omega)).trans hRW.1.1.2.2.2.2.2.1) ((hn61 6 (by omega)).trans hRW.1.1.2.2.2.2.2.2)
  refine i_const (0) dX12_doHours_26 ?_
  refine r_istore_n (ls' := [(0, .ref m), (1, .int (iI ((n9 : Int)))), (2, .int (iI 0))]) dX12_doHours_27 (by decide) rfl ?_
  exact L 0 (by omega) h61 g61 hM61 hR61 (by rw [hrS_0]; exact hRW61) hF61
set_option maxRecDepth 20000 in
set_option maxHeartbeats 1000000 in
theorem c_X12_doCut_ok {G : xG} {h : xH} {m : Nat} {a : MA} {r : MR} (hM : MO G h m a r) {g : Nat → Int32} (hR : AR G h r.1 1456 g) {B : AB} (hRW : RWf g 0 B) (hWB : WB B) {i : Nat} (hi : i < B.2.length) (h0 : rCutS (B.2.getD i dS) B.2.length = 0) : CC G MX12_doCut [.ref m, .int (iI ((i : Int)))] h (fun o h' => o = .inl (some (.int (iI 0))) ∧ DOk G h h' m a r (aCut B i) (B.2.length : Int)) := by
  have hn := hRW.1.2.1
  have hc := hRW.1.1.2.2.2.1
  have hw := hRW.1.s hi
  have hW := WS.get hWB.1 hi
  obtain ⟨s6, hwS⟩ := hRW.2
  have hwS : SWr g (7 + 207 * 6) s6 := hwS
  obtain ⟨hms, hro, hme, hfl, hho⟩ := id hWB
  obtain ⟨s, hs⟩ : ∃ s, s = B.2.getD i dS := ⟨_, rfl⟩
  rw [← hs] at hw hW
  obtain ⟨hl1, hnz, hh4, hw0, hw9⟩ := id hW
  have hl2 := hw.len
  have hg0 := hgt_nn s.1
  have hgl := hgt_ge s.1 hnz
  rw [← hs] at h0
  have hf := rCuS0 h0
  show RR G MX12_doCut 0 [(0, .ref m), (1, .int (iI ((i : Int))))] [] h (xm_R MX12_doCut).cells (xm_R MX12_doCut).slots (fun o h' => o = .inl (some (.int (iI 0))) ∧ DOk G h h' m a r (aCut B i) (B.2.length : Int))
  refine r_aload_n dX12_doCut_0 0 rfl ?_
  refine r_iload_n dX12_doCut_1 1 rfl ?_
  refine p_callV (As := [.int (iI ((i : Int)))]) (b := m) (rest := []) (w := (some (.int (iI (b2 true))))) (st' := [.int (iI (b2 true))]) kv_X12_doCut_111 dX12_doCut_2 rfl rfl (Nat.le_of_ble_eq_true rfl) (Nat.le_of_ble_eq_true rfl) (x_rv hM.1 hM.2 rfl) rfl rfl (c_X12_isSheet_t hM hR hn hc hi) rfl (fun h1 e1 => ?_)
  rw [show h1 = h from e1]
  refine i_ifneb dX12_doCut_5 (tgt := 10) (by decide) (fun _ => ?_) (fun c => absurd c (by decide))
  refine r_aload_n dX12_doCut_10 0 rfl ?_
  refine r_iload_n dX12_doCut_11 1 rfl ?_
  refine i_const (3) dX12_doCut_12 ?_
  refine p_callV (As := [.int (iI ((i : Int))), .int (iI 3)]) (b := m) (rest := []) (w := (some (.int (iI (b2 s.2.2.2.2.2.2))))) (st' := [.int (iI (b2 s.2.2.2.2.2.2))]) kv_X12_doCut_124 dX12_doCut_13 rfl rfl (Nat.le_of_ble_eq_true rfl) (Nat.le_of_ble_eq_true rfl) (x_rv hM.1 hM.2 rfl) rfl rfl (c_X12_is hM hR (i := i) (w := 3) (by omega) (by decide) hw.2.2.2.1) rfl (fun h2 e2 => ?_)
  rw [show h2 = h from e2]
  refine i_ifneb dX12_doCut_16 (tgt := 30) (by decide) (fun c => by rw [hf.1] at c; cases c) (fun _ => ?_)
  refine r_aload_n dX12_doCut_19 0 rfl ?_
  refine m_g_rr (v := r.1) hM rfl kf_X12_25 dX12_doCut_20 ?_
  refine i_const (3) dX12_doCut_23 ?_
  refine m_ld (v := iI ((B.2.length : Int))) 3 rfl hRW.1.1.2.2.2.1 hR dX12_doCut_24 (by omega) (by decide) ?_
  refine i_bipush (6) (by decide) dX12_doCut_25 ?_
  refine i_icmpne dX12_doCut_27 (tgt := 32) (by decide) (by unfold in32; omega) ⟨by decide, by decide⟩ (fun _ => ?_) (fun c => absurd c (by omega))
  refine r_aload_n dX12_doCut_32 0 rfl ?_
  refine r_iload_n dX12_doCut_33 1 rfl ?_
  refine i_const (2) dX12_doCut_34 ?_
  refine i_const (0) dX12_doCut_35 ?_
  refine p_callV (As := [.int (iI ((i : Int))), .int (iI 2), .int (iI 0)]) (b := m) (rest := []) (w := none) (st' := []) kv_X12_doCut_90 dX12_doCut_36 rfl rfl (Nat.le_of_ble_eq_true rfl) (Nat.le_of_ble_eq_true rfl) (x_rv hM.1 hM.2 rfl) rfl rfl (c_X12_lay_2 hM hR (i := i) (by omega) hw (v := false)) rfl (fun h3 e3 => ?_)
  obtain ⟨g3, hR3, hw3, E3, F3⟩ := e3
  have hM3 := hM.row hR F3
  have hF3 : FRp [m, r.1] h h3 := FRr F3
  have hwS_3 := hwS.oth E3 (by omega)
  have hRWY := hRW.set (i := i) hi hw3 E3
  refine r_aload_n dX12_doCut_39 0 rfl ?_
  refine r_iload_n dX12_doCut_40 1 rfl ?_
  refine r_aload_n dX12_doCut_41 0 rfl ?_
  refine m_g_rr (v := r.1) hM3 rfl kf_X12_25 dX12_doCut_42 ?_
  refine i_const (3) dX12_doCut_45 ?_
  refine m_ld (v := iI (((B.2.set i (s.1, s.2.1, s.2.2.1, s.2.2.2.1, s.2.2.2.2.1, false, s.2.2.2.2.2.2)).length : Int))) 3 rfl hRWY.1.1.2.2.2.1 hR3 dX12_doCut_46 (by omega) (by decide) ?_
  refine p_callV (As := [.int (iI ((i : Int))), .int (iI (((B.2.set i (s.1, s.2.1, s.2.2.1, s.2.2.2.1, s.2.2.2.2.1, false, s.2.2.2.2.2.2)).length : Int)))]) (b := m) (rest := []) (w := none) (st' := []) kv_X12_doCut_168 dX12_doCut_47 rfl rfl (Nat.le_of_ble_eq_true rfl) (Nat.le_of_ble_eq_true rfl) (x_rv hM3.1 hM3.2 rfl) rfl rfl (c_X12_copySheet hM3 hR3 (i := i) (j := (B.2.set i (s.1, s.2.1, s.2.2.1, s.2.2.2.1, s.2.2.2.2.1, false, s.2.2.2.2.2.2)).length) (by omega) (by rw [List.length_set]; omega) hw3) rfl (fun h4 e4 => ?_)
  obtain ⟨g4, hR4, hc4, E4, F4⟩ := e4
  have hM4 := hM3.row hR3 F4
  have hF4 := hF3.tr (FRr F4)
  refine r_aload_n dX12_doCut_50 0 rfl ?_
  refine m_g_rr (v := r.1) hM4 rfl kf_X12_25 dX12_doCut_51 ?_
  refine i_const (3) dX12_doCut_54 ?_
  refine r_dup2 dX12_doCut_55 rfl rfl ?_
  refine m_ld (v := iI (((B.2.set i (s.1, s.2.1, s.2.2.1, s.2.2.2.1, s.2.2.2.2.1, false, s.2.2.2.2.2.2)).length : Int))) 3 rfl ((E4 3 (by omega)).trans hRWY.1.1.2.2.2.1) hR4 dX12_doCut_56 (by omega) (by decide) ?_
  refine i_const (1) dX12_doCut_57 ?_
  refine i_add dX12_doCut_58 ?_
  refine m_st 3 rfl hR4 dX12_doCut_59 (by omega) (by decide) (fun h5 hR5 F5 => ?_)
  have hM5 := hM4.row hR4 F5
  have hF5 := hF4.tr (FRr F5)
  obtain ⟨g5, hg5⟩ : ∃ y, y = (upd g4 3 (iI (((B.2.set i (s.1, s.2.1, s.2.2.1, s.2.2.2.1, s.2.2.2.2.1, false, s.2.2.2.2.2.2)).length : Int) + 1))) := ⟨_, rfl⟩
  rw [← hg5] at hR5
  have hRW5 := hRWY.snoc (g2 := g5) (by rw [List.length_set]; omega) hc4 E4 (fun j hj => by rw [hg5]; exact upd_n hj) (by rw [hg5]; exact upd_s)
  refine r_aload_n dX12_doCut_60 0 rfl ?_
  refine r_aload_n dX12_doCut_61 0 rfl ?_
  refine m_g_rr (v := r.1) hM5 rfl kf_X12_25 dX12_doCut_62 ?_
  refine i_const (3) dX12_doCut_65 ?_
  refine m_ld (v := iI (((B.2.set i (s.1, s.2.1, s.2.2.1, s.2.2.2.1, s.2.2.2.2.1, false, s.2.2.2.2.2.2)).length : Int) + 1)) 3 rfl (by rw [hg5]; exact upd_s) hR5 dX12_doCut_66 (by omega) (by decide) ?_
  refine i_const (1) dX12_doCut_67 ?_
  refine i_sub dX12_doCut_68 ?_
  refine m_p_re (v := (((B.2.set i (s.1, s.2.1, s.2.2.1, s.2.2.2.1, s.2.2.2.2.1, false, s.2.2.2.2.2.2)).length : Int) + 1) - 1) hM5 kf_X12_204 dX12_doCut_69 (fun h6 hM6 F6 => ?_)
  have hR6 := hR5.obj hM5 F6
  have hF6 := hF5.tr (FRm F6)
  refine i_const (0) dX12_doCut_72 ?_
  refine r_ireturn rfl rfl dX12_doCut_73 ?_
  have ev : ((((B.2.set i (s.1, s.2.1, s.2.2.1, s.2.2.2.1, s.2.2.2.2.1, false, s.2.2.2.2.2.2)).length : Int) + 1) - 1) = (B.2.length : Int) := by rw [List.length_set]; omega
  subst hs
  exact ⟨rfl, _, _, hM6, ⟨⟨rfl, rfl, rfl, rfl, rfl, rfl, rfl, rfl⟩, rfl, rfl⟩, ev, hR6, hRW5, hF6⟩
