/-! ===== the reference: what it writes ===== -/
def MOU (G : xG) (h : xH) (m : Nat) (a : MA) (r : MR) (bs : List Int) : Prop := MO G h m a (r_ol r (bs.length : Int)) ∧ ∃ g, AR G h a.2.2.2.2.2.1 1300 g ∧ bs.length ≤ 1300 ∧ ∀ k, k < bs.length → g k = iI (bs.getD k 0)
set_option maxRecDepth 20000 in
set_option maxHeartbeats 1000000 in
theorem c_X12_write {G : xG} {h : xH} {m : Nat} {a : MA} {r : MR} {bs : List Int} (hU : MOU G h m a r bs) {x : Int} (hl9 : bs.length < 1300) : CC G MX12_write [.ref m, .int (iI x)] h (fun o h' => o = .inl none ∧ MOU G h' m a r (bs ++ [x]) ∧ FRp [m, a.2.2.2.2.2.1] h h') := by
  obtain ⟨hM, go, hO, hl, hg⟩ := hU
  show RR G MX12_write 0 [(0, .ref m), (1, .int (iI x))] [] h (xm_R MX12_write).cells (xm_R MX12_write).slots (fun o h' => o = .inl none ∧ MOU G h' m a r (bs ++ [x]) ∧ FRp [m, a.2.2.2.2.2.1] h h')
  refine r_aload_n dX12_write_0 0 rfl ?_
  refine m_g_ou (v := a.2.2.2.2.2.1) hM rfl kf_X12_28 dX12_write_1 ?_
  refine r_aload_n dX12_write_4 0 rfl ?_
  refine m_g_ol (v := (bs.length : Int)) hM rfl kf_X12_266 dX12_write_5 ?_
  refine r_iload_n dX12_write_8 1 rfl ?_
  refine m_st bs.length rfl hO dX12_write_9 (by omega) (by decide) (fun h1 hO_1 F1 => ?_)
  have hM1 := hM.row hO F1
  refine r_aload_n dX12_write_10 0 rfl ?_
  refine r_dup dX12_write_11 rfl ?_
  refine m_g_ol (v := (bs.length : Int)) hM1 rfl kf_X12_266 dX12_write_12 ?_
  refine i_const (1) dX12_write_15 ?_
  refine i_add dX12_write_16 ?_
  refine m_p_ol (v := (bs.length : Int) + 1) hM1 kf_X12_266 dX12_write_17 (fun h2 hM2 F2 => ?_)
  have hO_2 := hO_1.obj hM1 F2
  refine r_return rfl dX12_write_20 ?_
  have el : ((bs ++ [x]).length : Int) = (bs.length : Int) + 1 := by simp
  exact ⟨rfl, ⟨by rw [el]; exact hM2, _, hO_2, by simp; omega, ob_push hg⟩, (FRr F1).tr (FRm F2)⟩
set_option maxRecDepth 20000 in
set_option maxHeartbeats 1000000 in
theorem c_X12_writeNumber {G : xG} {h : xH} {m : Nat} {a : MA} {r : MR} {bs : List Int} (hU : MOU G h m a r bs) {n : Int} (hn : 1 ≤ n ∧ n ≤ 4000) (hr : bs.length + 4 ≤ 1300) : CC G MX12_writeNumber [.ref m, .int (iI n)] h (fun o h' => o = .inl none ∧ MOU G h' m a r (bs ++ digs n) ∧ FRp [m, a.2.2.2.2.2.1] h h') := by
  have S0 : ∀ (P : Int) (bs1 : List Int) (h1 : xH), MOU G h1 m a r bs1 → FRp [m, a.2.2.2.2.2.1] h h1 → bs1 = bs ++ digs n → RR G MX12_writeNumber 20 [(0, .ref m), (1, .int (iI n)), (2, .int (iI P)), (3, .int (iI 0))] [] h1 (xm_R MX12_writeNumber).cells (xm_R MX12_writeNumber).slots (fun o h' => o = .inl none ∧ MOU G h' m a r (bs ++ digs n) ∧ FRp [m, a.2.2.2.2.2.1] h h') := by
    intro P bs1 h1 hU1 hF1 he
    refine r_iload_n dX12_writeNumber_20 3 rfl ?_
    refine i_ifle dX12_writeNumber_21 (tgt := 45) (by decide) ⟨by decide, by decide⟩ (fun _ => ?_) (fun c => absurd c (by decide))
    refine r_return rfl dX12_writeNumber_45 ?_
    rw [← he]
    exact ⟨rfl, hU1, hF1⟩
  have S1 : ∀ (P : Int) (bs1 : List Int) (h1 : xH), MOU G h1 m a r bs1 → FRp [m, a.2.2.2.2.2.1] h h1 → bs1 ++ [(48 + n / 1 % 10)] = bs ++ digs n → bs1.length + 1 ≤ 1300 → RR G MX12_writeNumber 20 [(0, .ref m), (1, .int (iI n)), (2, .int (iI P)), (3, .int (iI 1))] [] h1 (xm_R MX12_writeNumber).cells (xm_R MX12_writeNumber).slots (fun o h' => o = .inl none ∧ MOU G h' m a r (bs ++ digs n) ∧ FRp [m, a.2.2.2.2.2.1] h h') := by
    intro P bs1 h1 hU1 hF1 he hl1
    refine r_iload_n dX12_writeNumber_20 3 rfl ?_
    refine i_ifle dX12_writeNumber_21 (tgt := 45) (by decide) ⟨by decide, by decide⟩ (fun c => absurd c (by decide)) (fun _ => ?_)
    refine r_aload_n dX12_writeNumber_24 0 rfl ?_
    refine i_bipush (48) (by decide) dX12_writeNumber_25 ?_
    refine r_iload_n dX12_writeNumber_27 1 rfl ?_
    refine r_iload_n dX12_writeNumber_28 3 rfl ?_
    refine i_div dX12_writeNumber_29 (by unfold in32; omega) ⟨by decide, by decide⟩ (by omega) (by omega) ?_
    refine i_bipush (10) (by decide) dX12_writeNumber_30 ?_
    refine i_rem dX12_writeNumber_32 (by unfold in32; omega) ⟨by decide, by decide⟩ (by omega) (by omega) ?_
    refine i_add dX12_writeNumber_33 ?_
    refine p_callV (As := [.int (iI (48 + ((n / 1) % 10)))]) (b := m) (rest := []) (w := none) (st' := []) kv_X12_writeNumber_269 dX12_writeNumber_34 rfl rfl (Nat.le_of_ble_eq_true rfl) (Nat.le_of_ble_eq_true rfl) (x_rv hU1.1.1 hU1.1.2 rfl) rfl rfl (c_X12_write hU1 (x := 48 + ((n / 1) % 10)) (by omega)) rfl (fun h11 e11 => ?_)
    obtain ⟨hU11, FU11⟩ := e11
    refine r_iload_n dX12_writeNumber_37 3 rfl ?_
    refine i_bipush (10) (by decide) dX12_writeNumber_38 ?_
    refine i_div dX12_writeNumber_40 ⟨by decide, by decide⟩ ⟨by decide, by decide⟩ (by decide) (by decide) ?_
    rw [show (1 : Int) / 10 = 0 from by decide]
    refine r_istore_n (ls' := [(0, .ref m), (1, .int (iI n)), (2, .int (iI P)), (3, .int (iI 0))]) dX12_writeNumber_41 (by decide) rfl ?_
    refine r_goto dX12_writeNumber_42 (tgt := 20) (by decide) ?_
    exact S0 P (bs1 ++ [(48 + n / 1 % 10)]) _ hU11 (hF1.tr FU11) he
  have S2 : ∀ (P : Int) (bs1 : List Int) (h1 : xH), MOU G h1 m a r bs1 → FRp [m, a.2.2.2.2.2.1] h h1 → bs1 ++ [(48 + n / 10 % 10)] ++ [(48 + n / 1 % 10)] = bs ++ digs n → bs1.length + 2 ≤ 1300 → RR G MX12_writeNumber 20 [(0, .ref m), (1, .int (iI n)), (2, .int (iI P)), (3, .int (iI 10))] [] h1 (xm_R MX12_writeNumber).cells (xm_R MX12_writeNumber).slots (fun o h' => o = .inl none ∧ MOU G h' m a r (bs ++ digs n) ∧ FRp [m, a.2.2.2.2.2.1] h h') := by
    intro P bs1 h1 hU1 hF1 he hl1
    refine r_iload_n dX12_writeNumber_20 3 rfl ?_
    refine i_ifle dX12_writeNumber_21 (tgt := 45) (by decide) ⟨by decide, by decide⟩ (fun c => absurd c (by decide)) (fun _ => ?_)
    refine r_aload_n dX12_writeNumber_24 0 rfl ?_
    refine i_bipush (48) (by decide) dX12_writeNumber_25 ?_
    refine r_iload_n dX12_writeNumber_27 1 rfl ?_
    refine r_iload_n dX12_writeNumber_28 3 rfl ?_
    refine i_div dX12_writeNumber_29 (by unfold in32; omega) ⟨by decide, by decide⟩ (by omega) (by omega) ?_
    refine i_bipush (10) (by decide) dX12_writeNumber_30 ?_
    refine i_rem dX12_writeNumber_32 (by unfold in32; omega) ⟨by decide, by decide⟩ (by omega) (by omega) ?_
    refine i_add dX12_writeNumber_33 ?_
    refine p_callV (As := [.int (iI (48 + ((n / 10) % 10)))]) (b := m) (rest := []) (w := none) (st' := []) kv_X12_writeNumber_269 dX12_writeNumber_34 rfl rfl (Nat.le_of_ble_eq_true rfl) (Nat.le_of_ble_eq_true rfl) (x_rv hU1.1.1 hU1.1.2 rfl) rfl rfl (c_X12_write hU1 (x := 48 + ((n / 10) % 10)) (by omega)) rfl (fun h11 e11 => ?_)
    obtain ⟨hU11, FU11⟩ := e11
    refine r_iload_n dX12_writeNumber_37 3 rfl ?_
    refine i_bipush (10) (by decide) dX12_writeNumber_38 ?_
    refine i_div dX12_writeNumber_40 ⟨by decide, by decide⟩ ⟨by decide, by decide⟩ (by decide) (by decide) ?_
    rw [show (10 : Int) / 10 = 1 from by decide]
    refine r_istore_n (ls' := [(0, .ref m), (1, .int (iI n)), (2, .int (iI P)), (3, .int (iI 1))]) dX12_writeNumber_41 (by decide) rfl ?_
    refine r_goto dX12_writeNumber_42 (tgt := 20) (by decide) ?_
    exact S1 P (bs1 ++ [(48 + n / 10 % 10)]) _ hU11 (hF1.tr FU11) he (by simp; omega)
  have S3 : ∀ (P : Int) (bs1 : List Int) (h1 : xH), MOU G h1 m a r bs1 → FRp [m, a.2.2.2.2.2.1] h h1 → bs1 ++ [(48 + n / 100 % 10)] ++ [(48 + n / 10 % 10)] ++ [(48 + n / 1 % 10)] = bs ++ digs n → bs1.length + 3 ≤ 1300 → RR G MX12_writeNumber 20 [(0, .ref m), (1, .int (iI n)), (2, .int (iI P)), (3, .int (iI 100))] [] h1 (xm_R MX12_writeNumber).cells (xm_R MX12_writeNumber).slots (fun o h' => o = .inl none ∧ MOU G h' m a r (bs ++ digs n) ∧ FRp [m, a.2.2.2.2.2.1] h h') := by
    intro P bs1 h1 hU1 hF1 he hl1
    refine r_iload_n dX12_writeNumber_20 3 rfl ?_
    refine i_ifle dX12_writeNumber_21 (tgt := 45) (by decide) ⟨by decide, by decide⟩ (fun c => absurd c (by decide)) (fun _ => ?_)
    refine r_aload_n dX12_writeNumber_24 0 rfl ?_
    refine i_bipush (48) (by decide) dX12_writeNumber_25 ?_
    refine r_iload_n dX12_writeNumber_27 1 rfl ?_
    refine r_iload_n dX12_writeNumber_28 3 rfl ?_
    refine i_div dX12_writeNumber_29 (by unfold in32; omega) ⟨by decide, by decide⟩ (by omega) (by omega) ?_
    refine i_bipush (10) (by decide) dX12_writeNumber_30 ?_
    refine i_rem dX12_writeNumber_32 (by unfold in32; omega) ⟨by decide, by decide⟩ (by omega) (by omega) ?_
    refine i_add dX12_writeNumber_33 ?_
    refine p_callV (As := [.int (iI (48 + ((n / 100) % 10)))]) (b := m) (rest := []) (w := none) (st' := []) kv_X12_writeNumber_269 dX12_writeNumber_34 rfl rfl (Nat.le_of_ble_eq_true rfl) (Nat.le_of_ble_eq_true rfl) (x_rv hU1.1.1 hU1.1.2 rfl) rfl rfl (c_X12_write hU1 (x := 48 + ((n / 100) % 10)) (by omega)) rfl (fun h11 e11 => ?_)
    obtain ⟨hU11, FU11⟩ := e11
    refine r_iload_n dX12_writeNumber_37 3 rfl ?_
    refine i_bipush (10) (by decide) dX12_writeNumber_38 ?_
    refine i_div dX12_writeNumber_40 ⟨by decide, by decide⟩ ⟨by decide, by decide⟩ (by decide) (by decide) ?_
    rw [show (100 : Int) / 10 = 10 from by decide]
    refine r_istore_n (ls' := [(0, .ref m), (1, .int (iI n)), (2, .int (iI P)), (3, .int (iI 10))]) dX12_writeNumber_41 (by decide) rfl ?_
    refine r_goto dX12_writeNumber_42 (tgt := 20) (by decide) ?_
    exact S2 P (bs1 ++ [(48 + n / 100 % 10)]) _ hU11 (hF1.tr FU11) he (by simp; omega)
  have S4 : ∀ (P : Int) (bs1 : List Int) (h1 : xH), MOU G h1 m a r bs1 → FRp [m, a.2.2.2.2.2.1] h h1 → bs1 ++ [(48 + n / 1000 % 10)] ++ [(48 + n / 100 % 10)] ++ [(48 + n / 10 % 10)] ++ [(48 + n / 1 % 10)] = bs ++ digs n → bs1.length + 4 ≤ 1300 → RR G MX12_writeNumber 20 [(0, .ref m), (1, .int (iI n)), (2, .int (iI P)), (3, .int (iI 1000))] [] h1 (xm_R MX12_writeNumber).cells (xm_R MX12_writeNumber).slots (fun o h' => o = .inl none ∧ MOU G h' m a r (bs ++ digs n) ∧ FRp [m, a.2.2.2.2.2.1] h h') := by
    intro P bs1 h1 hU1 hF1 he hl1
    refine r_iload_n dX12_writeNumber_20 3 rfl ?_
    refine i_ifle dX12_writeNumber_21 (tgt := 45) (by decide) ⟨by decide, by decide⟩ (fun c => absurd c (by decide)) (fun _ => ?_)
    refine r_aload_n dX12_writeNumber_24 0 rfl ?_
    refine i_bipush (48) (by decide) dX12_writeNumber_25 ?_
    refine r_iload_n dX12_writeNumber_27 1 rfl ?_
    refine r_iload_n dX12_writeNumber_28 3 rfl ?_
    refine i_div dX12_writeNumber_29 (by unfold in32; omega) ⟨by decide, by decide⟩ (by omega) (by omega) ?_
    refine i_bipush (10) (by decide) dX12_writeNumber_30 ?_
    refine i_rem dX12_writeNumber_32 (by unfold in32; omega) ⟨by decide, by decide⟩ (by omega) (by omega) ?_
    refine i_add dX12_writeNumber_33 ?_
    refine p_callV (As := [.int (iI (48 + ((n / 1000) % 10)))]) (b := m) (rest := []) (w := none) (st' := []) kv_X12_writeNumber_269 dX12_writeNumber_34 rfl rfl (Nat.le_of_ble_eq_true rfl) (Nat.le_of_ble_eq_true rfl) (x_rv hU1.1.1 hU1.1.2 rfl) rfl rfl (c_X12_write hU1 (x := 48 + ((n / 1000) % 10)) (by omega)) rfl (fun h11 e11 => ?_)
    obtain ⟨hU11, FU11⟩ := e11
    refine r_iload_n dX12_writeNumber_37 3 rfl ?_
    refine i_bipush (10) (by decide) dX12_writeNumber_38 ?_
    refine i_div dX12_writeNumber_40 ⟨by decide, by decide⟩ ⟨by decide, by decide⟩ (by decide) (by decide) ?_
    rw [show (1000 : Int) / 10 = 100 from by decide]
    refine r_istore_n (ls' := [(0, .ref m), (1, .int (iI n)), (2, .int (iI P)), (3, .int (iI 100))]) dX12_writeNumber_41 (by decide) rfl ?_
    refine r_goto dX12_writeNumber_42 (tgt := 20) (by decide) ?_
    exact S3 P (bs1 ++ [(48 + n / 1000 % 10)]) _ hU11 (hF1.tr FU11) he (by simp; omega)
  show RR G MX12_writeNumber 0 [(0, .ref m), (1, .int (iI n))] [] h (xm_R MX12_writeNumber).cells (xm_R MX12_writeNumber).slots (fun o h' => o = .inl none ∧ MOU G h' m a r (bs ++ digs n) ∧ FRp [m, a.2.2.2.2.2.1] h h')
  refine i_const (1) dX12_writeNumber_0 ?_
  refine r_istore_n (ls' := [(0, .ref m), (1, .int (iI n)), (2, .int (iI 1))]) dX12_writeNumber_1 (by decide) rfl ?_
  refine r_iload_n dX12_writeNumber_2 1 rfl ?_
  refine r_iload_n dX12_writeNumber_3 2 rfl ?_
  refine i_div dX12_writeNumber_4 (by unfold in32; omega) ⟨by decide, by decide⟩ (by omega) (by omega) ?_
  refine i_bipush (9) (by decide) dX12_writeNumber_5 ?_
  refine i_icmple dX12_writeNumber_7 (tgt := 18) (by decide) (by unfold in32; omega) ⟨by decide, by decide⟩ (fun c7_1 => ?_) (fun c7_1 => ?_)
  · refine r_iload_n dX12_writeNumber_18 2 rfl ?_
    refine r_istore_n (ls' := [(0, .ref m), (1, .int (iI n)), (2, .int (iI 1)), (3, .int (iI 1))]) dX12_writeNumber_19 (by decide) rfl ?_
    exact S1 1 bs h hU FRp.rf (by unfold digs; rw [if_neg (by omega), if_neg (by omega), if_neg (by omega), if_pos (by omega)]; simp) (by omega)
  · refine r_iload_n dX12_writeNumber_10 2 rfl ?_
    refine i_bipush (10) (by decide) dX12_writeNumber_11 ?_
    refine i_mul dX12_writeNumber_13 ?_
    rw [show (1 * 10 : Int) = 10 by decide]
    refine r_istore_n (ls' := [(0, .ref m), (1, .int (iI n)), (2, .int (iI 10))]) dX12_writeNumber_14 (by decide) rfl ?_
    refine r_goto dX12_writeNumber_15 (tgt := 2) (by decide) ?_
    refine r_iload_n dX12_writeNumber_2 1 rfl ?_
    refine r_iload_n dX12_writeNumber_3 2 rfl ?_
    refine i_div dX12_writeNumber_4 (by unfold in32; omega) ⟨by decide, by decide⟩ (by omega) (by omega) ?_
    refine i_bipush (9) (by decide) dX12_writeNumber_5 ?_
    refine i_icmple dX12_writeNumber_7 (tgt := 18) (by decide) (by unfold in32; omega) ⟨by decide, by decide⟩ (fun c7_10 => ?_) (fun c7_10 => ?_)
    · refine r_iload_n dX12_writeNumber_18 2 rfl ?_
      refine r_istore_n (ls' := [(0, .ref m), (1, .int (iI n)), (2, .int (iI 10)), (3, .int (iI 10))]) dX12_writeNumber_19 (by decide) rfl ?_
      exact S2 10 bs h hU FRp.rf (by unfold digs; rw [if_neg (by omega), if_neg (by omega), if_pos (by omega), if_pos (by omega)]; simp) (by omega)
    · refine r_iload_n dX12_writeNumber_10 2 rfl ?_
      refine i_bipush (10) (by decide) dX12_writeNumber_11 ?_
      refine i_mul dX12_writeNumber_13 ?_
      rw [show (10 * 10 : Int) = 100 by decide]
      refine r_istore_n (ls' := [(0, .ref m), (1, .int (iI n)), (2, .int (iI 100))]) dX12_writeNumber_14 (by decide) rfl ?_
      refine r_goto dX12_writeNumber_15 (tgt := 2) (by decide) ?_
      refine r_iload_n dX12_writeNumber_2 1 rfl ?_
      refine r_iload_n dX12_writeNumber_3 2 rfl ?_
      refine i_div dX12_writeNumber_4 (by unfold in32; omega) ⟨by decide, by decide⟩ (by omega) (by omega) ?_
      refine i_bipush (9) (by decide) dX12_writeNumber_5 ?_
      refine i_icmple dX12_writeNumber_7 (tgt := 18) (by decide) (by unfold in32; omega) ⟨by decide, by decide⟩ (fun c7_100 => ?_) (fun c7_100 => ?_)
      · refine r_iload_n dX12_writeNumber_18 2 rfl ?_
        refine r_istore_n (ls' := [(0, .ref m), (1, .int (iI n)), (2, .int (iI 100)), (3, .int (iI 100))]) dX12_writeNumber_19 (by decide) rfl ?_
        exact S3 100 bs h hU FRp.rf (by unfold digs; rw [if_neg (by omega), if_pos (by omega), if_pos (by omega), if_pos (by omega)]; simp) (by omega)
      · refine r_iload_n dX12_writeNumber_10 2 rfl ?_
        refine i_bipush (10) (by decide) dX12_writeNumber_11 ?_
        refine i_mul dX12_writeNumber_13 ?_
        rw [show (100 * 10 : Int) = 1000 by decide]
        refine r_istore_n (ls' := [(0, .ref m), (1, .int (iI n)), (2, .int (iI 1000))]) dX12_writeNumber_14 (by decide) rfl ?_
        refine r_goto dX12_writeNumber_15 (tgt := 2) (by decide) ?_
        refine r_iload_n dX12_writeNumber_2 1 rfl ?_
        refine r_iload_n dX12_writeNumber_3 2 rfl ?_
        refine i_div dX12_writeNumber_4 (by unfold in32; omega) ⟨by decide, by decide⟩ (by omega) (by omega) ?_
        refine i_bipush (9) (by decide) dX12_writeNumber_5 ?_
        refine i_icmple dX12_writeNumber_7 (tgt := 18) (by decide) (by unfold in32; omega) ⟨by decide, by decide⟩ (fun _ => ?_) (fun c => absurd c (by omega))
        refine r_iload_n dX12_writeNumber_18 2 rfl ?_
        refine r_istore_n (ls' := [(0, .ref m), (1, .int (iI n)), (2, .int (iI 1000)), (3, .int (iI 1000))]) dX12_writeNumber_19 (by decide) rfl ?_
        exact S4 1000 bs h hU FRp.rf (by unfold digs; rw [if_pos (by omega), if_pos (by omega), if_pos (by omega), if_pos (by omega)]; simp) (by omega)
set_option maxRecDepth 20000 in
set_option maxHeartbeats 1000000 in
theorem c_X12_writeSheet_ok {G : xG} {h : xH} {m : Nat} {a : MA} {r : MR} (hM : MO G h m a r) {g : Nat → Int32} (hR : AR G h r.1 1456 g) {n : Nat} (hn : n ≤ 6) (hc : g 3 = iI (n : Int)) {i : Nat} (hi : i < n) {s : AS} (hw : SWr g (7 + 207 * i) s) (hW : WS s) {go : Nat → Int32} (hO : AR G h a.2.2.2.2.2.1 1300 go) : CC G MX12_writeSheet [.ref m, .int (iI ((i : Int)))] h (fun o h' => o = .inl (some (.int (iI ((wrL s.1 s.1.length).length : Int)))) ∧ MOU G h' m a (r_th r 0) (wrL s.1 s.1.length) ∧ FRp [m, a.2.2.2.2.2.1] h h') := by
  obtain ⟨hl1, hnz, hh4, hw0, hw9⟩ := id hW
  have hl2 := hw.len
  have hg0 := hgt_nn s.1
  have hgl := hgt_ge s.1 hnz
  have hmr := (hM.ne hR).symm
  have hro : r.1 ≠ a.2.2.2.2.2.1 := ne_sz hR.2 hO.2 (by decide)
  have L : ∀ k, k ≤ s.1.length → ∀ (h1 : xH), MOU G h1 m a (r_th r 0) (wrL s.1 k) → AR G h1 r.1 1456 g → FRp [m, a.2.2.2.2.2.1] h h1 → RR G MX12_writeSheet 29 [(0, .ref m), (1, .int (iI ((i : Int)))), (2, .int (iI ((s.1.length : Int) - 1 - (k : Int))))] [] h1 (xm_R MX12_writeSheet).cells (xm_R MX12_writeSheet).slots (fun o h' => o = .inl (some (.int (iI ((wrL s.1 s.1.length).length : Int)))) ∧ MOU G h' m a (r_th r 0) (wrL s.1 s.1.length) ∧ FRp [m, a.2.2.2.2.2.1] h h') := by
    refine down (fun k hk ih => ?_)
    intro h1 hU1 hR1 hF1
    have hwl := wrL_len s.1 k
    refine r_iload_n dX12_writeSheet_29 2 rfl ?_
    refine i_iflt dX12_writeSheet_30 (tgt := 82) (by decide) (by unfold in32; omega) (fun c30 => ?_) (fun c30 => ?_)
    · refine r_aload_n dX12_writeSheet_82 0 rfl ?_
      refine m_g_ol (v := ((wrL s.1 k).length : Int)) hU1.1 rfl kf_X12_266 dX12_writeSheet_83 ?_
      refine r_ireturn rfl rfl dX12_writeSheet_86 ?_
      rw [show s.1.length = k by omega]
      exact ⟨rfl, hU1, hF1⟩
    · have hlx := lay_b (l := s.1) hh4 (k := (s.1.length - 1 - k)) (by omega)
      refine r_aload_n dX12_writeSheet_33 0 rfl ?_
      refine r_aload_n dX12_writeSheet_34 0 rfl ?_
      refine r_iload_n dX12_writeSheet_35 1 rfl ?_
      refine r_iload_n dX12_writeSheet_36 2 rfl ?_
      refine p_callV (As := [.int (iI ((i : Int))), .int (iI ((s.1.length : Int) - 1 - (k : Int)))]) (b := m) (rest := [.ref m]) (w := (some (.int (iI (s.1.getD (s.1.length - 1 - k) 0))))) (st' := [.int (iI (s.1.getD (s.1.length - 1 - k) 0)), .ref m]) kv_X12_writeSheet_97 dX12_writeSheet_37 rfl rfl (Nat.le_of_ble_eq_true rfl) (Nat.le_of_ble_eq_true rfl) (x_rv hU1.1.1 hU1.1.2 rfl) rfl rfl (c_X12_layer_z hU1.1 hR1 (i := i) (k := (s.1.length - 1 - k)) (by omega) (by omega) hw (by omega)) rfl (fun h11 e11 => ?_)
      rw [show h11 = h1 from e11]
      refine i_ifge dX12_writeSheet_40 (tgt := 48) (by decide) (by unfold in32; omega) (fun c40 => ?_) (fun c40 => ?_)
      · refine i_bipush (68) (by decide) dX12_writeSheet_48 ?_
        refine p_callV (As := [.int (iI 68)]) (b := m) (rest := []) (w := none) (st' := []) kv_X12_writeSheet_269 dX12_writeSheet_50 rfl rfl (Nat.le_of_ble_eq_true rfl) (Nat.le_of_ble_eq_true rfl) (x_rv hU1.1.1 hU1.1.2 rfl) rfl rfl (c_X12_write hU1 (x := 68) (by omega)) rfl (fun h12 e12 => ?_)
        obtain ⟨hU12, FU12⟩ := e12
        have hR12 := hR1.fr FU12 (nm2 hmr hro)
        have hF12 := hF1.tr FU12
        refine r_aload_n dX12_writeSheet_53 0 rfl ?_
        refine r_aload_n dX12_writeSheet_54 0 rfl ?_
        refine r_iload_n dX12_writeSheet_55 1 rfl ?_
        refine r_iload_n dX12_writeSheet_56 2 rfl ?_
        refine p_callV (As := [.int (iI ((i : Int))), .int (iI ((s.1.length : Int) - 1 - (k : Int)))]) (b := m) (rest := [.ref m]) (w := (some (.int (iI (s.1.getD (s.1.length - 1 - k) 0))))) (st' := [.int (iI (s.1.getD (s.1.length - 1 - k) 0)), .ref m]) kv_X12_writeSheet_97 dX12_writeSheet_57 rfl rfl (Nat.le_of_ble_eq_true rfl) (Nat.le_of_ble_eq_true rfl) (x_rv hU12.1.1 hU12.1.2 rfl) rfl rfl (c_X12_layer_z hU12.1 hR12 (i := i) (k := (s.1.length - 1 - k)) (by omega) (by omega) hw (by omega)) rfl (fun h13 e13 => ?_)
        rw [show h13 = h12 from e13]
        refine p_callS (As := [.int (iI (s.1.getD (s.1.length - 1 - k) 0))]) (rest := [.ref m]) (w := (some (.int (iI (sz (s.1.getD (s.1.length - 1 - k) 0)))))) (st' := [.int (iI (sz (s.1.getD (s.1.length - 1 - k) 0))), .ref m]) kv_X12_writeSheet_121 dX12_writeSheet_60 rfl rfl (Nat.le_of_ble_eq_true rfl) (Nat.le_of_ble_eq_true rfl) rfl rfl (c_X12_sizeOf (by unfold in32; omega)) rfl (fun h14 e14 => ?_)
        rw [show h14 = h12 from e14]
        have ec := sz_le (l := s.1) (i := (s.1.length - 1 - k)) (by omega)
        have ep := sz_pos (hnz _ (getD_mem (l := s.1) (i := (s.1.length - 1 - k)) (by omega)))
        have hdl := digs_len (sz (s.1.getD (s.1.length - 1 - k) 0))
        refine p_callV (As := [.int (iI (sz (s.1.getD (s.1.length - 1 - k) 0)))]) (b := m) (rest := []) (w := none) (st' := []) kv_X12_writeSheet_272 dX12_writeSheet_63 rfl rfl (Nat.le_of_ble_eq_true rfl) (Nat.le_of_ble_eq_true rfl) (x_rv hU12.1.1 hU12.1.2 rfl) rfl rfl (c_X12_writeNumber hU12 (n := sz (s.1.getD (s.1.length - 1 - k) 0)) (by omega) (by simp only [List.length_append, List.length_singleton]; omega)) rfl (fun h15 e15 => ?_)
        obtain ⟨hU15, FU15⟩ := e15
        have hR15 := hR12.fr FU15 (nm2 hmr hro)
        have hF15 := hF12.tr FU15
        refine r_iload_n dX12_writeSheet_66 2 rfl ?_
        refine i_ifle dX12_writeSheet_67 (tgt := 76) (by decide) (by unfold in32; omega) (fun c67 => ?_) (fun c67 => ?_)
        · refine i_iinc (ls' := [(0, .ref m), (1, .int (iI ((i : Int)))), (2, .int (iI (((s.1.length : Int) - 1 - (k : Int)) - 1)))]) (-1) (v := ((s.1.length : Int) - 1 - (k : Int)) - 1) dX12_writeSheet_76 2 rfl (by omega) (by decide) rfl ?_
          refine r_goto dX12_writeSheet_79 (tgt := 29) (by decide) ?_
          have e : wrL s.1 k ++ [68] ++ digs (sz (s.1.getD (s.1.length - 1 - k) 0)) = wrL s.1 (k + 1) := by
            have eb : isB (s.1.getD (s.1.length - 1 - k) 0) = false := decide_eq_false (by omega)
            simp only [wrL, layT, eb, if_true, Bool.false_eq_true, if_false]
            rw [if_neg (by omega)]
            simp [List.append_assoc]
          rw [e] at hU15
          have q := ih (k + 1) (by omega) (by omega) _ hU15 hR15 hF15
          rw [show (s.1.length : Int) - 1 - ((k + 1 : Nat) : Int) = (s.1.length : Int) - 1 - (k : Int) - 1 by omega] at q
          exact q
        · refine r_aload_n dX12_writeSheet_70 0 rfl ?_
          refine i_bipush (32) (by decide) dX12_writeSheet_71 ?_
          refine p_callV (As := [.int (iI 32)]) (b := m) (rest := []) (w := none) (st' := []) kv_X12_writeSheet_269 dX12_writeSheet_73 rfl rfl (Nat.le_of_ble_eq_true rfl) (Nat.le_of_ble_eq_true rfl) (x_rv hU15.1.1 hU15.1.2 rfl) rfl rfl (c_X12_write hU15 (x := 32) (by simp only [List.length_append, List.length_singleton]; omega)) rfl (fun h16 e16 => ?_)
          obtain ⟨hU16, FU16⟩ := e16
          have hR16 := hR15.fr FU16 (nm2 hmr hro)
          have hF16 := hF15.tr FU16
          refine i_iinc (ls' := [(0, .ref m), (1, .int (iI ((i : Int)))), (2, .int (iI (((s.1.length : Int) - 1 - (k : Int)) - 1)))]) (-1) (v := ((s.1.length : Int) - 1 - (k : Int)) - 1) dX12_writeSheet_76 2 rfl (by omega) (by decide) rfl ?_
          refine r_goto dX12_writeSheet_79 (tgt := 29) (by decide) ?_
          have e : wrL s.1 k ++ [68] ++ digs (sz (s.1.getD (s.1.length - 1 - k) 0)) ++ [32] = wrL s.1 (k + 1) := by
            have eb : isB (s.1.getD (s.1.length - 1 - k) 0) = false := decide_eq_false (by omega)
            simp only [wrL, layT, eb, if_true, Bool.false_eq_true, if_false]
            rw [if_pos (by omega)]
            simp [List.append_assoc]
          rw [e] at hU16
          have q := ih (k + 1) (by omega) (by omega) _ hU16 hR16 hF16
          rw [show (s.1.length : Int) - 1 - ((k + 1 : Nat) : Int) = (s.1.length : Int) - 1 - (k : Int) - 1 by omega] at q
          exact q
      · refine i_bipush (66) (by decide) dX12_writeSheet_43 ?_
        refine r_goto dX12_writeSheet_45 (tgt := 50) (by decide) ?_
        refine p_callV (As := [.int (iI 66)]) (b := m) (rest := []) (w := none) (st' := []) kv_X12_writeSheet_269 dX12_writeSheet_50 rfl rfl (Nat.le_of_ble_eq_true rfl) (Nat.le_of_ble_eq_true rfl) (x_rv hU1.1.1 hU1.1.2 rfl) rfl rfl (c_X12_write hU1 (x := 66) (by omega)) rfl (fun h17 e17 => ?_)
        obtain ⟨hU17, FU17⟩ := e17
        have hR17 := hR1.fr FU17 (nm2 hmr hro)
        have hF17 := hF1.tr FU17
        refine r_aload_n dX12_writeSheet_53 0 rfl ?_
        refine r_aload_n dX12_writeSheet_54 0 rfl ?_
        refine r_iload_n dX12_writeSheet_55 1 rfl ?_
        refine r_iload_n dX12_writeSheet_56 2 rfl ?_
        refine p_callV (As := [.int (iI ((i : Int))), .int (iI ((s.1.length : Int) - 1 - (k : Int)))]) (b := m) (rest := [.ref m]) (w := (some (.int (iI (s.1.getD (s.1.length - 1 - k) 0))))) (st' := [.int (iI (s.1.getD (s.1.length - 1 - k) 0)), .ref m]) kv_X12_writeSheet_97 dX12_writeSheet_57 rfl rfl (Nat.le_of_ble_eq_true rfl) (Nat.le_of_ble_eq_true rfl) (x_rv hU17.1.1 hU17.1.2 rfl) rfl rfl (c_X12_layer_z hU17.1 hR17 (i := i) (k := (s.1.length - 1 - k)) (by omega) (by omega) hw (by omega)) rfl (fun h18 e18 => ?_)
        rw [show h18 = h17 from e18]
        refine p_callS (As := [.int (iI (s.1.getD (s.1.length - 1 - k) 0))]) (rest := [.ref m]) (w := (some (.int (iI (sz (s.1.getD (s.1.length - 1 - k) 0)))))) (st' := [.int (iI (sz (s.1.getD (s.1.length - 1 - k) 0))), .ref m]) kv_X12_writeSheet_121 dX12_writeSheet_60 rfl rfl (Nat.le_of_ble_eq_true rfl) (Nat.le_of_ble_eq_true rfl) rfl rfl (c_X12_sizeOf (by unfold in32; omega)) rfl (fun h19 e19 => ?_)
        rw [show h19 = h17 from e19]
        have ec := sz_le (l := s.1) (i := (s.1.length - 1 - k)) (by omega)
        have ep := sz_pos (hnz _ (getD_mem (l := s.1) (i := (s.1.length - 1 - k)) (by omega)))
        have hdl := digs_len (sz (s.1.getD (s.1.length - 1 - k) 0))
        refine p_callV (As := [.int (iI (sz (s.1.getD (s.1.length - 1 - k) 0)))]) (b := m) (rest := []) (w := none) (st' := []) kv_X12_writeSheet_272 dX12_writeSheet_63 rfl rfl (Nat.le_of_ble_eq_true rfl) (Nat.le_of_ble_eq_true rfl) (x_rv hU17.1.1 hU17.1.2 rfl) rfl rfl (c_X12_writeNumber hU17 (n := sz (s.1.getD (s.1.length - 1 - k) 0)) (by omega) (by simp only [List.length_append, List.length_singleton]; omega)) rfl (fun h20 e20 => ?_)
        obtain ⟨hU20, FU20⟩ := e20
        have hR20 := hR17.fr FU20 (nm2 hmr hro)
        have hF20 := hF17.tr FU20
        refine r_iload_n dX12_writeSheet_66 2 rfl ?_
        refine i_ifle dX12_writeSheet_67 (tgt := 76) (by decide) (by unfold in32; omega) (fun c67 => ?_) (fun c67 => ?_)
        · refine i_iinc (ls' := [(0, .ref m), (1, .int (iI ((i : Int)))), (2, .int (iI (((s.1.length : Int) - 1 - (k : Int)) - 1)))]) (-1) (v := ((s.1.length : Int) - 1 - (k : Int)) - 1) dX12_writeSheet_76 2 rfl (by omega) (by decide) rfl ?_
          refine r_goto dX12_writeSheet_79 (tgt := 29) (by decide) ?_
          have e : wrL s.1 k ++ [66] ++ digs (sz (s.1.getD (s.1.length - 1 - k) 0)) = wrL s.1 (k + 1) := by
            have eb : isB (s.1.getD (s.1.length - 1 - k) 0) = true := decide_eq_true c40
            simp only [wrL, layT, eb, if_true, Bool.false_eq_true, if_false]
            rw [if_neg (by omega)]
            simp [List.append_assoc]
          rw [e] at hU20
          have q := ih (k + 1) (by omega) (by omega) _ hU20 hR20 hF20
          rw [show (s.1.length : Int) - 1 - ((k + 1 : Nat) : Int) = (s.1.length : Int) - 1 - (k : Int) - 1 by omega] at q
          exact q
        · refine r_aload_n dX12_writeSheet_70 0 rfl ?_
          refine i_bipush (32) (by decide) dX12_writeSheet_71 ?_
          refine p_callV (As := [.int (iI 32)]) (b := m) (rest := []) (w := none) (st' := []) kv_X12_writeSheet_269 dX12_writeSheet_73 rfl rfl (Nat.le_of_ble_eq_true rfl) (Nat.le_of_ble_eq_true rfl) (x_rv hU20.1.1 hU20.1.2 rfl) rfl rfl (c_X12_write hU20 (x := 32) (by simp only [List.length_append, List.length_singleton]; omega)) rfl (fun h21 e21 => ?_)
          obtain ⟨hU21, FU21⟩ := e21
          have hR21 := hR20.fr FU21 (nm2 hmr hro)
          have hF21 := hF20.tr FU21
          refine i_iinc (ls' := [(0, .ref m), (1, .int (iI ((i : Int)))), (2, .int (iI (((s.1.length : Int) - 1 - (k : Int)) - 1)))]) (-1) (v := ((s.1.length : Int) - 1 - (k : Int)) - 1) dX12_writeSheet_76 2 rfl (by omega) (by decide) rfl ?_
          refine r_goto dX12_writeSheet_79 (tgt := 29) (by decide) ?_
          have e : wrL s.1 k ++ [66] ++ digs (sz (s.1.getD (s.1.length - 1 - k) 0)) ++ [32] = wrL s.1 (k + 1) := by
            have eb : isB (s.1.getD (s.1.length - 1 - k) 0) = true := decide_eq_true c40
            simp only [wrL, layT, eb, if_true, Bool.false_eq_true, if_false]
            rw [if_pos (by omega)]
            simp [List.append_assoc]
          rw [e] at hU21
          have q := ih (k + 1) (by omega) (by omega) _ hU21 hR21 hF21
          rw [show (s.1.length : Int) - 1 - ((k + 1 : Nat) : Int) = (s.1.length : Int) - 1 - (k : Int) - 1 by omega] at q
          exact q
  show RR G MX12_writeSheet 0 [(0, .ref m), (1, .int (iI ((i : Int))))] [] h (xm_R MX12_writeSheet).cells (xm_R MX12_writeSheet).slots (fun o h' => o = .inl (some (.int (iI ((wrL s.1 s.1.length).length : Int)))) ∧ MOU G h' m a (r_th r 0) (wrL s.1 s.1.length) ∧ FRp [m, a.2.2.2.2.2.1] h h')
  refine r_aload_n dX12_writeSheet_0 0 rfl ?_
  refine r_aload_n dX12_writeSheet_1 0 rfl ?_
  refine r_iload_n dX12_writeSheet_2 1 rfl ?_
  refine p_callV (As := [.int (iI ((i : Int)))]) (b := m) (rest := [.ref m]) (w := (some (.int (iI (b2 true))))) (st' := [.int (iI (b2 true)), .ref m]) kv_X12_writeSheet_111 dX12_writeSheet_3 rfl rfl (Nat.le_of_ble_eq_true rfl) (Nat.le_of_ble_eq_true rfl) (x_rv hM.1 hM.2 rfl) rfl rfl (c_X12_isSheet_t hM hR hn hc hi) rfl (fun h61 e61 => ?_)
  rw [show h61 = h from e61]
  refine p_callV (As := [.int (iI (b2 true))]) (b := m) (rest := []) (w := (some (.int (iI 0)))) (st' := [.int (iI 0)]) kv_X12_writeSheet_82 dX12_writeSheet_6 rfl rfl (Nat.le_of_ble_eq_true rfl) (Nat.le_of_ble_eq_true rfl) (x_rv hM.1 hM.2 rfl) rfl rfl (c_X12_lacks_t hM) rfl (fun h62 e62 => ?_)
  obtain ⟨hM62, F62⟩ := e62
  have hR62 := hR.obj hM F62
  refine i_ifeq dX12_writeSheet_9 (tgt := 14) (by decide) ⟨by decide, by decide⟩ (fun _ => ?_) (fun c => absurd c (by decide))
  refine r_aload_n dX12_writeSheet_14 0 rfl ?_
  refine i_const (0) dX12_writeSheet_15 ?_
  refine m_p_ol (v := 0) hM62 kf_X12_266 dX12_writeSheet_16 (fun h63 hM63 F63 => ?_)
  have hR63 := hR62.obj hM62 F63
  refine r_aload_n dX12_writeSheet_19 0 rfl ?_
  refine r_iload_n dX12_writeSheet_20 1 rfl ?_
  refine i_bipush (6) (by decide) dX12_writeSheet_21 ?_
  refine p_callV (As := [.int (iI ((i : Int))), .int (iI 6)]) (b := m) (rest := []) (w := (some (.int (iI ((s.1.length : Int)))))) (st' := [.int (iI ((s.1.length : Int)))]) kv_X12_writeSheet_93 dX12_writeSheet_23 rfl rfl (Nat.le_of_ble_eq_true rfl) (Nat.le_of_ble_eq_true rfl) (x_rv hM63.1 hM63.2 rfl) rfl rfl (c_X12_of hM63 hR63 (i := i) (w := 6) (by omega) (by decide) hw.2.2.2.2.2.2.1) rfl (fun h64 e64 => ?_)
  rw [show h64 = h63 from e64]
  refine i_const (1) dX12_writeSheet_26 ?_
  refine i_sub dX12_writeSheet_27 ?_
  refine r_istore_n (ls' := [(0, .ref m), (1, .int (iI ((i : Int)))), (2, .int (iI ((s.1.length : Int) - 1)))]) dX12_writeSheet_28 (by decide) rfl ?_
  have hO2 : AR G h63 a.2.2.2.2.2.1 1300 go := (hO.obj hM F62).obj hM62 F63
  have q := L 0 (by omega) h63 ⟨hM63, go, hO2, Nat.zero_le _, fun k hk => absurd hk (Nat.not_lt_zero k)⟩ hR63 (FRm (F62.tr F63))
  rw [show (s.1.length : Int) - 1 - ((0 : Nat) : Int) = (s.1.length : Int) - 1 by omega] at q
  exact q
set_option maxRecDepth 20000 in
set_option maxHeartbeats 1000000 in
theorem c_X12_writeSheet_no {G : xG} {h : xH} {m : Nat} {a : MA} {r : MR} (hM : MO G h m a r) {g : Nat → Int32} (hR : AR G h r.1 1456 g) {n : Nat} (hn : n ≤ 6) (hc : g 3 = iI (n : Int)) {z : Int} (hz : in32 z) (hs : ¬ (0 ≤ z ∧ z < (n : Int))) : CC G MX12_writeSheet [.ref m, .int (iI z)] h (fun o h' => o = .inl (some (.int (iI 0))) ∧ MO G h' m a (r_th r 1) ∧ FRp [m] h h') := by
  show RR G MX12_writeSheet 0 [(0, .ref m), (1, .int (iI z))] [] h (xm_R MX12_writeSheet).cells (xm_R MX12_writeSheet).slots (fun o h' => o = .inl (some (.int (iI 0))) ∧ MO G h' m a (r_th r 1) ∧ FRp [m] h h')
  refine r_aload_n dX12_writeSheet_0 0 rfl ?_
  refine r_aload_n dX12_writeSheet_1 0 rfl ?_
  refine r_iload_n dX12_writeSheet_2 1 rfl ?_
  refine p_callV (As := [.int (iI z)]) (b := m) (rest := [.ref m]) (w := (some (.int (iI (b2 false))))) (st' := [.int (iI (b2 false)), .ref m]) kv_X12_writeSheet_111 dX12_writeSheet_3 rfl rfl (Nat.le_of_ble_eq_true rfl) (Nat.le_of_ble_eq_true rfl) (x_rv hM.1 hM.2 rfl) rfl rfl (c_X12_isSheet_f hM hR hn hc hz hs) rfl (fun h1 e1 => ?_)
  rw [show h1 = h from e1]
  refine p_callV (As := [.int (iI (b2 false))]) (b := m) (rest := []) (w := (some (.int (iI 1)))) (st' := [.int (iI 1)]) kv_X12_writeSheet_82 dX12_writeSheet_6 rfl rfl (Nat.le_of_ble_eq_true rfl) (Nat.le_of_ble_eq_true rfl) (x_rv hM.1 hM.2 rfl) rfl rfl (c_X12_lacks_f hM) rfl (fun h2 e2 => ?_)
  obtain ⟨hM2, F2⟩ := e2
  have hR2 := hR.obj hM F2
  refine i_ifeq dX12_writeSheet_9 (tgt := 14) (by decide) ⟨by decide, by decide⟩ (fun c => absurd c (by decide)) (fun _ => ?_)
  refine i_const (0) dX12_writeSheet_12 ?_
  refine r_ireturn rfl rfl dX12_writeSheet_13 ?_
  exact ⟨rfl, hM2, F2⟩
theorem MB.ask {G : xG} {h : xH} {sa : Nat → Nat} {m : Nat} {a : MA} {S : XS} {c0 : Int} (hB0 : MB G h sa m a S c0) {M : xM} {av : List Value} {v : xR} {c : Int} (k : ∀ (r : MR) (g : Nat → Int32), MO G h m a r → AR G h r.1 1456 g → RWf g 0 S.2.2.1 → MBr G h sa m a r S none → CC G M av h (fun o h' => o = v ∧ MO G h' m a (r_th r c) ∧ FRp [m] h h')) : CC G M av h (fun o h' => o = v ∧ MB G h' sa m a S c ∧ FRp (fpM m a) h h') := by
  obtain ⟨r, hth, hB⟩ := hB0
  obtain ⟨g, hR, hRW⟩ := hB.now
  refine cc_mono (k r g hB.1 hR hRW hB) (fun o h' q => ?_)
  obtain ⟨q1, q2, q3⟩ := q
  exact ⟨q1, MB.mk (hB.obj q2 ⟨rfl, rfl, rfl, rfl, rfl, rfl, rfl, rfl⟩ q3) rfl, fpm_m q3⟩
theorem MB.asks {G : xG} {h : xH} {sa : Nat → Nat} {m : Nat} {a : MA} {S : XS} {c0 : Int} (hB0 : MB G h sa m a S c0) {M : xM} {av : List Value} {v : xR} {c : Int} (k : ∀ (r : MR) (g : Nat → Int32), MO G h m a r → AR G h r.1 1456 g → RWf g 0 S.2.2.1 → CC G M av h (fun o h' => o = v ∧ SCQ G h h' m a r g c)) : CC G M av h (fun o h' => o = v ∧ MB G h' sa m a S c ∧ FRp (fpM m a) h h') := by
  obtain ⟨r, hth, hB⟩ := hB0
  obtain ⟨g, hR, hRW⟩ := hB.now
  refine cc_mono (k r g hB.1 hR hRW) (fun o h' q => ?_)
  obtain ⟨q1, r', g', q2, q3, q4, q5, q6, ⟨s6, q7⟩, q8⟩ := q
  exact ⟨q1, MB.mk (hB.row q2 q3 q5 (hRW.scr q6 q7) q8) q4, fpm_r q8 hB.2.1.1⟩
theorem fpm_s {m : Nat} {a : MA} {h h' : xH} (hF : FRp [m, a.2.2.2.1] h h') : FRp (fpM m a) h h' := hF.mono (by simp [fpM])
theorem fpm_o {m : Nat} {a : MA} {h h' : xH} (hF : FRp [m, a.2.2.2.2.2.1] h h') : FRp (fpM m a) h h' := hF.mono (by simp [fpM])
theorem b_X12_undo_ok {G : xG} {h : xH} {sa : Nat → Nat} {m : Nat} {a : MA} {S : XS} {c0 : Int} (hB0 : MB G h sa m a S c0) (h1 : 1 ≤ S.2.2.2.2.1.length) : CC G MX12_undo [.ref m] h (fun o h' => o = .inl (some (.int (iI (S.2.2.2.2.1.dropLast.length : Int)))) ∧ MB G h' sa m a (S.1, S.2.1, S.2.2.2.2.1.getD (S.2.2.2.2.1.length - 1) dB, S.2.2.2.1, S.2.2.2.2.1.dropLast, S.2.2.2.2.2) 0 ∧ FRp (fpM m a) h h') := by
  obtain ⟨r, hth, hB⟩ := hB0
  obtain ⟨hM, hf, ⟨⟨gn, hn, hnW⟩, ⟨gd, hd⟩, ⟨gk, hk, hkW⟩, ⟨gs, hs, hsW⟩, ⟨gh, hh, hhl, hhW⟩, ⟨go, ho, hol, hoW⟩, hI, ⟨gq, hod⟩, how⟩, hND⟩ := id hB
  obtain ⟨gi, hI1, hI2, hI3, hI4, hI5⟩ := id hI
  obtain ⟨ow1, gw, ow2, ow3⟩ := id how
  have hds : DSa m a := hB.ds
  obtain ⟨f1, f2, f3, f4, f5, f6, f7⟩ := hf
  refine cc_mono (c_X12_undo_ok hM hh hn (n9 := S.2.2.2.2.1.length - 1) (by omega) (by rw [f2]; omega)) (fun o h' q => ?_)
  obtain ⟨q1, q2, q3, hF⟩ := q
  have el : (S.2.2.2.2.1.dropLast.length : Int) = ((S.2.2.2.2.1.length - 1 : Nat) : Int) := by simp
  refine ⟨by rw [el]; exact q1, ⟨_, rfl, q2, ⟨f1, ?_, f3, f4, f5, f6, f7⟩, ⟨⟨_, q3, ?_⟩, ⟨gd, hd.fr hF (nm2 (hds.2.1).symm (hds.2.2.2.2.2.2.2.2.2.1).symm)⟩, ⟨gk, hk.fr hF (nm2 (hds.2.2.1).symm (hds.2.2.2.2.2.2.2.2.2.2.1).symm), hkW⟩, ⟨gs, hs.fr hF (nm2 (hds.2.2.2.1).symm (hds.2.2.2.2.2.2.2.2.2.2.2.1).symm), hsW⟩, ⟨gh, hh.fr hF (nm2 (hds.2.2.2.2.1).symm (hds.2.2.2.2.2.2.2.2.2.2.2.2.1).symm), ?_, ?_⟩, ⟨go, ho.fr hF (nm2 (hds.2.2.2.2.2.1).symm (hds.2.2.2.2.2.2.2.2.2.2.2.2.2.1).symm), hol, hoW⟩, hI.fr hF (nm2 (hds.2.2.2.2.2.2.1).symm (hds.2.2.2.2.2.2.2.2.2.2.2.2.2.2.1).symm), ⟨gq, hod.fr hF (nm2 (hds.2.2.2.2.2.2.2.1).symm (hds.2.2.2.2.2.2.2.2.2.2.2.2.2.2.2.1).symm)⟩, ⟨by rw [hF.1]; exact ow1, gw, (hF.2 _ (nm2 (hds.2.2.2.2.2.2.2.2.1).symm (hds.2.2.2.2.2.2.2.2.2.2.2.2.2.2.2.2.1).symm)).trans ow2, ow3⟩⟩, hND⟩, fpm_n hF⟩
  · show ((S.2.2.2.2.1.length - 1 : Nat) : Int) = (S.2.2.2.2.1.dropLast.length : Int)
    rw [el]
  · exact (hhW (S.2.2.2.2.1.length - 1) (by omega)).mv (fun k hk => cpy_in hk)
  · show S.2.2.2.2.1.dropLast.length ≤ 8
    simp; omega
  · intro k hk
    have hk : k < S.2.2.2.2.1.dropLast.length := hk
    have hk2 : k < S.2.2.2.2.1.length - 1 := by simpa using hk
    show RWf gh (1456 * k) (S.2.2.2.2.1.dropLast.getD k dB)
    rw [show S.2.2.2.2.1.dropLast.getD k dB = S.2.2.2.2.1.getD k dB by rw [List.getD_eq_getElem?_getD, List.getD_eq_getElem?_getD, List.getElem?_dropLast, if_pos hk2]]
    exact hhW k (by omega)
theorem b_X12_undo_no {G : xG} {h : xH} {sa : Nat → Nat} {m : Nat} {a : MA} {S : XS} {c0 : Int} (hB0 : MB G h sa m a S c0) (h1 : S.2.2.2.2.1.length = 0) : CC G MX12_undo [.ref m] h (fun o h' => o = .inl (some (.int (iI 0))) ∧ MB G h' sa m a S 1 ∧ FRp (fpM m a) h h') := hB0.ask (fun r g hM hR hRW hB => c_X12_undo_no hM (by rw [hB.2.1.2.1, h1]; rfl))
theorem b_X12_saveSnapshot {G : xG} {h : xH} {sa : Nat → Nat} {m : Nat} {a : MA} {S : XS} {c0 : Int} (hB0 : MB G h sa m a S c0) : CC G MX12_saveSnapshot [.ref m] h (fun o h' => o = .inl none ∧ MB G h' sa m a (S.1, S.2.1, S.2.2.1, some S.2.2.1, S.2.2.2.2.1, S.2.2.2.2.2) 0 ∧ FRp (fpM m a) h h') := by
  obtain ⟨r, hth, hB⟩ := hB0
  obtain ⟨hM, hf, ⟨⟨gn, hn, hnW⟩, ⟨gd, hd⟩, ⟨gk, hk, hkW⟩, ⟨gs, hs, hsW⟩, ⟨gh, hh, hhl, hhW⟩, ⟨go, ho, hol, hoW⟩, hI, ⟨gq, hod⟩, how⟩, hND⟩ := id hB
  obtain ⟨gi, hI1, hI2, hI3, hI4, hI5⟩ := id hI
  obtain ⟨ow1, gw, ow2, ow3⟩ := id how
  have hds : DSa m a := hB.ds
  obtain ⟨f1, f2, f3, f4, f5, f6, f7⟩ := hf
  refine cc_mono (c_X12_saveSnapshot hM hs hn) (fun o h' q => ?_)
  obtain ⟨q1, q2, q3, hF⟩ := q
  exact ⟨q1, ⟨_, rfl, q2, ⟨f1, f2, f3, rfl, f5, f6, f7⟩, ⟨⟨gn, hn.fr hF (nm2 (hds.1).symm (hds.2.2.2.2.2.2.2.2.2.2.2.1)), hnW⟩, ⟨gd, hd.fr hF (nm2 (hds.2.1).symm (hds.2.2.2.2.2.2.2.2.2.2.2.2.2.2.2.2.2.2.1))⟩, ⟨gk, hk.fr hF (nm2 (hds.2.2.1).symm (hds.2.2.2.2.2.2.2.2.2.2.2.2.2.2.2.2.2.2.2.2.2.2.2.2.1)), hkW⟩, ⟨_, q3, fun B9 z => by cases z; exact hnW.mv (fun k hk => cpy_in hk)⟩, ⟨gh, hh.fr hF (nm2 (hds.2.2.2.2.1).symm (hds.2.2.2.2.2.2.2.2.2.2.2.2.2.2.2.2.2.2.2.2.2.2.2.2.2.2.2.2.2.2.1).symm), hhl, hhW⟩, ⟨go, ho.fr hF (nm2 (hds.2.2.2.2.2.1).symm (hds.2.2.2.2.2.2.2.2.2.2.2.2.2.2.2.2.2.2.2.2.2.2.2.2.2.2.2.2.2.2.2.1).symm), hol, hoW⟩, hI.fr hF (nm2 (hds.2.2.2.2.2.2.1).symm (hds.2.2.2.2.2.2.2.2.2.2.2.2.2.2.2.2.2.2.2.2.2.2.2.2.2.2.2.2.2.2.2.2.1).symm), ⟨gq, hod.fr hF (nm2 (hds.2.2.2.2.2.2.2.1).symm (hds.2.2.2.2.2.2.2.2.2.2.2.2.2.2.2.2.2.2.2.2.2.2.2.2.2.2.2.2.2.2.2.2.2.1).symm)⟩, ⟨by rw [hF.1]; exact ow1, gw, (hF.2 _ (nm2 (hds.2.2.2.2.2.2.2.2.1).symm (hds.2.2.2.2.2.2.2.2.2.2.2.2.2.2.2.2.2.2.2.2.2.2.2.2.2.2.2.2.2.2.2.2.2.2.1).symm)).trans ow2, ow3⟩⟩, hND⟩, fpm_s hF⟩
theorem b_X12_restoreSnapshot_ok {G : xG} {h : xH} {sa : Nat → Nat} {m : Nat} {a : MA} {S : XS} {c0 : Int} (hB0 : MB G h sa m a S c0) {B0 : AB} (hs0 : S.2.2.2.1 = some B0) : CC G MX12_restoreSnapshot [.ref m] h (fun o h' => o = .inl (some (.int (iI (B0.2.length : Int)))) ∧ MB G h' sa m a (S.1, S.2.1, B0, some B0, [], S.2.2.2.2.2) 0 ∧ FRp (fpM m a) h h') := by
  obtain ⟨r, hth, hB⟩ := hB0
  obtain ⟨hM, hf, ⟨⟨gn, hn, hnW⟩, ⟨gd, hd⟩, ⟨gk, hk, hkW⟩, ⟨gs, hs, hsW⟩, ⟨gh, hh, hhl, hhW⟩, ⟨go, ho, hol, hoW⟩, hI, ⟨gq, hod⟩, how⟩, hND⟩ := id hB
  obtain ⟨gi, hI1, hI2, hI3, hI4, hI5⟩ := id hI
  obtain ⟨ow1, gw, ow2, ow3⟩ := id how
  have hds : DSa m a := hB.ds
  obtain ⟨f1, f2, f3, f4, f5, f6, f7⟩ := hf
  have hW0 := hsW B0 hs0
  refine cc_mono (c_X12_restoreSnapshot_ok hM hs hn (by rw [f4, hs0]; rfl) f1 (v := iI (B0.2.length : Int)) hW0.1.1.2.2.2.1) (fun o h' q => ?_)
  obtain ⟨q1, q2, q3, hF⟩ := q
  exact ⟨q1, ⟨_, rfl, q2, ⟨f1, rfl, f3, by rw [← hs0]; exact f4, f5, f6, f7⟩, ⟨⟨_, q3, hW0.mv (fun k hk => cpy_in hk)⟩, ⟨gd, hd.fr hF (nm2 (hds.2.1).symm (hds.2.2.2.2.2.2.2.2.2.1).symm)⟩, ⟨gk, hk.fr hF (nm2 (hds.2.2.1).symm (hds.2.2.2.2.2.2.2.2.2.2.1).symm), hkW⟩, ⟨gs, hs.fr hF (nm2 (hds.2.2.2.1).symm (hds.2.2.2.2.2.2.2.2.2.2.2.1).symm), fun B9 z => by cases z; exact hW0⟩, ⟨gh, hh.fr hF (nm2 (hds.2.2.2.2.1).symm (hds.2.2.2.2.2.2.2.2.2.2.2.2.1).symm), Nat.zero_le _, fun k hk => absurd hk (Nat.not_lt_zero k)⟩, ⟨go, ho.fr hF (nm2 (hds.2.2.2.2.2.1).symm (hds.2.2.2.2.2.2.2.2.2.2.2.2.2.1).symm), hol, hoW⟩, hI.fr hF (nm2 (hds.2.2.2.2.2.2.1).symm (hds.2.2.2.2.2.2.2.2.2.2.2.2.2.2.1).symm), ⟨gq, hod.fr hF (nm2 (hds.2.2.2.2.2.2.2.1).symm (hds.2.2.2.2.2.2.2.2.2.2.2.2.2.2.2.1).symm)⟩, ⟨by rw [hF.1]; exact ow1, gw, (hF.2 _ (nm2 (hds.2.2.2.2.2.2.2.2.1).symm (hds.2.2.2.2.2.2.2.2.2.2.2.2.2.2.2.2.1).symm)).trans ow2, ow3⟩⟩, hND⟩, fpm_n hF⟩
theorem b_X12_restoreSnapshot_no {G : xG} {h : xH} {sa : Nat → Nat} {m : Nat} {a : MA} {S : XS} {c0 : Int} (hB0 : MB G h sa m a S c0) (hs0 : S.2.2.2.1 = none) : CC G MX12_restoreSnapshot [.ref m] h (fun o h' => o = .inl (some (.int (iI 0))) ∧ MB G h' sa m a S 1 ∧ FRp (fpM m a) h h') := hB0.ask (fun r g hM hR hRW hB => c_X12_restoreSnapshot_no hM (by rw [hB.2.1.2.2.2.1, hs0]; rfl))
theorem b_X12_writeSheet_ok {G : xG} {h : xH} {sa : Nat → Nat} {m : Nat} {a : MA} {S : XS} {c0 : Int} (hB0 : MB G h sa m a S c0) (hWX : WX S) {z : Int} (hs0 : hasS S.2.2.1 z = true) : CC G MX12_writeSheet [.ref m, .int (iI z)] h (fun o h' => o = .inl (some (.int (iI ((wrL (sAt S.2.2.1 z).1 (sAt S.2.2.1 z).1.length).length : Int)))) ∧ MB G h' sa m a (S.1, S.2.1, S.2.2.1, S.2.2.2.1, S.2.2.2.2.1, wrL (sAt S.2.2.1 z).1 (sAt S.2.2.1 z).1.length) 0 ∧ FRp (fpM m a) h h') := by
  obtain ⟨r, hth, hB⟩ := hB0
  obtain ⟨g, hR, hRW⟩ := hB.now
  obtain ⟨n1, n2⟩ := hasS_n hs0
  obtain ⟨hM, hf, ⟨⟨gn, hn, hnW⟩, ⟨gd, hd⟩, ⟨gk, hk, hkW⟩, ⟨gs, hs, hsW⟩, ⟨gh, hh, hhl, hhW⟩, ⟨go, ho, hol, hoW⟩, hI, ⟨gq, hod⟩, how⟩, hND⟩ := id hB
  obtain ⟨gi, hI1, hI2, hI3, hI4, hI5⟩ := id hI
  obtain ⟨ow1, gw, ow2, ow3⟩ := id how
  have hds : DSa m a := hB.ds
  obtain ⟨f1, f2, f3, f4, f5, f6, f7⟩ := hf
  have q0 := c_X12_writeSheet_ok hM hR hRW.1.2.1 hRW.1.1.2.2.2.1 n1 (hRW.1.s n1) (WS.get hWX.1.1 n1) ho
  rw [n2] at q0
  refine cc_mono q0 (fun o h' q => ?_)
  obtain ⟨q1, ⟨q2, go', q3, q4, q5⟩, hF⟩ := q
  exact ⟨q1, ⟨_, rfl, q2, ⟨f1, f2, f3, f4, rfl, f6, f7⟩, ⟨⟨gn, hn.fr hF (nm2 (hds.1).symm (hds.2.2.2.2.2.2.2.2.2.2.2.2.2.1)), hnW⟩, ⟨gd, hd.fr hF (nm2 (hds.2.1).symm (hds.2.2.2.2.2.2.2.2.2.2.2.2.2.2.2.2.2.2.2.2.1))⟩, ⟨gk, hk.fr hF (nm2 (hds.2.2.1).symm (hds.2.2.2.2.2.2.2.2.2.2.2.2.2.2.2.2.2.2.2.2.2.2.2.2.2.2.1)), hkW⟩, ⟨gs, hs.fr hF (nm2 (hds.2.2.2.1).symm (hds.2.2.2.2.2.2.2.2.2.2.2.2.2.2.2.2.2.2.2.2.2.2.2.2.2.2.2.2.2.2.2.1)), hsW⟩, ⟨gh, hh.fr hF (nm2 (hds.2.2.2.2.1).symm (hds.2.2.2.2.2.2.2.2.2.2.2.2.2.2.2.2.2.2.2.2.2.2.2.2.2.2.2.2.2.2.2.2.2.2.2.1)), hhl, hhW⟩, ⟨go', q3, q4, q5⟩, hI.fr hF (nm2 (hds.2.2.2.2.2.2.1).symm (hds.2.2.2.2.2.2.2.2.2.2.2.2.2.2.2.2.2.2.2.2.2.2.2.2.2.2.2.2.2.2.2.2.2.2.2.2.2.2.2.1).symm), ⟨gq, hod.fr hF (nm2 (hds.2.2.2.2.2.2.2.1).symm (hds.2.2.2.2.2.2.2.2.2.2.2.2.2.2.2.2.2.2.2.2.2.2.2.2.2.2.2.2.2.2.2.2.2.2.2.2.2.2.2.2.1).symm)⟩, ⟨by rw [hF.1]; exact ow1, gw, (hF.2 _ (nm2 (hds.2.2.2.2.2.2.2.2.1).symm (hds.2.2.2.2.2.2.2.2.2.2.2.2.2.2.2.2.2.2.2.2.2.2.2.2.2.2.2.2.2.2.2.2.2.2.2.2.2.2.2.2.2.1).symm)).trans ow2, ow3⟩⟩, hND⟩, fpm_o hF⟩
theorem b_X12_outputByte_ok {G : xG} {h : xH} {sa : Nat → Nat} {m : Nat} {a : MA} {S : XS} {c0 : Int} (hB0 : MB G h sa m a S c0) {z : Int} (hz : in32 z) (hf0 : 0 ≤ z ∧ z < (S.2.2.2.2.2.length : Int)) : CC G MX12_outputByte [.ref m, .int (iI z)] h (fun o h' => o = .inl (some (.int (iI (S.2.2.2.2.2.getD z.toNat 0)))) ∧ MB G h' sa m a S 0 ∧ FRp (fpM m a) h h') := hB0.ask (fun r g hM hR hRW hB => by
  obtain ⟨hM, hf, ⟨_, _, _, _, _, ⟨go, ho, hol, hoW⟩, _⟩, hND⟩ := hB
  exact c_X12_outputByte_ok hM ho hol hf.2.2.2.2.1 hz hf0 (hoW z.toNat (by omega)))
theorem b_X12_outputByte_no {G : xG} {h : xH} {sa : Nat → Nat} {m : Nat} {a : MA} {S : XS} {c0 : Int} (hB0 : MB G h sa m a S c0) {z : Int} (hz : in32 z) (hf0 : ¬ (0 ≤ z ∧ z < (S.2.2.2.2.2.length : Int))) : CC G MX12_outputByte [.ref m, .int (iI z)] h (fun o h' => o = .inl (some (.int (iI 0))) ∧ MB G h' sa m a S 1 ∧ FRp (fpM m a) h h') := hB0.ask (fun r g hM hR hRW hB => by
  obtain ⟨hM, hf, ⟨_, _, _, _, _, ⟨go, ho, hol, hoW⟩, _⟩, hND⟩ := hB
  exact c_X12_outputByte_no hM ho hol hf.2.2.2.2.1 hz hf0)
