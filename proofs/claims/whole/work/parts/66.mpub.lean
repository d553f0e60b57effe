/-! ===== the reference: what is called ===== -/
def cP (k n : Nat) : Int := match k with | 0 => (n : Int) | 1 => (n : Int) | 8 => (n : Int) | 9 => (n : Int) | 6 => if n = 2 then 1 else 2 | 10 => if n = 2 then 1 else 2 | _ => if n = 1 then 1 else 2
theorem codeC_nz {k n : Nat} (h : n ≠ 0) (hn : n < 4) : codeC k n ≠ 0 ∧ in32 (codeC k n) := by
  unfold codeC in32
  split <;> (try split) <;> omega
set_option maxRecDepth 20000 in
set_option maxHeartbeats 1000000 in
theorem b_X12_ends_0 {G : xG} {h : xH} {sa : Nat → Nat} {m : Nat} {a : MA} {r : MR} {S : XS} {B0 : AB} (hB : MBr G h sa m a r S (some B0)) : CC G MX12_ends [.ref m, .int (iI 0)] h (fun o h' => o = .inl (some (.int (iI r.2.2.2.2.1))) ∧ MB G h' sa m a (S.1, S.2.1, S.2.2.1, S.2.2.2.1, remH S.2.2.2.2.1 B0, S.2.2.2.2.2) 0 ∧ FRp (fpM m a) h h') := by
  show RR G MX12_ends 0 [(0, .ref m), (1, .int (iI 0))] [] h (xm_R MX12_ends).cells (xm_R MX12_ends).slots (fun o h' => o = .inl (some (.int (iI r.2.2.2.2.1))) ∧ MB G h' sa m a (S.1, S.2.1, S.2.2.1, S.2.2.2.1, remH S.2.2.2.2.1 B0, S.2.2.2.2.2) 0 ∧ FRp (fpM m a) h h')
  refine r_aload_n dX12_ends_0 0 rfl ?_
  refine r_iload_n dX12_ends_1 1 rfl ?_
  refine m_p_th (v := 0) hB.1 kf_X12_79 dX12_ends_2 (fun h1 hM1 F1 => ?_)
  have hB1 := hB.obj hM1 ⟨rfl, rfl, rfl, rfl, rfl, rfl, rfl, rfl⟩ F1
  have FM1 : FRp (fpM m a) h h1 := fpm_m (a := a) F1
  refine r_iload_n dX12_ends_5 1 rfl ?_
  refine i_ifeq dX12_ends_6 (tgt := 11) (by decide) ⟨by decide, by decide⟩ (fun _ => ?_) (fun c => absurd c (by decide))
  refine r_aload_n dX12_ends_11 0 rfl ?_
  refine p_callV (As := []) (b := m) (rest := []) (w := none) (st' := []) kv_X12_ends_227 dX12_ends_12 rfl rfl (Nat.le_of_ble_eq_true rfl) (Nat.le_of_ble_eq_true rfl) (x_rv hB1.1.1 hB1.1.2 rfl) rfl rfl (b_X12_record hB1) rfl (fun h2 e2 => ?_)
  obtain ⟨⟨v2, hB2⟩, G2⟩ := e2
  have FM2 : FRp (fpM m a) h h2 := FM1.tr (G2)
  refine r_aload_n dX12_ends_15 0 rfl ?_
  refine m_g_re (v := r.2.2.2.2.1) hB2.1 rfl kf_X12_204 dX12_ends_16 ?_
  refine r_ireturn rfl rfl dX12_ends_19 ?_
  exact ⟨rfl, MB.mk hB2 rfl, FM2⟩
set_option maxRecDepth 20000 in
set_option maxHeartbeats 1000000 in
theorem b_X12_ends_n {G : xG} {h : xH} {sa : Nat → Nat} {m : Nat} {a : MA} {r : MR} {S : XS} {B0 : AB} (hB : MBr G h sa m a r S (some B0)) {c : Int} (hc0 : c ≠ 0) (hci : in32 c) : CC G MX12_ends [.ref m, .int (iI c)] h (fun o h' => o = .inl (some (.int (iI 0))) ∧ MB G h' sa m a S c ∧ FRp (fpM m a) h h') := by
  show RR G MX12_ends 0 [(0, .ref m), (1, .int (iI c))] [] h (xm_R MX12_ends).cells (xm_R MX12_ends).slots (fun o h' => o = .inl (some (.int (iI 0))) ∧ MB G h' sa m a S c ∧ FRp (fpM m a) h h')
  refine r_aload_n dX12_ends_0 0 rfl ?_
  refine r_iload_n dX12_ends_1 1 rfl ?_
  refine m_p_th (v := c) hB.1 kf_X12_79 dX12_ends_2 (fun h1 hM1 F1 => ?_)
  have hB1 := hB.obj hM1 ⟨rfl, rfl, rfl, rfl, rfl, rfl, rfl, rfl⟩ F1
  have FM1 : FRp (fpM m a) h h1 := fpm_m (a := a) F1
  refine r_iload_n dX12_ends_5 1 rfl ?_
  refine i_ifeq dX12_ends_6 (tgt := 11) (by decide) (by first | assumption | (unfold in32; omega)) (fun c => absurd c (by omega)) (fun _ => ?_)
  refine i_const (0) dX12_ends_9 ?_
  refine r_ireturn rfl rfl dX12_ends_10 ?_
  exact ⟨rfl, MB.mk hB1 rfl, FM1⟩
set_option maxRecDepth 20000 in
set_option maxHeartbeats 1000000 in
theorem b_X12_dust_ok {G : xG} {h : xH} {sa : Nat → Nat} {m : Nat} {a : MA} {S : XS} {c0 : Int} (hB0 : MB G h sa m a S c0) (hWX : WX S) (hcb : cnt isC S.2.2.1.2 ≤ 3) {z q : Int} (hz : in32 z) (hq : in32 q) (h0 : rCmd 2 S.2.2.1 z q = 0) : CC G MX12_dust [.ref m, .int (iI z)] h (fun o h' => o = .inl (some (.int (iI (vCmd 2 S.2.2.1 z q)))) ∧ MB G h' sa m a (S.1, S.2.1, aCmd 2 S.2.2.1 z q, S.2.2.2.1, remH S.2.2.2.2.1 S.2.2.1, S.2.2.2.2.2) 0 ∧ FRp (fpM m a) h h') := by
  obtain ⟨r, hth, hB⟩ := hB0
  have hWB := hWX.1
  obtain ⟨g, hR, hRW⟩ := hB.now
  have hn := hRW.1.2.1
  have hc := hRW.1.1.2.2.2.1
  show RR G MX12_dust 0 [(0, .ref m), (1, .int (iI z))] [] h (xm_R MX12_dust).cells (xm_R MX12_dust).slots (fun o h' => o = .inl (some (.int (iI (vCmd 2 S.2.2.1 z q)))) ∧ MB G h' sa m a (S.1, S.2.1, aCmd 2 S.2.2.1 z q, S.2.2.2.1, remH S.2.2.2.2.1 S.2.2.1, S.2.2.2.2.2) 0 ∧ FRp (fpM m a) h h')
  refine r_aload_n dX12_dust_0 0 rfl ?_
  refine p_callV (As := []) (b := m) (rest := []) (w := none) (st' := []) kv_X12_dust_230 dX12_dust_1 rfl rfl (Nat.le_of_ble_eq_true rfl) (Nat.le_of_ble_eq_true rfl) (x_rv hB.1.1 hB.1.2 rfl) rfl rfl (b_X12_keep hB) rfl (fun h1 e1 => ?_)
  obtain ⟨hB1, G1⟩ := e1
  have FM1 : FRp (fpM m a) h h1 := G1
  refine r_aload_n dX12_dust_4 0 rfl ?_
  refine r_aload_n dX12_dust_5 0 rfl ?_
  refine r_iload_n dX12_dust_6 1 rfl ?_
  obtain ⟨gY, hRY, hWY⟩ := hB1.now
  refine p_callV (As := [.int (iI z)]) (b := m) (rest := [.ref m]) (w := (some (.int (iI 0)))) (st' := [.int (iI 0), .ref m]) kv_X12_dust_242 dX12_dust_7 rfl rfl (Nat.le_of_ble_eq_true rfl) (Nat.le_of_ble_eq_true rfl) (x_rv hB1.1.1 hB1.1.2 rfl) rfl rfl (d0_X12_doDust hB1.1 hRY hWY hWB hcb hz hq h0) rfl (fun h2 e2 => ?_)
  obtain ⟨r2, g2, hM2, hK2, hV2, hR2, hW2, F2⟩ := e2
  have hB2 := hB1.row hM2 hK2.1 hR2 hW2 F2
  have FM2 : FRp (fpM m a) h h2 := FM1.tr (fpm_r F2 hB1.2.1.1)
  refine p_callV (As := [.int (iI 0)]) (b := m) (rest := []) (w := (some (.int (iI r2.2.2.2.2.1)))) (st' := [.int (iI r2.2.2.2.2.1)]) kv_X12_dust_236 dX12_dust_10 rfl rfl (Nat.le_of_ble_eq_true rfl) (Nat.le_of_ble_eq_true rfl) (x_rv hB2.1.1 hB2.1.2 rfl) rfl rfl (b_X12_ends_0 hB2) rfl (fun h3 e3 => ?_)
  obtain ⟨hZ3, G3⟩ := e3
  have FM3 : FRp (fpM m a) h h3 := FM2.tr (G3)
  refine r_ireturn rfl rfl dX12_dust_13 ?_
  rw [hV2]
  exact ⟨rfl, hZ3, FM3⟩
set_option maxRecDepth 20000 in
set_option maxHeartbeats 1000000 in
theorem b_X12_dust_no {G : xG} {h : xH} {sa : Nat → Nat} {m : Nat} {a : MA} {S : XS} {c0 : Int} (hB0 : MB G h sa m a S c0) (hWX : WX S) (hcb : cnt isC S.2.2.1.2 ≤ 3) {z q : Int} (hz : in32 z) (hq : in32 q) (h0 : rCmd 2 S.2.2.1 z q ≠ 0) : CC G MX12_dust [.ref m, .int (iI z)] h (fun o h' => o = .inl (some (.int (iI 0))) ∧ MB G h' sa m a S (cP 2 (rCmd 2 S.2.2.1 z q)) ∧ FRp (fpM m a) h h') := by
  obtain ⟨r, hth, hB⟩ := hB0
  have hWB := hWX.1
  obtain ⟨g, hR, hRW⟩ := hB.now
  have hn := hRW.1.2.1
  have hc := hRW.1.1.2.2.2.1
  show RR G MX12_dust 0 [(0, .ref m), (1, .int (iI z))] [] h (xm_R MX12_dust).cells (xm_R MX12_dust).slots (fun o h' => o = .inl (some (.int (iI 0))) ∧ MB G h' sa m a S (cP 2 (rCmd 2 S.2.2.1 z q)) ∧ FRp (fpM m a) h h')
  refine r_aload_n dX12_dust_0 0 rfl ?_
  refine p_callV (As := []) (b := m) (rest := []) (w := none) (st' := []) kv_X12_dust_230 dX12_dust_1 rfl rfl (Nat.le_of_ble_eq_true rfl) (Nat.le_of_ble_eq_true rfl) (x_rv hB.1.1 hB.1.2 rfl) rfl rfl (b_X12_keep hB) rfl (fun h1 e1 => ?_)
  obtain ⟨hB1, G1⟩ := e1
  have FM1 : FRp (fpM m a) h h1 := G1
  refine r_aload_n dX12_dust_4 0 rfl ?_
  refine r_aload_n dX12_dust_5 0 rfl ?_
  refine r_iload_n dX12_dust_6 1 rfl ?_
  obtain ⟨gY, hRY, hWY⟩ := hB1.now
  refine p_callV (As := [.int (iI z)]) (b := m) (rest := [.ref m]) (w := (some (.int (iI (codeC 2 (rCmd 2 S.2.2.1 z q)))))) (st' := [.int (iI (codeC 2 (rCmd 2 S.2.2.1 z q))), .ref m]) kv_X12_dust_242 dX12_dust_7 rfl rfl (Nat.le_of_ble_eq_true rfl) (Nat.le_of_ble_eq_true rfl) (x_rv hB1.1.1 hB1.1.2 rfl) rfl rfl (dn_X12_doDust hB1.1 hRY hWY hWB hcb hz hq h0) rfl (fun h2 e2 => ?_)
  obtain ⟨r2, g2, hM2, hK2, hR2, hW2, F2⟩ := e2
  have hB2 := hB1.row hM2 hK2.1 hR2 hW2 F2
  have FM2 : FRp (fpM m a) h h2 := FM1.tr (fpm_r F2 hB1.2.1.1)
  refine p_callV (As := [.int (iI (codeC 2 (rCmd 2 S.2.2.1 z q)))]) (b := m) (rest := []) (w := (some (.int (iI 0)))) (st' := [.int (iI 0)]) kv_X12_dust_236 dX12_dust_10 rfl rfl (Nat.le_of_ble_eq_true rfl) (Nat.le_of_ble_eq_true rfl) (x_rv hB2.1.1 hB2.1.2 rfl) rfl rfl (b_X12_ends_n hB2 (codeC_nz h0 rCmd_lt).1 (codeC_nz h0 rCmd_lt).2) rfl (fun h3 e3 => ?_)
  obtain ⟨hZ3, G3⟩ := e3
  have FM3 : FRp (fpM m a) h h3 := FM2.tr (G3)
  refine r_ireturn rfl rfl dX12_dust_13 ?_
  rw [show cP 2 (rCmd 2 S.2.2.1 z q) = codeC 2 (rCmd 2 S.2.2.1 z q) from rfl]
  exact ⟨rfl, hZ3, FM3⟩
set_option maxRecDepth 20000 in
set_option maxHeartbeats 1000000 in
theorem b_X12_seal_ok {G : xG} {h : xH} {sa : Nat → Nat} {m : Nat} {a : MA} {S : XS} {c0 : Int} (hB0 : MB G h sa m a S c0) (hWX : WX S) (hcb : cnt isC S.2.2.1.2 ≤ 3) {z q : Int} (hz : in32 z) (hq : in32 q) (h0 : rCmd 3 S.2.2.1 z q = 0) : CC G MX12_seal [.ref m, .int (iI z)] h (fun o h' => o = .inl (some (.int (iI (vCmd 3 S.2.2.1 z q)))) ∧ MB G h' sa m a (S.1, S.2.1, aCmd 3 S.2.2.1 z q, S.2.2.2.1, remH S.2.2.2.2.1 S.2.2.1, S.2.2.2.2.2) 0 ∧ FRp (fpM m a) h h') := by
  obtain ⟨r, hth, hB⟩ := hB0
  have hWB := hWX.1
  obtain ⟨g, hR, hRW⟩ := hB.now
  have hn := hRW.1.2.1
  have hc := hRW.1.1.2.2.2.1
  show RR G MX12_seal 0 [(0, .ref m), (1, .int (iI z))] [] h (xm_R MX12_seal).cells (xm_R MX12_seal).slots (fun o h' => o = .inl (some (.int (iI (vCmd 3 S.2.2.1 z q)))) ∧ MB G h' sa m a (S.1, S.2.1, aCmd 3 S.2.2.1 z q, S.2.2.2.1, remH S.2.2.2.2.1 S.2.2.1, S.2.2.2.2.2) 0 ∧ FRp (fpM m a) h h')
  refine r_aload_n dX12_seal_0 0 rfl ?_
  refine p_callV (As := []) (b := m) (rest := []) (w := none) (st' := []) kv_X12_seal_230 dX12_seal_1 rfl rfl (Nat.le_of_ble_eq_true rfl) (Nat.le_of_ble_eq_true rfl) (x_rv hB.1.1 hB.1.2 rfl) rfl rfl (b_X12_keep hB) rfl (fun h1 e1 => ?_)
  obtain ⟨hB1, G1⟩ := e1
  have FM1 : FRp (fpM m a) h h1 := G1
  refine r_aload_n dX12_seal_4 0 rfl ?_
  refine r_aload_n dX12_seal_5 0 rfl ?_
  refine r_iload_n dX12_seal_6 1 rfl ?_
  obtain ⟨gY, hRY, hWY⟩ := hB1.now
  refine p_callV (As := [.int (iI z)]) (b := m) (rest := [.ref m]) (w := (some (.int (iI 0)))) (st' := [.int (iI 0), .ref m]) kv_X12_seal_245 dX12_seal_7 rfl rfl (Nat.le_of_ble_eq_true rfl) (Nat.le_of_ble_eq_true rfl) (x_rv hB1.1.1 hB1.1.2 rfl) rfl rfl (d0_X12_doSeal hB1.1 hRY hWY hWB hcb hz hq h0) rfl (fun h2 e2 => ?_)
  obtain ⟨r2, g2, hM2, hK2, hV2, hR2, hW2, F2⟩ := e2
  have hB2 := hB1.row hM2 hK2.1 hR2 hW2 F2
  have FM2 : FRp (fpM m a) h h2 := FM1.tr (fpm_r F2 hB1.2.1.1)
  refine p_callV (As := [.int (iI 0)]) (b := m) (rest := []) (w := (some (.int (iI r2.2.2.2.2.1)))) (st' := [.int (iI r2.2.2.2.2.1)]) kv_X12_seal_236 dX12_seal_10 rfl rfl (Nat.le_of_ble_eq_true rfl) (Nat.le_of_ble_eq_true rfl) (x_rv hB2.1.1 hB2.1.2 rfl) rfl rfl (b_X12_ends_0 hB2) rfl (fun h3 e3 => ?_)
  obtain ⟨hZ3, G3⟩ := e3
  have FM3 : FRp (fpM m a) h h3 := FM2.tr (G3)
  refine r_ireturn rfl rfl dX12_seal_13 ?_
  rw [hV2]
  exact ⟨rfl, hZ3, FM3⟩
set_option maxRecDepth 20000 in
set_option maxHeartbeats 1000000 in
theorem b_X12_seal_no {G : xG} {h : xH} {sa : Nat → Nat} {m : Nat} {a : MA} {S : XS} {c0 : Int} (hB0 : MB G h sa m a S c0) (hWX : WX S) (hcb : cnt isC S.2.2.1.2 ≤ 3) {z q : Int} (hz : in32 z) (hq : in32 q) (h0 : rCmd 3 S.2.2.1 z q ≠ 0) : CC G MX12_seal [.ref m, .int (iI z)] h (fun o h' => o = .inl (some (.int (iI 0))) ∧ MB G h' sa m a S (cP 3 (rCmd 3 S.2.2.1 z q)) ∧ FRp (fpM m a) h h') := by
  obtain ⟨r, hth, hB⟩ := hB0
  have hWB := hWX.1
  obtain ⟨g, hR, hRW⟩ := hB.now
  have hn := hRW.1.2.1
  have hc := hRW.1.1.2.2.2.1
  show RR G MX12_seal 0 [(0, .ref m), (1, .int (iI z))] [] h (xm_R MX12_seal).cells (xm_R MX12_seal).slots (fun o h' => o = .inl (some (.int (iI 0))) ∧ MB G h' sa m a S (cP 3 (rCmd 3 S.2.2.1 z q)) ∧ FRp (fpM m a) h h')
  refine r_aload_n dX12_seal_0 0 rfl ?_
  refine p_callV (As := []) (b := m) (rest := []) (w := none) (st' := []) kv_X12_seal_230 dX12_seal_1 rfl rfl (Nat.le_of_ble_eq_true rfl) (Nat.le_of_ble_eq_true rfl) (x_rv hB.1.1 hB.1.2 rfl) rfl rfl (b_X12_keep hB) rfl (fun h1 e1 => ?_)
  obtain ⟨hB1, G1⟩ := e1
  have FM1 : FRp (fpM m a) h h1 := G1
  refine r_aload_n dX12_seal_4 0 rfl ?_
  refine r_aload_n dX12_seal_5 0 rfl ?_
  refine r_iload_n dX12_seal_6 1 rfl ?_
  obtain ⟨gY, hRY, hWY⟩ := hB1.now
  refine p_callV (As := [.int (iI z)]) (b := m) (rest := [.ref m]) (w := (some (.int (iI (codeC 3 (rCmd 3 S.2.2.1 z q)))))) (st' := [.int (iI (codeC 3 (rCmd 3 S.2.2.1 z q))), .ref m]) kv_X12_seal_245 dX12_seal_7 rfl rfl (Nat.le_of_ble_eq_true rfl) (Nat.le_of_ble_eq_true rfl) (x_rv hB1.1.1 hB1.1.2 rfl) rfl rfl (dn_X12_doSeal hB1.1 hRY hWY hWB hcb hz hq h0) rfl (fun h2 e2 => ?_)
  obtain ⟨r2, g2, hM2, hK2, hR2, hW2, F2⟩ := e2
  have hB2 := hB1.row hM2 hK2.1 hR2 hW2 F2
  have FM2 : FRp (fpM m a) h h2 := FM1.tr (fpm_r F2 hB1.2.1.1)
  refine p_callV (As := [.int (iI (codeC 3 (rCmd 3 S.2.2.1 z q)))]) (b := m) (rest := []) (w := (some (.int (iI 0)))) (st' := [.int (iI 0)]) kv_X12_seal_236 dX12_seal_10 rfl rfl (Nat.le_of_ble_eq_true rfl) (Nat.le_of_ble_eq_true rfl) (x_rv hB2.1.1 hB2.1.2 rfl) rfl rfl (b_X12_ends_n hB2 (codeC_nz h0 rCmd_lt).1 (codeC_nz h0 rCmd_lt).2) rfl (fun h3 e3 => ?_)
  obtain ⟨hZ3, G3⟩ := e3
  have FM3 : FRp (fpM m a) h h3 := FM2.tr (G3)
  refine r_ireturn rfl rfl dX12_seal_13 ?_
  rw [show cP 3 (rCmd 3 S.2.2.1 z q) = codeC 3 (rCmd 3 S.2.2.1 z q) from rfl]
  exact ⟨rfl, hZ3, FM3⟩
set_option maxRecDepth 20000 in
set_option maxHeartbeats 1000000 in
theorem b_X12_cool_ok {G : xG} {h : xH} {sa : Nat → Nat} {m : Nat} {a : MA} {S : XS} {c0 : Int} (hB0 : MB G h sa m a S c0) (hWX : WX S) (hcb : cnt isC S.2.2.1.2 ≤ 3) {z q : Int} (hz : in32 z) (hq : in32 q) (h0 : rCmd 4 S.2.2.1 z q = 0) : CC G MX12_cool [.ref m, .int (iI z)] h (fun o h' => o = .inl (some (.int (iI (vCmd 4 S.2.2.1 z q)))) ∧ MB G h' sa m a (S.1, S.2.1, aCmd 4 S.2.2.1 z q, S.2.2.2.1, remH S.2.2.2.2.1 S.2.2.1, S.2.2.2.2.2) 0 ∧ FRp (fpM m a) h h') := by
  obtain ⟨r, hth, hB⟩ := hB0
  have hWB := hWX.1
  obtain ⟨g, hR, hRW⟩ := hB.now
  have hn := hRW.1.2.1
  have hc := hRW.1.1.2.2.2.1
  show RR G MX12_cool 0 [(0, .ref m), (1, .int (iI z))] [] h (xm_R MX12_cool).cells (xm_R MX12_cool).slots (fun o h' => o = .inl (some (.int (iI (vCmd 4 S.2.2.1 z q)))) ∧ MB G h' sa m a (S.1, S.2.1, aCmd 4 S.2.2.1 z q, S.2.2.2.1, remH S.2.2.2.2.1 S.2.2.1, S.2.2.2.2.2) 0 ∧ FRp (fpM m a) h h')
  refine r_aload_n dX12_cool_0 0 rfl ?_
  refine p_callV (As := []) (b := m) (rest := []) (w := none) (st' := []) kv_X12_cool_230 dX12_cool_1 rfl rfl (Nat.le_of_ble_eq_true rfl) (Nat.le_of_ble_eq_true rfl) (x_rv hB.1.1 hB.1.2 rfl) rfl rfl (b_X12_keep hB) rfl (fun h1 e1 => ?_)
  obtain ⟨hB1, G1⟩ := e1
  have FM1 : FRp (fpM m a) h h1 := G1
  refine r_aload_n dX12_cool_4 0 rfl ?_
  refine r_aload_n dX12_cool_5 0 rfl ?_
  refine r_iload_n dX12_cool_6 1 rfl ?_
  obtain ⟨gY, hRY, hWY⟩ := hB1.now
  refine p_callV (As := [.int (iI z)]) (b := m) (rest := [.ref m]) (w := (some (.int (iI 0)))) (st' := [.int (iI 0), .ref m]) kv_X12_cool_248 dX12_cool_7 rfl rfl (Nat.le_of_ble_eq_true rfl) (Nat.le_of_ble_eq_true rfl) (x_rv hB1.1.1 hB1.1.2 rfl) rfl rfl (d0_X12_doCool hB1.1 hRY hWY hWB hcb hz hq h0) rfl (fun h2 e2 => ?_)
  obtain ⟨r2, g2, hM2, hK2, hV2, hR2, hW2, F2⟩ := e2
  have hB2 := hB1.row hM2 hK2.1 hR2 hW2 F2
  have FM2 : FRp (fpM m a) h h2 := FM1.tr (fpm_r F2 hB1.2.1.1)
  refine p_callV (As := [.int (iI 0)]) (b := m) (rest := []) (w := (some (.int (iI r2.2.2.2.2.1)))) (st' := [.int (iI r2.2.2.2.2.1)]) kv_X12_cool_236 dX12_cool_10 rfl rfl (Nat.le_of_ble_eq_true rfl) (Nat.le_of_ble_eq_true rfl) (x_rv hB2.1.1 hB2.1.2 rfl) rfl rfl (b_X12_ends_0 hB2) rfl (fun h3 e3 => ?_)
  obtain ⟨hZ3, G3⟩ := e3
  have FM3 : FRp (fpM m a) h h3 := FM2.tr (G3)
  refine r_ireturn rfl rfl dX12_cool_13 ?_
  rw [hV2]
  exact ⟨rfl, hZ3, FM3⟩
set_option maxRecDepth 20000 in
set_option maxHeartbeats 1000000 in
theorem b_X12_cool_no {G : xG} {h : xH} {sa : Nat → Nat} {m : Nat} {a : MA} {S : XS} {c0 : Int} (hB0 : MB G h sa m a S c0) (hWX : WX S) (hcb : cnt isC S.2.2.1.2 ≤ 3) {z q : Int} (hz : in32 z) (hq : in32 q) (h0 : rCmd 4 S.2.2.1 z q ≠ 0) : CC G MX12_cool [.ref m, .int (iI z)] h (fun o h' => o = .inl (some (.int (iI 0))) ∧ MB G h' sa m a S (cP 4 (rCmd 4 S.2.2.1 z q)) ∧ FRp (fpM m a) h h') := by
  obtain ⟨r, hth, hB⟩ := hB0
  have hWB := hWX.1
  obtain ⟨g, hR, hRW⟩ := hB.now
  have hn := hRW.1.2.1
  have hc := hRW.1.1.2.2.2.1
  show RR G MX12_cool 0 [(0, .ref m), (1, .int (iI z))] [] h (xm_R MX12_cool).cells (xm_R MX12_cool).slots (fun o h' => o = .inl (some (.int (iI 0))) ∧ MB G h' sa m a S (cP 4 (rCmd 4 S.2.2.1 z q)) ∧ FRp (fpM m a) h h')
  refine r_aload_n dX12_cool_0 0 rfl ?_
  refine p_callV (As := []) (b := m) (rest := []) (w := none) (st' := []) kv_X12_cool_230 dX12_cool_1 rfl rfl (Nat.le_of_ble_eq_true rfl) (Nat.le_of_ble_eq_true rfl) (x_rv hB.1.1 hB.1.2 rfl) rfl rfl (b_X12_keep hB) rfl (fun h1 e1 => ?_)
  obtain ⟨hB1, G1⟩ := e1
  have FM1 : FRp (fpM m a) h h1 := G1
  refine r_aload_n dX12_cool_4 0 rfl ?_
  refine r_aload_n dX12_cool_5 0 rfl ?_
  refine r_iload_n dX12_cool_6 1 rfl ?_
  obtain ⟨gY, hRY, hWY⟩ := hB1.now
  refine p_callV (As := [.int (iI z)]) (b := m) (rest := [.ref m]) (w := (some (.int (iI (codeC 4 (rCmd 4 S.2.2.1 z q)))))) (st' := [.int (iI (codeC 4 (rCmd 4 S.2.2.1 z q))), .ref m]) kv_X12_cool_248 dX12_cool_7 rfl rfl (Nat.le_of_ble_eq_true rfl) (Nat.le_of_ble_eq_true rfl) (x_rv hB1.1.1 hB1.1.2 rfl) rfl rfl (dn_X12_doCool hB1.1 hRY hWY hWB hcb hz hq h0) rfl (fun h2 e2 => ?_)
  obtain ⟨r2, g2, hM2, hK2, hR2, hW2, F2⟩ := e2
  have hB2 := hB1.row hM2 hK2.1 hR2 hW2 F2
  have FM2 : FRp (fpM m a) h h2 := FM1.tr (fpm_r F2 hB1.2.1.1)
  refine p_callV (As := [.int (iI (codeC 4 (rCmd 4 S.2.2.1 z q)))]) (b := m) (rest := []) (w := (some (.int (iI 0)))) (st' := [.int (iI 0)]) kv_X12_cool_236 dX12_cool_10 rfl rfl (Nat.le_of_ble_eq_true rfl) (Nat.le_of_ble_eq_true rfl) (x_rv hB2.1.1 hB2.1.2 rfl) rfl rfl (b_X12_ends_n hB2 (codeC_nz h0 rCmd_lt).1 (codeC_nz h0 rCmd_lt).2) rfl (fun h3 e3 => ?_)
  obtain ⟨hZ3, G3⟩ := e3
  have FM3 : FRp (fpM m a) h h3 := FM2.tr (G3)
  refine r_ireturn rfl rfl dX12_cool_13 ?_
  rw [show cP 4 (rCmd 4 S.2.2.1 z q) = codeC 4 (rCmd 4 S.2.2.1 z q) from rfl]
  exact ⟨rfl, hZ3, FM3⟩
set_option maxRecDepth 20000 in
set_option maxHeartbeats 1000000 in
theorem b_X12_takeOut_ok {G : xG} {h : xH} {sa : Nat → Nat} {m : Nat} {a : MA} {S : XS} {c0 : Int} (hB0 : MB G h sa m a S c0) (hWX : WX S) (hcb : cnt isC S.2.2.1.2 ≤ 3) {z q : Int} (hz : in32 z) (hq : in32 q) (h0 : rCmd 5 S.2.2.1 z q = 0) : CC G MX12_takeOut [.ref m, .int (iI z)] h (fun o h' => o = .inl (some (.int (iI (vCmd 5 S.2.2.1 z q)))) ∧ MB G h' sa m a (S.1, S.2.1, aCmd 5 S.2.2.1 z q, S.2.2.2.1, remH S.2.2.2.2.1 S.2.2.1, S.2.2.2.2.2) 0 ∧ FRp (fpM m a) h h') := by
  obtain ⟨r, hth, hB⟩ := hB0
  have hWB := hWX.1
  obtain ⟨g, hR, hRW⟩ := hB.now
  have hn := hRW.1.2.1
  have hc := hRW.1.1.2.2.2.1
  show RR G MX12_takeOut 0 [(0, .ref m), (1, .int (iI z))] [] h (xm_R MX12_takeOut).cells (xm_R MX12_takeOut).slots (fun o h' => o = .inl (some (.int (iI (vCmd 5 S.2.2.1 z q)))) ∧ MB G h' sa m a (S.1, S.2.1, aCmd 5 S.2.2.1 z q, S.2.2.2.1, remH S.2.2.2.2.1 S.2.2.1, S.2.2.2.2.2) 0 ∧ FRp (fpM m a) h h')
  refine r_aload_n dX12_takeOut_0 0 rfl ?_
  refine p_callV (As := []) (b := m) (rest := []) (w := none) (st' := []) kv_X12_takeOut_230 dX12_takeOut_1 rfl rfl (Nat.le_of_ble_eq_true rfl) (Nat.le_of_ble_eq_true rfl) (x_rv hB.1.1 hB.1.2 rfl) rfl rfl (b_X12_keep hB) rfl (fun h1 e1 => ?_)
  obtain ⟨hB1, G1⟩ := e1
  have FM1 : FRp (fpM m a) h h1 := G1
  refine r_aload_n dX12_takeOut_4 0 rfl ?_
  refine r_aload_n dX12_takeOut_5 0 rfl ?_
  refine r_iload_n dX12_takeOut_6 1 rfl ?_
  obtain ⟨gY, hRY, hWY⟩ := hB1.now
  refine p_callV (As := [.int (iI z)]) (b := m) (rest := [.ref m]) (w := (some (.int (iI 0)))) (st' := [.int (iI 0), .ref m]) kv_X12_takeOut_251 dX12_takeOut_7 rfl rfl (Nat.le_of_ble_eq_true rfl) (Nat.le_of_ble_eq_true rfl) (x_rv hB1.1.1 hB1.1.2 rfl) rfl rfl (d0_X12_doTakeOut hB1.1 hRY hWY hWB hcb hz hq h0) rfl (fun h2 e2 => ?_)
  obtain ⟨r2, g2, hM2, hK2, hV2, hR2, hW2, F2⟩ := e2
  have hB2 := hB1.row hM2 hK2.1 hR2 hW2 F2
  have FM2 : FRp (fpM m a) h h2 := FM1.tr (fpm_r F2 hB1.2.1.1)
  refine p_callV (As := [.int (iI 0)]) (b := m) (rest := []) (w := (some (.int (iI r2.2.2.2.2.1)))) (st' := [.int (iI r2.2.2.2.2.1)]) kv_X12_takeOut_236 dX12_takeOut_10 rfl rfl (Nat.le_of_ble_eq_true rfl) (Nat.le_of_ble_eq_true rfl) (x_rv hB2.1.1 hB2.1.2 rfl) rfl rfl (b_X12_ends_0 hB2) rfl (fun h3 e3 => ?_)
  obtain ⟨hZ3, G3⟩ := e3
  have FM3 : FRp (fpM m a) h h3 := FM2.tr (G3)
  refine r_ireturn rfl rfl dX12_takeOut_13 ?_
  rw [hV2]
  exact ⟨rfl, hZ3, FM3⟩
set_option maxRecDepth 20000 in
set_option maxHeartbeats 1000000 in
theorem b_X12_takeOut_no {G : xG} {h : xH} {sa : Nat → Nat} {m : Nat} {a : MA} {S : XS} {c0 : Int} (hB0 : MB G h sa m a S c0) (hWX : WX S) (hcb : cnt isC S.2.2.1.2 ≤ 3) {z q : Int} (hz : in32 z) (hq : in32 q) (h0 : rCmd 5 S.2.2.1 z q ≠ 0) : CC G MX12_takeOut [.ref m, .int (iI z)] h (fun o h' => o = .inl (some (.int (iI 0))) ∧ MB G h' sa m a S (cP 5 (rCmd 5 S.2.2.1 z q)) ∧ FRp (fpM m a) h h') := by
  obtain ⟨r, hth, hB⟩ := hB0
  have hWB := hWX.1
  obtain ⟨g, hR, hRW⟩ := hB.now
  have hn := hRW.1.2.1
  have hc := hRW.1.1.2.2.2.1
  show RR G MX12_takeOut 0 [(0, .ref m), (1, .int (iI z))] [] h (xm_R MX12_takeOut).cells (xm_R MX12_takeOut).slots (fun o h' => o = .inl (some (.int (iI 0))) ∧ MB G h' sa m a S (cP 5 (rCmd 5 S.2.2.1 z q)) ∧ FRp (fpM m a) h h')
  refine r_aload_n dX12_takeOut_0 0 rfl ?_
  refine p_callV (As := []) (b := m) (rest := []) (w := none) (st' := []) kv_X12_takeOut_230 dX12_takeOut_1 rfl rfl (Nat.le_of_ble_eq_true rfl) (Nat.le_of_ble_eq_true rfl) (x_rv hB.1.1 hB.1.2 rfl) rfl rfl (b_X12_keep hB) rfl (fun h1 e1 => ?_)
  obtain ⟨hB1, G1⟩ := e1
  have FM1 : FRp (fpM m a) h h1 := G1
  refine r_aload_n dX12_takeOut_4 0 rfl ?_
  refine r_aload_n dX12_takeOut_5 0 rfl ?_
  refine r_iload_n dX12_takeOut_6 1 rfl ?_
  obtain ⟨gY, hRY, hWY⟩ := hB1.now
  refine p_callV (As := [.int (iI z)]) (b := m) (rest := [.ref m]) (w := (some (.int (iI (codeC 5 (rCmd 5 S.2.2.1 z q)))))) (st' := [.int (iI (codeC 5 (rCmd 5 S.2.2.1 z q))), .ref m]) kv_X12_takeOut_251 dX12_takeOut_7 rfl rfl (Nat.le_of_ble_eq_true rfl) (Nat.le_of_ble_eq_true rfl) (x_rv hB1.1.1 hB1.1.2 rfl) rfl rfl (dn_X12_doTakeOut hB1.1 hRY hWY hWB hcb hz hq h0) rfl (fun h2 e2 => ?_)
  obtain ⟨r2, g2, hM2, hK2, hR2, hW2, F2⟩ := e2
  have hB2 := hB1.row hM2 hK2.1 hR2 hW2 F2
  have FM2 : FRp (fpM m a) h h2 := FM1.tr (fpm_r F2 hB1.2.1.1)
  refine p_callV (As := [.int (iI (codeC 5 (rCmd 5 S.2.2.1 z q)))]) (b := m) (rest := []) (w := (some (.int (iI 0)))) (st' := [.int (iI 0)]) kv_X12_takeOut_236 dX12_takeOut_10 rfl rfl (Nat.le_of_ble_eq_true rfl) (Nat.le_of_ble_eq_true rfl) (x_rv hB2.1.1 hB2.1.2 rfl) rfl rfl (b_X12_ends_n hB2 (codeC_nz h0 rCmd_lt).1 (codeC_nz h0 rCmd_lt).2) rfl (fun h3 e3 => ?_)
  obtain ⟨hZ3, G3⟩ := e3
  have FM3 : FRp (fpM m a) h h3 := FM2.tr (G3)
  refine r_ireturn rfl rfl dX12_takeOut_13 ?_
  rw [show cP 5 (rCmd 5 S.2.2.1 z q) = codeC 5 (rCmd 5 S.2.2.1 z q) from rfl]
  exact ⟨rfl, hZ3, FM3⟩
set_option maxRecDepth 20000 in
set_option maxHeartbeats 1000000 in
theorem b_X12_cut_ok {G : xG} {h : xH} {sa : Nat → Nat} {m : Nat} {a : MA} {S : XS} {c0 : Int} (hB0 : MB G h sa m a S c0) (hWX : WX S) (hcb : cnt isC S.2.2.1.2 ≤ 3) {z q : Int} (hz : in32 z) (hq : in32 q) (h0 : rCmd 7 S.2.2.1 z q = 0) : CC G MX12_cut [.ref m, .int (iI z)] h (fun o h' => o = .inl (some (.int (iI (vCmd 7 S.2.2.1 z q)))) ∧ MB G h' sa m a (S.1, S.2.1, aCmd 7 S.2.2.1 z q, S.2.2.2.1, remH S.2.2.2.2.1 S.2.2.1, S.2.2.2.2.2) 0 ∧ FRp (fpM m a) h h') := by
  obtain ⟨r, hth, hB⟩ := hB0
  have hWB := hWX.1
  obtain ⟨g, hR, hRW⟩ := hB.now
  have hn := hRW.1.2.1
  have hc := hRW.1.1.2.2.2.1
  show RR G MX12_cut 0 [(0, .ref m), (1, .int (iI z))] [] h (xm_R MX12_cut).cells (xm_R MX12_cut).slots (fun o h' => o = .inl (some (.int (iI (vCmd 7 S.2.2.1 z q)))) ∧ MB G h' sa m a (S.1, S.2.1, aCmd 7 S.2.2.1 z q, S.2.2.2.1, remH S.2.2.2.2.1 S.2.2.1, S.2.2.2.2.2) 0 ∧ FRp (fpM m a) h h')
  refine r_aload_n dX12_cut_0 0 rfl ?_
  refine p_callV (As := []) (b := m) (rest := []) (w := none) (st' := []) kv_X12_cut_230 dX12_cut_1 rfl rfl (Nat.le_of_ble_eq_true rfl) (Nat.le_of_ble_eq_true rfl) (x_rv hB.1.1 hB.1.2 rfl) rfl rfl (b_X12_keep hB) rfl (fun h1 e1 => ?_)
  obtain ⟨hB1, G1⟩ := e1
  have FM1 : FRp (fpM m a) h h1 := G1
  refine r_aload_n dX12_cut_4 0 rfl ?_
  refine r_aload_n dX12_cut_5 0 rfl ?_
  refine r_iload_n dX12_cut_6 1 rfl ?_
  obtain ⟨gY, hRY, hWY⟩ := hB1.now
  refine p_callV (As := [.int (iI z)]) (b := m) (rest := [.ref m]) (w := (some (.int (iI 0)))) (st' := [.int (iI 0), .ref m]) kv_X12_cut_257 dX12_cut_7 rfl rfl (Nat.le_of_ble_eq_true rfl) (Nat.le_of_ble_eq_true rfl) (x_rv hB1.1.1 hB1.1.2 rfl) rfl rfl (d0_X12_doCut hB1.1 hRY hWY hWB hcb hz hq h0) rfl (fun h2 e2 => ?_)
  obtain ⟨r2, g2, hM2, hK2, hV2, hR2, hW2, F2⟩ := e2
  have hB2 := hB1.row hM2 hK2.1 hR2 hW2 F2
  have FM2 : FRp (fpM m a) h h2 := FM1.tr (fpm_r F2 hB1.2.1.1)
  refine p_callV (As := [.int (iI 0)]) (b := m) (rest := []) (w := (some (.int (iI r2.2.2.2.2.1)))) (st' := [.int (iI r2.2.2.2.2.1)]) kv_X12_cut_236 dX12_cut_10 rfl rfl (Nat.le_of_ble_eq_true rfl) (Nat.le_of_ble_eq_true rfl) (x_rv hB2.1.1 hB2.1.2 rfl) rfl rfl (b_X12_ends_0 hB2) rfl (fun h3 e3 => ?_)
  obtain ⟨hZ3, G3⟩ := e3
  have FM3 : FRp (fpM m a) h h3 := FM2.tr (G3)
  refine r_ireturn rfl rfl dX12_cut_13 ?_
  rw [hV2]
  exact ⟨rfl, hZ3, FM3⟩
set_option maxRecDepth 20000 in
set_option maxHeartbeats 1000000 in
theorem b_X12_cut_no {G : xG} {h : xH} {sa : Nat → Nat} {m : Nat} {a : MA} {S : XS} {c0 : Int} (hB0 : MB G h sa m a S c0) (hWX : WX S) (hcb : cnt isC S.2.2.1.2 ≤ 3) {z q : Int} (hz : in32 z) (hq : in32 q) (h0 : rCmd 7 S.2.2.1 z q ≠ 0) : CC G MX12_cut [.ref m, .int (iI z)] h (fun o h' => o = .inl (some (.int (iI 0))) ∧ MB G h' sa m a S (cP 7 (rCmd 7 S.2.2.1 z q)) ∧ FRp (fpM m a) h h') := by
  obtain ⟨r, hth, hB⟩ := hB0
  have hWB := hWX.1
  obtain ⟨g, hR, hRW⟩ := hB.now
  have hn := hRW.1.2.1
  have hc := hRW.1.1.2.2.2.1
  show RR G MX12_cut 0 [(0, .ref m), (1, .int (iI z))] [] h (xm_R MX12_cut).cells (xm_R MX12_cut).slots (fun o h' => o = .inl (some (.int (iI 0))) ∧ MB G h' sa m a S (cP 7 (rCmd 7 S.2.2.1 z q)) ∧ FRp (fpM m a) h h')
  refine r_aload_n dX12_cut_0 0 rfl ?_
  refine p_callV (As := []) (b := m) (rest := []) (w := none) (st' := []) kv_X12_cut_230 dX12_cut_1 rfl rfl (Nat.le_of_ble_eq_true rfl) (Nat.le_of_ble_eq_true rfl) (x_rv hB.1.1 hB.1.2 rfl) rfl rfl (b_X12_keep hB) rfl (fun h1 e1 => ?_)
  obtain ⟨hB1, G1⟩ := e1
  have FM1 : FRp (fpM m a) h h1 := G1
  refine r_aload_n dX12_cut_4 0 rfl ?_
  refine r_aload_n dX12_cut_5 0 rfl ?_
  refine r_iload_n dX12_cut_6 1 rfl ?_
  obtain ⟨gY, hRY, hWY⟩ := hB1.now
  refine p_callV (As := [.int (iI z)]) (b := m) (rest := [.ref m]) (w := (some (.int (iI (codeC 7 (rCmd 7 S.2.2.1 z q)))))) (st' := [.int (iI (codeC 7 (rCmd 7 S.2.2.1 z q))), .ref m]) kv_X12_cut_257 dX12_cut_7 rfl rfl (Nat.le_of_ble_eq_true rfl) (Nat.le_of_ble_eq_true rfl) (x_rv hB1.1.1 hB1.1.2 rfl) rfl rfl (dn_X12_doCut hB1.1 hRY hWY hWB hcb hz hq h0) rfl (fun h2 e2 => ?_)
  obtain ⟨r2, g2, hM2, hK2, hR2, hW2, F2⟩ := e2
  have hB2 := hB1.row hM2 hK2.1 hR2 hW2 F2
  have FM2 : FRp (fpM m a) h h2 := FM1.tr (fpm_r F2 hB1.2.1.1)
  refine p_callV (As := [.int (iI (codeC 7 (rCmd 7 S.2.2.1 z q)))]) (b := m) (rest := []) (w := (some (.int (iI 0)))) (st' := [.int (iI 0)]) kv_X12_cut_236 dX12_cut_10 rfl rfl (Nat.le_of_ble_eq_true rfl) (Nat.le_of_ble_eq_true rfl) (x_rv hB2.1.1 hB2.1.2 rfl) rfl rfl (b_X12_ends_n hB2 (codeC_nz h0 rCmd_lt).1 (codeC_nz h0 rCmd_lt).2) rfl (fun h3 e3 => ?_)
  obtain ⟨hZ3, G3⟩ := e3
  have FM3 : FRp (fpM m a) h h3 := FM2.tr (G3)
  refine r_ireturn rfl rfl dX12_cut_13 ?_
  rw [show cP 7 (rCmd 7 S.2.2.1 z q) = codeC 7 (rCmd 7 S.2.2.1 z q) from rfl]
  exact ⟨rfl, hZ3, FM3⟩
set_option maxRecDepth 20000 in
set_option maxHeartbeats 1000000 in
theorem b_X12_stack_ok {G : xG} {h : xH} {sa : Nat → Nat} {m : Nat} {a : MA} {S : XS} {c0 : Int} (hB0 : MB G h sa m a S c0) (hWX : WX S) (hcb : cnt isC S.2.2.1.2 ≤ 3) {z q : Int} (hz : in32 z) (hq : in32 q) (h0 : rCmd 8 S.2.2.1 z q = 0) : CC G MX12_stack [.ref m, .int (iI z), .int (iI q)] h (fun o h' => o = .inl (some (.int (iI (vCmd 8 S.2.2.1 z q)))) ∧ MB G h' sa m a (S.1, S.2.1, aCmd 8 S.2.2.1 z q, S.2.2.2.1, remH S.2.2.2.2.1 S.2.2.1, S.2.2.2.2.2) 0 ∧ FRp (fpM m a) h h') := by
  obtain ⟨r, hth, hB⟩ := hB0
  have hWB := hWX.1
  obtain ⟨g, hR, hRW⟩ := hB.now
  have hn := hRW.1.2.1
  have hc := hRW.1.1.2.2.2.1
  show RR G MX12_stack 0 [(0, .ref m), (1, .int (iI z)), (2, .int (iI q))] [] h (xm_R MX12_stack).cells (xm_R MX12_stack).slots (fun o h' => o = .inl (some (.int (iI (vCmd 8 S.2.2.1 z q)))) ∧ MB G h' sa m a (S.1, S.2.1, aCmd 8 S.2.2.1 z q, S.2.2.2.1, remH S.2.2.2.2.1 S.2.2.1, S.2.2.2.2.2) 0 ∧ FRp (fpM m a) h h')
  refine r_aload_n dX12_stack_0 0 rfl ?_
  refine p_callV (As := []) (b := m) (rest := []) (w := none) (st' := []) kv_X12_stack_230 dX12_stack_1 rfl rfl (Nat.le_of_ble_eq_true rfl) (Nat.le_of_ble_eq_true rfl) (x_rv hB.1.1 hB.1.2 rfl) rfl rfl (b_X12_keep hB) rfl (fun h1 e1 => ?_)
  obtain ⟨hB1, G1⟩ := e1
  have FM1 : FRp (fpM m a) h h1 := G1
  refine r_aload_n dX12_stack_4 0 rfl ?_
  refine r_aload_n dX12_stack_5 0 rfl ?_
  refine r_iload_n dX12_stack_6 1 rfl ?_
  refine r_iload_n dX12_stack_7 2 rfl ?_
  obtain ⟨gY, hRY, hWY⟩ := hB1.now
  refine p_callV (As := [.int (iI z), .int (iI q)]) (b := m) (rest := [.ref m]) (w := (some (.int (iI 0)))) (st' := [.int (iI 0), .ref m]) kv_X12_stack_260 dX12_stack_8 rfl rfl (Nat.le_of_ble_eq_true rfl) (Nat.le_of_ble_eq_true rfl) (x_rv hB1.1.1 hB1.1.2 rfl) rfl rfl (d0_X12_doStack hB1.1 hRY hWY hWB hcb hz hq h0) rfl (fun h2 e2 => ?_)
  obtain ⟨r2, g2, hM2, hK2, hV2, hR2, hW2, F2⟩ := e2
  have hB2 := hB1.row hM2 hK2.1 hR2 hW2 F2
  have FM2 : FRp (fpM m a) h h2 := FM1.tr (fpm_r F2 hB1.2.1.1)
  refine p_callV (As := [.int (iI 0)]) (b := m) (rest := []) (w := (some (.int (iI r2.2.2.2.2.1)))) (st' := [.int (iI r2.2.2.2.2.1)]) kv_X12_stack_236 dX12_stack_11 rfl rfl (Nat.le_of_ble_eq_true rfl) (Nat.le_of_ble_eq_true rfl) (x_rv hB2.1.1 hB2.1.2 rfl) rfl rfl (b_X12_ends_0 hB2) rfl (fun h3 e3 => ?_)
  obtain ⟨hZ3, G3⟩ := e3
  have FM3 : FRp (fpM m a) h h3 := FM2.tr (G3)
  refine r_ireturn rfl rfl dX12_stack_14 ?_
  rw [hV2]
  exact ⟨rfl, hZ3, FM3⟩
set_option maxRecDepth 20000 in
set_option maxHeartbeats 1000000 in
theorem b_X12_stack_no {G : xG} {h : xH} {sa : Nat → Nat} {m : Nat} {a : MA} {S : XS} {c0 : Int} (hB0 : MB G h sa m a S c0) (hWX : WX S) (hcb : cnt isC S.2.2.1.2 ≤ 3) {z q : Int} (hz : in32 z) (hq : in32 q) (h0 : rCmd 8 S.2.2.1 z q ≠ 0) : CC G MX12_stack [.ref m, .int (iI z), .int (iI q)] h (fun o h' => o = .inl (some (.int (iI 0))) ∧ MB G h' sa m a S (cP 8 (rCmd 8 S.2.2.1 z q)) ∧ FRp (fpM m a) h h') := by
  obtain ⟨r, hth, hB⟩ := hB0
  have hWB := hWX.1
  obtain ⟨g, hR, hRW⟩ := hB.now
  have hn := hRW.1.2.1
  have hc := hRW.1.1.2.2.2.1
  show RR G MX12_stack 0 [(0, .ref m), (1, .int (iI z)), (2, .int (iI q))] [] h (xm_R MX12_stack).cells (xm_R MX12_stack).slots (fun o h' => o = .inl (some (.int (iI 0))) ∧ MB G h' sa m a S (cP 8 (rCmd 8 S.2.2.1 z q)) ∧ FRp (fpM m a) h h')
  refine r_aload_n dX12_stack_0 0 rfl ?_
  refine p_callV (As := []) (b := m) (rest := []) (w := none) (st' := []) kv_X12_stack_230 dX12_stack_1 rfl rfl (Nat.le_of_ble_eq_true rfl) (Nat.le_of_ble_eq_true rfl) (x_rv hB.1.1 hB.1.2 rfl) rfl rfl (b_X12_keep hB) rfl (fun h1 e1 => ?_)
  obtain ⟨hB1, G1⟩ := e1
  have FM1 : FRp (fpM m a) h h1 := G1
  refine r_aload_n dX12_stack_4 0 rfl ?_
  refine r_aload_n dX12_stack_5 0 rfl ?_
  refine r_iload_n dX12_stack_6 1 rfl ?_
  refine r_iload_n dX12_stack_7 2 rfl ?_
  obtain ⟨gY, hRY, hWY⟩ := hB1.now
  refine p_callV (As := [.int (iI z), .int (iI q)]) (b := m) (rest := [.ref m]) (w := (some (.int (iI (codeC 8 (rCmd 8 S.2.2.1 z q)))))) (st' := [.int (iI (codeC 8 (rCmd 8 S.2.2.1 z q))), .ref m]) kv_X12_stack_260 dX12_stack_8 rfl rfl (Nat.le_of_ble_eq_true rfl) (Nat.le_of_ble_eq_true rfl) (x_rv hB1.1.1 hB1.1.2 rfl) rfl rfl (dn_X12_doStack hB1.1 hRY hWY hWB hcb hz hq h0) rfl (fun h2 e2 => ?_)
  obtain ⟨r2, g2, hM2, hK2, hR2, hW2, F2⟩ := e2
  have hB2 := hB1.row hM2 hK2.1 hR2 hW2 F2
  have FM2 : FRp (fpM m a) h h2 := FM1.tr (fpm_r F2 hB1.2.1.1)
  refine p_callV (As := [.int (iI (codeC 8 (rCmd 8 S.2.2.1 z q)))]) (b := m) (rest := []) (w := (some (.int (iI 0)))) (st' := [.int (iI 0)]) kv_X12_stack_236 dX12_stack_11 rfl rfl (Nat.le_of_ble_eq_true rfl) (Nat.le_of_ble_eq_true rfl) (x_rv hB2.1.1 hB2.1.2 rfl) rfl rfl (b_X12_ends_n hB2 (codeC_nz h0 rCmd_lt).1 (codeC_nz h0 rCmd_lt).2) rfl (fun h3 e3 => ?_)
  obtain ⟨hZ3, G3⟩ := e3
  have FM3 : FRp (fpM m a) h h3 := FM2.tr (G3)
  refine r_ireturn rfl rfl dX12_stack_14 ?_
  rw [show cP 8 (rCmd 8 S.2.2.1 z q) = codeC 8 (rCmd 8 S.2.2.1 z q) from rfl]
  exact ⟨rfl, hZ3, FM3⟩
set_option maxRecDepth 20000 in
set_option maxHeartbeats 1000000 in
theorem b_X12_fold_ok {G : xG} {h : xH} {sa : Nat → Nat} {m : Nat} {a : MA} {S : XS} {c0 : Int} (hB0 : MB G h sa m a S c0) (hWX : WX S) (hcb : cnt isC S.2.2.1.2 ≤ 3) {z q : Int} (hz : in32 z) (hq : in32 q) (h0 : rCmd 0 S.2.2.1 z q = 0) : CC G MX12_fold [.ref m, .int (iI z), .int (iI q)] h (fun o h' => o = .inl (some (.int (iI (vCmd 0 S.2.2.1 z q)))) ∧ MB G h' sa m a (S.1, S.2.1, aCmd 0 S.2.2.1 z q, S.2.2.2.1, remH S.2.2.2.2.1 S.2.2.1, S.2.2.2.2.2) 0 ∧ FRp (fpM m a) h h') := by
  obtain ⟨r, hth, hB⟩ := hB0
  have hWB := hWX.1
  obtain ⟨g, hR, hRW⟩ := hB.now
  have hn := hRW.1.2.1
  have hc := hRW.1.1.2.2.2.1
  have hb0 : rFold S.2.2.1 z q = 0 := h0
  obtain ⟨z1, hfc, z3⟩ := rF0 hb0
  obtain ⟨n1, n2⟩ := hasS_n z1
  have cLT := c_X12_lacksParts_t hB.1 hR hn hc n1 (hRW.1.s n1) hq hfc
  rw [n2] at cLT
  show RR G MX12_fold 0 [(0, .ref m), (1, .int (iI z)), (2, .int (iI q))] [] h (xm_R MX12_fold).cells (xm_R MX12_fold).slots (fun o h' => o = .inl (some (.int (iI (vCmd 0 S.2.2.1 z q)))) ∧ MB G h' sa m a (S.1, S.2.1, aCmd 0 S.2.2.1 z q, S.2.2.2.1, remH S.2.2.2.2.1 S.2.2.1, S.2.2.2.2.2) 0 ∧ FRp (fpM m a) h h')
  refine r_aload_n dX12_fold_0 0 rfl ?_
  refine r_iload_n dX12_fold_1 1 rfl ?_
  refine r_iload_n dX12_fold_2 2 rfl ?_
  refine p_callV (As := [.int (iI z), .int (iI q)]) (b := m) (rest := []) (w := (some (.int (iI 0)))) (st' := [.int (iI 0)]) kv_X12_fold_159 dX12_fold_3 rfl rfl (Nat.le_of_ble_eq_true rfl) (Nat.le_of_ble_eq_true rfl) (x_rv hB.1.1 hB.1.2 rfl) rfl rfl (cLT) rfl (fun h1 e1 => ?_)
  obtain ⟨hM1, F1⟩ := e1
  have hB1 := hB.obj hM1 ⟨rfl, rfl, rfl, rfl, rfl, rfl, rfl, rfl⟩ F1
  have FM1 : FRp (fpM m a) h h1 := fpm_m (a := a) F1
  refine i_ifeq dX12_fold_6 (tgt := 11) (by decide) ⟨by decide, by decide⟩ (fun _ => ?_) (fun c => absurd c (by decide))
  refine r_aload_n dX12_fold_11 0 rfl ?_
  refine p_callV (As := []) (b := m) (rest := []) (w := none) (st' := []) kv_X12_fold_230 dX12_fold_12 rfl rfl (Nat.le_of_ble_eq_true rfl) (Nat.le_of_ble_eq_true rfl) (x_rv hB1.1.1 hB1.1.2 rfl) rfl rfl (b_X12_keep hB1) rfl (fun h2 e2 => ?_)
  obtain ⟨hB2, G2⟩ := e2
  have FM2 : FRp (fpM m a) h h2 := FM1.tr (G2)
  refine r_aload_n dX12_fold_15 0 rfl ?_
  refine r_aload_n dX12_fold_16 0 rfl ?_
  refine r_iload_n dX12_fold_17 1 rfl ?_
  refine r_iload_n dX12_fold_18 2 rfl ?_
  obtain ⟨gY, hRY, hWY⟩ := hB2.now
  refine p_callV (As := [.int (iI z), .int (iI q)]) (b := m) (rest := [.ref m]) (w := (some (.int (iI 0)))) (st' := [.int (iI 0), .ref m]) kv_X12_fold_233 dX12_fold_19 rfl rfl (Nat.le_of_ble_eq_true rfl) (Nat.le_of_ble_eq_true rfl) (x_rv hB2.1.1 hB2.1.2 rfl) rfl rfl (d0_X12_doFold hB2.1 hRY hWY hWB hcb hz hq h0) rfl (fun h3 e3 => ?_)
  obtain ⟨r3, g3, hM3, hK3, hV3, hR3, hW3, F3⟩ := e3
  have hB3 := hB2.row hM3 hK3.1 hR3 hW3 F3
  have FM3 : FRp (fpM m a) h h3 := FM2.tr (fpm_r F3 hB2.2.1.1)
  refine p_callV (As := [.int (iI 0)]) (b := m) (rest := []) (w := (some (.int (iI r3.2.2.2.2.1)))) (st' := [.int (iI r3.2.2.2.2.1)]) kv_X12_fold_236 dX12_fold_22 rfl rfl (Nat.le_of_ble_eq_true rfl) (Nat.le_of_ble_eq_true rfl) (x_rv hB3.1.1 hB3.1.2 rfl) rfl rfl (b_X12_ends_0 hB3) rfl (fun h4 e4 => ?_)
  obtain ⟨hZ4, G4⟩ := e4
  have FM4 : FRp (fpM m a) h h4 := FM3.tr (G4)
  refine r_ireturn rfl rfl dX12_fold_25 ?_
  rw [hV3]
  exact ⟨rfl, hZ4, FM4⟩
set_option maxRecDepth 20000 in
set_option maxHeartbeats 1000000 in
theorem b_X12_fold_n1 {G : xG} {h : xH} {sa : Nat → Nat} {m : Nat} {a : MA} {S : XS} {c0 : Int} (hB0 : MB G h sa m a S c0) (hWX : WX S) (hcb : cnt isC S.2.2.1.2 ≤ 3) {z q : Int} (hz : in32 z) (hq : in32 q) (hs : hasS S.2.2.1 z = false) : CC G MX12_fold [.ref m, .int (iI z), .int (iI q)] h (fun o h' => o = .inl (some (.int (iI 0))) ∧ MB G h' sa m a S 1 ∧ FRp (fpM m a) h h') := by
  obtain ⟨r, hth, hB⟩ := hB0
  have hWB := hWX.1
  obtain ⟨g, hR, hRW⟩ := hB.now
  have hn := hRW.1.2.1
  have hc := hRW.1.1.2.2.2.1
  show RR G MX12_fold 0 [(0, .ref m), (1, .int (iI z)), (2, .int (iI q))] [] h (xm_R MX12_fold).cells (xm_R MX12_fold).slots (fun o h' => o = .inl (some (.int (iI 0))) ∧ MB G h' sa m a S 1 ∧ FRp (fpM m a) h h')
  refine r_aload_n dX12_fold_0 0 rfl ?_
  refine r_iload_n dX12_fold_1 1 rfl ?_
  refine r_iload_n dX12_fold_2 2 rfl ?_
  refine p_callV (As := [.int (iI z), .int (iI q)]) (b := m) (rest := []) (w := (some (.int (iI 1)))) (st' := [.int (iI 1)]) kv_X12_fold_159 dX12_fold_3 rfl rfl (Nat.le_of_ble_eq_true rfl) (Nat.le_of_ble_eq_true rfl) (x_rv hB.1.1 hB.1.2 rfl) rfl rfl (c_X12_lacksParts_no hB.1 hR hn hc hz (hasS_f hs) hq) rfl (fun h1 e1 => ?_)
  obtain ⟨hM1, F1⟩ := e1
  have hB1 := hB.obj hM1 ⟨rfl, rfl, rfl, rfl, rfl, rfl, rfl, rfl⟩ F1
  have FM1 : FRp (fpM m a) h h1 := fpm_m (a := a) F1
  refine i_ifeq dX12_fold_6 (tgt := 11) (by decide) ⟨by decide, by decide⟩ (fun c => absurd c (by decide)) (fun _ => ?_)
  refine i_const (0) dX12_fold_9 ?_
  refine r_ireturn rfl rfl dX12_fold_10 ?_
  exact ⟨rfl, MB.mk hB1 rfl, FM1⟩
set_option maxRecDepth 20000 in
set_option maxHeartbeats 1000000 in
theorem b_X12_fold_n2 {G : xG} {h : xH} {sa : Nat → Nat} {m : Nat} {a : MA} {S : XS} {c0 : Int} (hB0 : MB G h sa m a S c0) (hWX : WX S) (hcb : cnt isC S.2.2.1.2 ≤ 3) {z q : Int} (hz : in32 z) (hq : in32 q) (hs : hasS S.2.2.1 z = true) (hf : isFac q = false) : CC G MX12_fold [.ref m, .int (iI z), .int (iI q)] h (fun o h' => o = .inl (some (.int (iI 0))) ∧ MB G h' sa m a S 2 ∧ FRp (fpM m a) h h') := by
  obtain ⟨r, hth, hB⟩ := hB0
  have hWB := hWX.1
  obtain ⟨g, hR, hRW⟩ := hB.now
  have hn := hRW.1.2.1
  have hc := hRW.1.1.2.2.2.1
  obtain ⟨n1, n2⟩ := hasS_n hs
  have cLT := c_X12_lacksParts_f hB.1 hR hn hc n1 (hRW.1.s n1) hq hf
  rw [n2] at cLT
  show RR G MX12_fold 0 [(0, .ref m), (1, .int (iI z)), (2, .int (iI q))] [] h (xm_R MX12_fold).cells (xm_R MX12_fold).slots (fun o h' => o = .inl (some (.int (iI 0))) ∧ MB G h' sa m a S 2 ∧ FRp (fpM m a) h h')
  refine r_aload_n dX12_fold_0 0 rfl ?_
  refine r_iload_n dX12_fold_1 1 rfl ?_
  refine r_iload_n dX12_fold_2 2 rfl ?_
  refine p_callV (As := [.int (iI z), .int (iI q)]) (b := m) (rest := []) (w := (some (.int (iI 1)))) (st' := [.int (iI 1)]) kv_X12_fold_159 dX12_fold_3 rfl rfl (Nat.le_of_ble_eq_true rfl) (Nat.le_of_ble_eq_true rfl) (x_rv hB.1.1 hB.1.2 rfl) rfl rfl (cLT) rfl (fun h1 e1 => ?_)
  obtain ⟨hM1, F1⟩ := e1
  have hB1 := hB.obj hM1 ⟨rfl, rfl, rfl, rfl, rfl, rfl, rfl, rfl⟩ F1
  have FM1 : FRp (fpM m a) h h1 := fpm_m (a := a) F1
  refine i_ifeq dX12_fold_6 (tgt := 11) (by decide) ⟨by decide, by decide⟩ (fun c => absurd c (by decide)) (fun _ => ?_)
  refine i_const (0) dX12_fold_9 ?_
  refine r_ireturn rfl rfl dX12_fold_10 ?_
  exact ⟨rfl, MB.mk hB1 rfl, FM1⟩
set_option maxRecDepth 20000 in
set_option maxHeartbeats 1000000 in
theorem b_X12_fold_n3 {G : xG} {h : xH} {sa : Nat → Nat} {m : Nat} {a : MA} {S : XS} {c0 : Int} (hB0 : MB G h sa m a S c0) (hWX : WX S) (hcb : cnt isC S.2.2.1.2 ≤ 3) {z q : Int} (hz : in32 z) (hq : in32 q) (hs : hasS S.2.2.1 z = true) (hf : isFac q = true) (h0 : rCmd 0 S.2.2.1 z q ≠ 0) : CC G MX12_fold [.ref m, .int (iI z), .int (iI q)] h (fun o h' => o = .inl (some (.int (iI 0))) ∧ MB G h' sa m a S (cP 0 (rCmd 0 S.2.2.1 z q)) ∧ FRp (fpM m a) h h') := by
  obtain ⟨r, hth, hB⟩ := hB0
  have hWB := hWX.1
  obtain ⟨g, hR, hRW⟩ := hB.now
  have hn := hRW.1.2.1
  have hc := hRW.1.1.2.2.2.1
  obtain ⟨n1, n2⟩ := hasS_n hs
  have cLT := c_X12_lacksParts_t hB.1 hR hn hc n1 (hRW.1.s n1) hq hf
  rw [n2] at cLT
  show RR G MX12_fold 0 [(0, .ref m), (1, .int (iI z)), (2, .int (iI q))] [] h (xm_R MX12_fold).cells (xm_R MX12_fold).slots (fun o h' => o = .inl (some (.int (iI 0))) ∧ MB G h' sa m a S (cP 0 (rCmd 0 S.2.2.1 z q)) ∧ FRp (fpM m a) h h')
  refine r_aload_n dX12_fold_0 0 rfl ?_
  refine r_iload_n dX12_fold_1 1 rfl ?_
  refine r_iload_n dX12_fold_2 2 rfl ?_
  refine p_callV (As := [.int (iI z), .int (iI q)]) (b := m) (rest := []) (w := (some (.int (iI 0)))) (st' := [.int (iI 0)]) kv_X12_fold_159 dX12_fold_3 rfl rfl (Nat.le_of_ble_eq_true rfl) (Nat.le_of_ble_eq_true rfl) (x_rv hB.1.1 hB.1.2 rfl) rfl rfl (cLT) rfl (fun h1 e1 => ?_)
  obtain ⟨hM1, F1⟩ := e1
  have hB1 := hB.obj hM1 ⟨rfl, rfl, rfl, rfl, rfl, rfl, rfl, rfl⟩ F1
  have FM1 : FRp (fpM m a) h h1 := fpm_m (a := a) F1
  refine i_ifeq dX12_fold_6 (tgt := 11) (by decide) ⟨by decide, by decide⟩ (fun _ => ?_) (fun c => absurd c (by decide))
  refine r_aload_n dX12_fold_11 0 rfl ?_
  refine p_callV (As := []) (b := m) (rest := []) (w := none) (st' := []) kv_X12_fold_230 dX12_fold_12 rfl rfl (Nat.le_of_ble_eq_true rfl) (Nat.le_of_ble_eq_true rfl) (x_rv hB1.1.1 hB1.1.2 rfl) rfl rfl (b_X12_keep hB1) rfl (fun h2 e2 => ?_)
  obtain ⟨hB2, G2⟩ := e2
  have FM2 : FRp (fpM m a) h h2 := FM1.tr (G2)
  refine r_aload_n dX12_fold_15 0 rfl ?_
  refine r_aload_n dX12_fold_16 0 rfl ?_
  refine r_iload_n dX12_fold_17 1 rfl ?_
  refine r_iload_n dX12_fold_18 2 rfl ?_
  obtain ⟨gY, hRY, hWY⟩ := hB2.now
  refine p_callV (As := [.int (iI z), .int (iI q)]) (b := m) (rest := [.ref m]) (w := (some (.int (iI (codeC 0 (rCmd 0 S.2.2.1 z q)))))) (st' := [.int (iI (codeC 0 (rCmd 0 S.2.2.1 z q))), .ref m]) kv_X12_fold_233 dX12_fold_19 rfl rfl (Nat.le_of_ble_eq_true rfl) (Nat.le_of_ble_eq_true rfl) (x_rv hB2.1.1 hB2.1.2 rfl) rfl rfl (dn_X12_doFold hB2.1 hRY hWY hWB hcb hz hq hf h0) rfl (fun h3 e3 => ?_)
  obtain ⟨r3, g3, hM3, hK3, hR3, hW3, F3⟩ := e3
  have hB3 := hB2.row hM3 hK3.1 hR3 hW3 F3
  have FM3 : FRp (fpM m a) h h3 := FM2.tr (fpm_r F3 hB2.2.1.1)
  refine p_callV (As := [.int (iI (codeC 0 (rCmd 0 S.2.2.1 z q)))]) (b := m) (rest := []) (w := (some (.int (iI 0)))) (st' := [.int (iI 0)]) kv_X12_fold_236 dX12_fold_22 rfl rfl (Nat.le_of_ble_eq_true rfl) (Nat.le_of_ble_eq_true rfl) (x_rv hB3.1.1 hB3.1.2 rfl) rfl rfl (b_X12_ends_n hB3 (codeC_nz h0 rCmd_lt).1 (codeC_nz h0 rCmd_lt).2) rfl (fun h4 e4 => ?_)
  obtain ⟨hZ4, G4⟩ := e4
  have FM4 : FRp (fpM m a) h h4 := FM3.tr (G4)
  refine r_ireturn rfl rfl dX12_fold_25 ?_
  rw [show cP 0 (rCmd 0 S.2.2.1 z q) = codeC 0 (rCmd 0 S.2.2.1 z q) from rfl]
  exact ⟨rfl, hZ4, FM4⟩
theorem b_X12_fold_no {G : xG} {h : xH} {sa : Nat → Nat} {m : Nat} {a : MA} {S : XS} {c0 : Int} (hB0 : MB G h sa m a S c0) (hWX : WX S) (hcb : cnt isC S.2.2.1.2 ≤ 3) {z q : Int} (hz : in32 z) (hq : in32 q) (h0 : rCmd 0 S.2.2.1 z q ≠ 0) : CC G MX12_fold [.ref m, .int (iI z), .int (iI q)] h (fun o h' => o = .inl (some (.int (iI 0))) ∧ MB G h' sa m a S (cP 0 (rCmd 0 S.2.2.1 z q)) ∧ FRp (fpM m a) h h') := by
  cases hs : hasS S.2.2.1 z
  · have e : rCmd 0 S.2.2.1 z q = 1 := by show rFold S.2.2.1 z q = 1; unfold rFold; rw [hs]; rfl
    rw [e]
    exact b_X12_fold_n1 hB0 hWX hcb hz hq hs
  · cases hf : isFac q
    · have e : rCmd 0 S.2.2.1 z q = 2 := by show rFold S.2.2.1 z q = 2; unfold rFold; rw [hs, hf]; rfl
      rw [e]
      exact b_X12_fold_n2 hB0 hWX hcb hz hq hs hf
    · exact b_X12_fold_n3 hB0 hWX hcb hz hq hs hf h0
set_option maxRecDepth 20000 in
set_option maxHeartbeats 1000000 in
theorem b_X12_roll_ok {G : xG} {h : xH} {sa : Nat → Nat} {m : Nat} {a : MA} {S : XS} {c0 : Int} (hB0 : MB G h sa m a S c0) (hWX : WX S) (hcb : cnt isC S.2.2.1.2 ≤ 3) {z q : Int} (hz : in32 z) (hq : in32 q) (h0 : rCmd 1 S.2.2.1 z q = 0) : CC G MX12_roll [.ref m, .int (iI z), .int (iI q)] h (fun o h' => o = .inl (some (.int (iI (vCmd 1 S.2.2.1 z q)))) ∧ MB G h' sa m a (S.1, S.2.1, aCmd 1 S.2.2.1 z q, S.2.2.2.1, remH S.2.2.2.2.1 S.2.2.1, S.2.2.2.2.2) 0 ∧ FRp (fpM m a) h h') := by
  obtain ⟨r, hth, hB⟩ := hB0
  have hWB := hWX.1
  obtain ⟨g, hR, hRW⟩ := hB.now
  have hn := hRW.1.2.1
  have hc := hRW.1.1.2.2.2.1
  have hb0 : rRoll S.2.2.1 z q = 0 := h0
  obtain ⟨z1, hfc, z3⟩ := rR0 hb0
  obtain ⟨n1, n2⟩ := hasS_n z1
  have cLT := c_X12_lacksParts_t hB.1 hR hn hc n1 (hRW.1.s n1) hq hfc
  rw [n2] at cLT
  show RR G MX12_roll 0 [(0, .ref m), (1, .int (iI z)), (2, .int (iI q))] [] h (xm_R MX12_roll).cells (xm_R MX12_roll).slots (fun o h' => o = .inl (some (.int (iI (vCmd 1 S.2.2.1 z q)))) ∧ MB G h' sa m a (S.1, S.2.1, aCmd 1 S.2.2.1 z q, S.2.2.2.1, remH S.2.2.2.2.1 S.2.2.1, S.2.2.2.2.2) 0 ∧ FRp (fpM m a) h h')
  refine r_aload_n dX12_roll_0 0 rfl ?_
  refine r_iload_n dX12_roll_1 1 rfl ?_
  refine r_iload_n dX12_roll_2 2 rfl ?_
  refine p_callV (As := [.int (iI z), .int (iI q)]) (b := m) (rest := []) (w := (some (.int (iI 0)))) (st' := [.int (iI 0)]) kv_X12_roll_159 dX12_roll_3 rfl rfl (Nat.le_of_ble_eq_true rfl) (Nat.le_of_ble_eq_true rfl) (x_rv hB.1.1 hB.1.2 rfl) rfl rfl (cLT) rfl (fun h1 e1 => ?_)
  obtain ⟨hM1, F1⟩ := e1
  have hB1 := hB.obj hM1 ⟨rfl, rfl, rfl, rfl, rfl, rfl, rfl, rfl⟩ F1
  have FM1 : FRp (fpM m a) h h1 := fpm_m (a := a) F1
  refine i_ifeq dX12_roll_6 (tgt := 11) (by decide) ⟨by decide, by decide⟩ (fun _ => ?_) (fun c => absurd c (by decide))
  refine r_aload_n dX12_roll_11 0 rfl ?_
  refine p_callV (As := []) (b := m) (rest := []) (w := none) (st' := []) kv_X12_roll_230 dX12_roll_12 rfl rfl (Nat.le_of_ble_eq_true rfl) (Nat.le_of_ble_eq_true rfl) (x_rv hB1.1.1 hB1.1.2 rfl) rfl rfl (b_X12_keep hB1) rfl (fun h2 e2 => ?_)
  obtain ⟨hB2, G2⟩ := e2
  have FM2 : FRp (fpM m a) h h2 := FM1.tr (G2)
  refine r_aload_n dX12_roll_15 0 rfl ?_
  refine r_aload_n dX12_roll_16 0 rfl ?_
  refine r_iload_n dX12_roll_17 1 rfl ?_
  refine r_iload_n dX12_roll_18 2 rfl ?_
  obtain ⟨gY, hRY, hWY⟩ := hB2.now
  refine p_callV (As := [.int (iI z), .int (iI q)]) (b := m) (rest := [.ref m]) (w := (some (.int (iI 0)))) (st' := [.int (iI 0), .ref m]) kv_X12_roll_239 dX12_roll_19 rfl rfl (Nat.le_of_ble_eq_true rfl) (Nat.le_of_ble_eq_true rfl) (x_rv hB2.1.1 hB2.1.2 rfl) rfl rfl (d0_X12_doRoll hB2.1 hRY hWY hWB hcb hz hq h0) rfl (fun h3 e3 => ?_)
  obtain ⟨r3, g3, hM3, hK3, hV3, hR3, hW3, F3⟩ := e3
  have hB3 := hB2.row hM3 hK3.1 hR3 hW3 F3
  have FM3 : FRp (fpM m a) h h3 := FM2.tr (fpm_r F3 hB2.2.1.1)
  refine p_callV (As := [.int (iI 0)]) (b := m) (rest := []) (w := (some (.int (iI r3.2.2.2.2.1)))) (st' := [.int (iI r3.2.2.2.2.1)]) kv_X12_roll_236 dX12_roll_22 rfl rfl (Nat.le_of_ble_eq_true rfl) (Nat.le_of_ble_eq_true rfl) (x_rv hB3.1.1 hB3.1.2 rfl) rfl rfl (b_X12_ends_0 hB3) rfl (fun h4 e4 => ?_)
  obtain ⟨hZ4, G4⟩ := e4
  have FM4 : FRp (fpM m a) h h4 := FM3.tr (G4)
  refine r_ireturn rfl rfl dX12_roll_25 ?_
  rw [hV3]
  exact ⟨rfl, hZ4, FM4⟩
set_option maxRecDepth 20000 in
set_option maxHeartbeats 1000000 in
theorem b_X12_roll_n1 {G : xG} {h : xH} {sa : Nat → Nat} {m : Nat} {a : MA} {S : XS} {c0 : Int} (hB0 : MB G h sa m a S c0) (hWX : WX S) (hcb : cnt isC S.2.2.1.2 ≤ 3) {z q : Int} (hz : in32 z) (hq : in32 q) (hs : hasS S.2.2.1 z = false) : CC G MX12_roll [.ref m, .int (iI z), .int (iI q)] h (fun o h' => o = .inl (some (.int (iI 0))) ∧ MB G h' sa m a S 1 ∧ FRp (fpM m a) h h') := by
  obtain ⟨r, hth, hB⟩ := hB0
  have hWB := hWX.1
  obtain ⟨g, hR, hRW⟩ := hB.now
  have hn := hRW.1.2.1
  have hc := hRW.1.1.2.2.2.1
  show RR G MX12_roll 0 [(0, .ref m), (1, .int (iI z)), (2, .int (iI q))] [] h (xm_R MX12_roll).cells (xm_R MX12_roll).slots (fun o h' => o = .inl (some (.int (iI 0))) ∧ MB G h' sa m a S 1 ∧ FRp (fpM m a) h h')
  refine r_aload_n dX12_roll_0 0 rfl ?_
  refine r_iload_n dX12_roll_1 1 rfl ?_
  refine r_iload_n dX12_roll_2 2 rfl ?_
  refine p_callV (As := [.int (iI z), .int (iI q)]) (b := m) (rest := []) (w := (some (.int (iI 1)))) (st' := [.int (iI 1)]) kv_X12_roll_159 dX12_roll_3 rfl rfl (Nat.le_of_ble_eq_true rfl) (Nat.le_of_ble_eq_true rfl) (x_rv hB.1.1 hB.1.2 rfl) rfl rfl (c_X12_lacksParts_no hB.1 hR hn hc hz (hasS_f hs) hq) rfl (fun h1 e1 => ?_)
  obtain ⟨hM1, F1⟩ := e1
  have hB1 := hB.obj hM1 ⟨rfl, rfl, rfl, rfl, rfl, rfl, rfl, rfl⟩ F1
  have FM1 : FRp (fpM m a) h h1 := fpm_m (a := a) F1
  refine i_ifeq dX12_roll_6 (tgt := 11) (by decide) ⟨by decide, by decide⟩ (fun c => absurd c (by decide)) (fun _ => ?_)
  refine i_const (0) dX12_roll_9 ?_
  refine r_ireturn rfl rfl dX12_roll_10 ?_
  exact ⟨rfl, MB.mk hB1 rfl, FM1⟩
set_option maxRecDepth 20000 in
set_option maxHeartbeats 1000000 in
theorem b_X12_roll_n2 {G : xG} {h : xH} {sa : Nat → Nat} {m : Nat} {a : MA} {S : XS} {c0 : Int} (hB0 : MB G h sa m a S c0) (hWX : WX S) (hcb : cnt isC S.2.2.1.2 ≤ 3) {z q : Int} (hz : in32 z) (hq : in32 q) (hs : hasS S.2.2.1 z = true) (hf : isFac q = false) : CC G MX12_roll [.ref m, .int (iI z), .int (iI q)] h (fun o h' => o = .inl (some (.int (iI 0))) ∧ MB G h' sa m a S 2 ∧ FRp (fpM m a) h h') := by
  obtain ⟨r, hth, hB⟩ := hB0
  have hWB := hWX.1
  obtain ⟨g, hR, hRW⟩ := hB.now
  have hn := hRW.1.2.1
  have hc := hRW.1.1.2.2.2.1
  obtain ⟨n1, n2⟩ := hasS_n hs
  have cLT := c_X12_lacksParts_f hB.1 hR hn hc n1 (hRW.1.s n1) hq hf
  rw [n2] at cLT
  show RR G MX12_roll 0 [(0, .ref m), (1, .int (iI z)), (2, .int (iI q))] [] h (xm_R MX12_roll).cells (xm_R MX12_roll).slots (fun o h' => o = .inl (some (.int (iI 0))) ∧ MB G h' sa m a S 2 ∧ FRp (fpM m a) h h')
  refine r_aload_n dX12_roll_0 0 rfl ?_
  refine r_iload_n dX12_roll_1 1 rfl ?_
  refine r_iload_n dX12_roll_2 2 rfl ?_
  refine p_callV (As := [.int (iI z), .int (iI q)]) (b := m) (rest := []) (w := (some (.int (iI 1)))) (st' := [.int (iI 1)]) kv_X12_roll_159 dX12_roll_3 rfl rfl (Nat.le_of_ble_eq_true rfl) (Nat.le_of_ble_eq_true rfl) (x_rv hB.1.1 hB.1.2 rfl) rfl rfl (cLT) rfl (fun h1 e1 => ?_)
  obtain ⟨hM1, F1⟩ := e1
  have hB1 := hB.obj hM1 ⟨rfl, rfl, rfl, rfl, rfl, rfl, rfl, rfl⟩ F1
  have FM1 : FRp (fpM m a) h h1 := fpm_m (a := a) F1
  refine i_ifeq dX12_roll_6 (tgt := 11) (by decide) ⟨by decide, by decide⟩ (fun c => absurd c (by decide)) (fun _ => ?_)
  refine i_const (0) dX12_roll_9 ?_
  refine r_ireturn rfl rfl dX12_roll_10 ?_
  exact ⟨rfl, MB.mk hB1 rfl, FM1⟩
set_option maxRecDepth 20000 in
set_option maxHeartbeats 1000000 in
theorem b_X12_roll_n3 {G : xG} {h : xH} {sa : Nat → Nat} {m : Nat} {a : MA} {S : XS} {c0 : Int} (hB0 : MB G h sa m a S c0) (hWX : WX S) (hcb : cnt isC S.2.2.1.2 ≤ 3) {z q : Int} (hz : in32 z) (hq : in32 q) (hs : hasS S.2.2.1 z = true) (hf : isFac q = true) (h0 : rCmd 1 S.2.2.1 z q ≠ 0) : CC G MX12_roll [.ref m, .int (iI z), .int (iI q)] h (fun o h' => o = .inl (some (.int (iI 0))) ∧ MB G h' sa m a S (cP 1 (rCmd 1 S.2.2.1 z q)) ∧ FRp (fpM m a) h h') := by
  obtain ⟨r, hth, hB⟩ := hB0
  have hWB := hWX.1
  obtain ⟨g, hR, hRW⟩ := hB.now
  have hn := hRW.1.2.1
  have hc := hRW.1.1.2.2.2.1
  obtain ⟨n1, n2⟩ := hasS_n hs
  have cLT := c_X12_lacksParts_t hB.1 hR hn hc n1 (hRW.1.s n1) hq hf
  rw [n2] at cLT
  show RR G MX12_roll 0 [(0, .ref m), (1, .int (iI z)), (2, .int (iI q))] [] h (xm_R MX12_roll).cells (xm_R MX12_roll).slots (fun o h' => o = .inl (some (.int (iI 0))) ∧ MB G h' sa m a S (cP 1 (rCmd 1 S.2.2.1 z q)) ∧ FRp (fpM m a) h h')
  refine r_aload_n dX12_roll_0 0 rfl ?_
  refine r_iload_n dX12_roll_1 1 rfl ?_
  refine r_iload_n dX12_roll_2 2 rfl ?_
  refine p_callV (As := [.int (iI z), .int (iI q)]) (b := m) (rest := []) (w := (some (.int (iI 0)))) (st' := [.int (iI 0)]) kv_X12_roll_159 dX12_roll_3 rfl rfl (Nat.le_of_ble_eq_true rfl) (Nat.le_of_ble_eq_true rfl) (x_rv hB.1.1 hB.1.2 rfl) rfl rfl (cLT) rfl (fun h1 e1 => ?_)
  obtain ⟨hM1, F1⟩ := e1
  have hB1 := hB.obj hM1 ⟨rfl, rfl, rfl, rfl, rfl, rfl, rfl, rfl⟩ F1
  have FM1 : FRp (fpM m a) h h1 := fpm_m (a := a) F1
  refine i_ifeq dX12_roll_6 (tgt := 11) (by decide) ⟨by decide, by decide⟩ (fun _ => ?_) (fun c => absurd c (by decide))
  refine r_aload_n dX12_roll_11 0 rfl ?_
  refine p_callV (As := []) (b := m) (rest := []) (w := none) (st' := []) kv_X12_roll_230 dX12_roll_12 rfl rfl (Nat.le_of_ble_eq_true rfl) (Nat.le_of_ble_eq_true rfl) (x_rv hB1.1.1 hB1.1.2 rfl) rfl rfl (b_X12_keep hB1) rfl (fun h2 e2 => ?_)
  obtain ⟨hB2, G2⟩ := e2
  have FM2 : FRp (fpM m a) h h2 := FM1.tr (G2)
  refine r_aload_n dX12_roll_15 0 rfl ?_
  refine r_aload_n dX12_roll_16 0 rfl ?_
  refine r_iload_n dX12_roll_17 1 rfl ?_
  refine r_iload_n dX12_roll_18 2 rfl ?_
  obtain ⟨gY, hRY, hWY⟩ := hB2.now
  refine p_callV (As := [.int (iI z), .int (iI q)]) (b := m) (rest := [.ref m]) (w := (some (.int (iI (codeC 1 (rCmd 1 S.2.2.1 z q)))))) (st' := [.int (iI (codeC 1 (rCmd 1 S.2.2.1 z q))), .ref m]) kv_X12_roll_239 dX12_roll_19 rfl rfl (Nat.le_of_ble_eq_true rfl) (Nat.le_of_ble_eq_true rfl) (x_rv hB2.1.1 hB2.1.2 rfl) rfl rfl (dn_X12_doRoll hB2.1 hRY hWY hWB hcb hz hq hf h0) rfl (fun h3 e3 => ?_)
  obtain ⟨r3, g3, hM3, hK3, hR3, hW3, F3⟩ := e3
  have hB3 := hB2.row hM3 hK3.1 hR3 hW3 F3
  have FM3 : FRp (fpM m a) h h3 := FM2.tr (fpm_r F3 hB2.2.1.1)
  refine p_callV (As := [.int (iI (codeC 1 (rCmd 1 S.2.2.1 z q)))]) (b := m) (rest := []) (w := (some (.int (iI 0)))) (st' := [.int (iI 0)]) kv_X12_roll_236 dX12_roll_22 rfl rfl (Nat.le_of_ble_eq_true rfl) (Nat.le_of_ble_eq_true rfl) (x_rv hB3.1.1 hB3.1.2 rfl) rfl rfl (b_X12_ends_n hB3 (codeC_nz h0 rCmd_lt).1 (codeC_nz h0 rCmd_lt).2) rfl (fun h4 e4 => ?_)
  obtain ⟨hZ4, G4⟩ := e4
  have FM4 : FRp (fpM m a) h h4 := FM3.tr (G4)
  refine r_ireturn rfl rfl dX12_roll_25 ?_
  rw [show cP 1 (rCmd 1 S.2.2.1 z q) = codeC 1 (rCmd 1 S.2.2.1 z q) from rfl]
  exact ⟨rfl, hZ4, FM4⟩
theorem b_X12_roll_no {G : xG} {h : xH} {sa : Nat → Nat} {m : Nat} {a : MA} {S : XS} {c0 : Int} (hB0 : MB G h sa m a S c0) (hWX : WX S) (hcb : cnt isC S.2.2.1.2 ≤ 3) {z q : Int} (hz : in32 z) (hq : in32 q) (h0 : rCmd 1 S.2.2.1 z q ≠ 0) : CC G MX12_roll [.ref m, .int (iI z), .int (iI q)] h (fun o h' => o = .inl (some (.int (iI 0))) ∧ MB G h' sa m a S (cP 1 (rCmd 1 S.2.2.1 z q)) ∧ FRp (fpM m a) h h') := by
  cases hs : hasS S.2.2.1 z
  · have e : rCmd 1 S.2.2.1 z q = 1 := by show rRoll S.2.2.1 z q = 1; unfold rRoll; rw [hs]; rfl
    rw [e]
    exact b_X12_roll_n1 hB0 hWX hcb hz hq hs
  · cases hf : isFac q
    · have e : rCmd 1 S.2.2.1 z q = 2 := by show rRoll S.2.2.1 z q = 2; unfold rRoll; rw [hs, hf]; rfl
      rw [e]
      exact b_X12_roll_n2 hB0 hWX hcb hz hq hs hf
    · exact b_X12_roll_n3 hB0 hWX hcb hz hq hs hf h0
set_option maxRecDepth 20000 in
set_option maxHeartbeats 1000000 in
theorem b_X12_passHours_ok {G : xG} {h : xH} {sa : Nat → Nat} {m : Nat} {a : MA} {S : XS} {c0 : Int} (hB0 : MB G h sa m a S c0) (hWX : WX S) (hcb : cnt isC S.2.2.1.2 ≤ 3) {z q : Int} (hz : in32 z) (hq : in32 q) (h0 : rCmd 6 S.2.2.1 z q = 0) : CC G MX12_passHours [.ref m, .int (iI z)] h (fun o h' => o = .inl (some (.int (iI (vCmd 6 S.2.2.1 z q)))) ∧ MB G h' sa m a (S.1, S.2.1, aCmd 6 S.2.2.1 z q, S.2.2.2.1, remH S.2.2.2.2.1 S.2.2.1, S.2.2.2.2.2) 0 ∧ FRp (fpM m a) h h') := by
  obtain ⟨r, hth, hB⟩ := hB0
  have hWB := hWX.1
  obtain ⟨g, hR, hRW⟩ := hB.now
  have hn := hRW.1.2.1
  have hc := hRW.1.1.2.2.2.1
  have hb0 : rHours S.2.2.1 z = 0 := h0
  obtain ⟨z1, z2, z3⟩ := rH0 hb0
  have hir : inR z 1 24 = true := by unfold inR; rw [decide_eq_true (by omega), decide_eq_true (by omega)]; rfl
  show RR G MX12_passHours 0 [(0, .ref m), (1, .int (iI z))] [] h (xm_R MX12_passHours).cells (xm_R MX12_passHours).slots (fun o h' => o = .inl (some (.int (iI (vCmd 6 S.2.2.1 z q)))) ∧ MB G h' sa m a (S.1, S.2.1, aCmd 6 S.2.2.1 z q, S.2.2.2.1, remH S.2.2.2.2.1 S.2.2.1, S.2.2.2.2.2) 0 ∧ FRp (fpM m a) h h')
  refine r_aload_n dX12_passHours_0 0 rfl ?_
  refine r_iload_n dX12_passHours_1 1 rfl ?_
  refine i_const (1) dX12_passHours_2 ?_
  refine i_bipush (24) (by decide) dX12_passHours_3 ?_
  refine p_callS (As := [.int (iI z), .int (iI 1), .int (iI 24)]) (rest := [.ref m]) (w := (some (.int (iI (b2 true))))) (st' := [.int (iI (b2 true)), .ref m]) kv_X12_passHours_107 dX12_passHours_5 rfl rfl (Nat.le_of_ble_eq_true rfl) (Nat.le_of_ble_eq_true rfl) rfl rfl (c_X12_inRange_b hz ⟨by decide, by decide⟩ ⟨by decide, by decide⟩ (b := true) hir) rfl (fun h1 e1 => ?_)
  rw [show h1 = h from e1]
  refine p_callV (As := [.int (iI (b2 true))]) (b := m) (rest := []) (w := (some (.int (iI 0)))) (st' := [.int (iI 0)]) kv_X12_passHours_82 dX12_passHours_8 rfl rfl (Nat.le_of_ble_eq_true rfl) (Nat.le_of_ble_eq_true rfl) (x_rv hB.1.1 hB.1.2 rfl) rfl rfl (c_X12_lacks_t hB.1) rfl (fun h2 e2 => ?_)
  obtain ⟨hM2, F2⟩ := e2
  have hB2 := hB.obj hM2 ⟨rfl, rfl, rfl, rfl, rfl, rfl, rfl, rfl⟩ F2
  have FM2 : FRp (fpM m a) h h2 := fpm_m (a := a) F2
  refine i_ifeq dX12_passHours_11 (tgt := 16) (by decide) ⟨by decide, by decide⟩ (fun _ => ?_) (fun c => absurd c (by decide))
  refine r_aload_n dX12_passHours_16 0 rfl ?_
  refine p_callV (As := []) (b := m) (rest := []) (w := none) (st' := []) kv_X12_passHours_230 dX12_passHours_17 rfl rfl (Nat.le_of_ble_eq_true rfl) (Nat.le_of_ble_eq_true rfl) (x_rv hB2.1.1 hB2.1.2 rfl) rfl rfl (b_X12_keep hB2) rfl (fun h3 e3 => ?_)
  obtain ⟨hB3, G3⟩ := e3
  have FM3 : FRp (fpM m a) h h3 := FM2.tr (G3)
  refine r_aload_n dX12_passHours_20 0 rfl ?_
  refine r_aload_n dX12_passHours_21 0 rfl ?_
  refine r_iload_n dX12_passHours_22 1 rfl ?_
  obtain ⟨gY, hRY, hWY⟩ := hB3.now
  refine p_callV (As := [.int (iI z)]) (b := m) (rest := [.ref m]) (w := (some (.int (iI 0)))) (st' := [.int (iI 0), .ref m]) kv_X12_passHours_254 dX12_passHours_23 rfl rfl (Nat.le_of_ble_eq_true rfl) (Nat.le_of_ble_eq_true rfl) (x_rv hB3.1.1 hB3.1.2 rfl) rfl rfl (d0_X12_doHours hB3.1 hRY hWY hWB hcb hz hq h0) rfl (fun h4 e4 => ?_)
  obtain ⟨r4, g4, hM4, hK4, hV4, hR4, hW4, F4⟩ := e4
  have hB4 := hB3.row hM4 hK4.1 hR4 hW4 F4
  have FM4 : FRp (fpM m a) h h4 := FM3.tr (fpm_r F4 hB3.2.1.1)
  refine p_callV (As := [.int (iI 0)]) (b := m) (rest := []) (w := (some (.int (iI r4.2.2.2.2.1)))) (st' := [.int (iI r4.2.2.2.2.1)]) kv_X12_passHours_236 dX12_passHours_26 rfl rfl (Nat.le_of_ble_eq_true rfl) (Nat.le_of_ble_eq_true rfl) (x_rv hB4.1.1 hB4.1.2 rfl) rfl rfl (b_X12_ends_0 hB4) rfl (fun h5 e5 => ?_)
  obtain ⟨hZ5, G5⟩ := e5
  have FM5 : FRp (fpM m a) h h5 := FM4.tr (G5)
  refine r_ireturn rfl rfl dX12_passHours_29 ?_
  rw [hV4]
  exact ⟨rfl, hZ5, FM5⟩
set_option maxRecDepth 20000 in
set_option maxHeartbeats 1000000 in
theorem b_X12_passHours_n1 {G : xG} {h : xH} {sa : Nat → Nat} {m : Nat} {a : MA} {S : XS} {c0 : Int} (hB0 : MB G h sa m a S c0) (hWX : WX S) (hcb : cnt isC S.2.2.1.2 ≤ 3) {z q : Int} (hz : in32 z) (hq : in32 q) (hir : inR z 1 24 = false) : CC G MX12_passHours [.ref m, .int (iI z)] h (fun o h' => o = .inl (some (.int (iI 0))) ∧ MB G h' sa m a S 1 ∧ FRp (fpM m a) h h') := by
  obtain ⟨r, hth, hB⟩ := hB0
  have hWB := hWX.1
  obtain ⟨g, hR, hRW⟩ := hB.now
  have hn := hRW.1.2.1
  have hc := hRW.1.1.2.2.2.1
  show RR G MX12_passHours 0 [(0, .ref m), (1, .int (iI z))] [] h (xm_R MX12_passHours).cells (xm_R MX12_passHours).slots (fun o h' => o = .inl (some (.int (iI 0))) ∧ MB G h' sa m a S 1 ∧ FRp (fpM m a) h h')
  refine r_aload_n dX12_passHours_0 0 rfl ?_
  refine r_iload_n dX12_passHours_1 1 rfl ?_
  refine i_const (1) dX12_passHours_2 ?_
  refine i_bipush (24) (by decide) dX12_passHours_3 ?_
  refine p_callS (As := [.int (iI z), .int (iI 1), .int (iI 24)]) (rest := [.ref m]) (w := (some (.int (iI (b2 false))))) (st' := [.int (iI (b2 false)), .ref m]) kv_X12_passHours_107 dX12_passHours_5 rfl rfl (Nat.le_of_ble_eq_true rfl) (Nat.le_of_ble_eq_true rfl) rfl rfl (c_X12_inRange_b hz ⟨by decide, by decide⟩ ⟨by decide, by decide⟩ (b := false) hir) rfl (fun h1 e1 => ?_)
  rw [show h1 = h from e1]
  refine p_callV (As := [.int (iI (b2 false))]) (b := m) (rest := []) (w := (some (.int (iI 1)))) (st' := [.int (iI 1)]) kv_X12_passHours_82 dX12_passHours_8 rfl rfl (Nat.le_of_ble_eq_true rfl) (Nat.le_of_ble_eq_true rfl) (x_rv hB.1.1 hB.1.2 rfl) rfl rfl (c_X12_lacks_f hB.1) rfl (fun h2 e2 => ?_)
  obtain ⟨hM2, F2⟩ := e2
  have hB2 := hB.obj hM2 ⟨rfl, rfl, rfl, rfl, rfl, rfl, rfl, rfl⟩ F2
  have FM2 : FRp (fpM m a) h h2 := fpm_m (a := a) F2
  refine i_ifeq dX12_passHours_11 (tgt := 16) (by decide) ⟨by decide, by decide⟩ (fun c => absurd c (by decide)) (fun _ => ?_)
  refine i_const (0) dX12_passHours_14 ?_
  refine r_ireturn rfl rfl dX12_passHours_15 ?_
  exact ⟨rfl, MB.mk hB2 rfl, FM2⟩
set_option maxRecDepth 20000 in
set_option maxHeartbeats 1000000 in
theorem b_X12_passHours_n2 {G : xG} {h : xH} {sa : Nat → Nat} {m : Nat} {a : MA} {S : XS} {c0 : Int} (hB0 : MB G h sa m a S c0) (hWX : WX S) (hcb : cnt isC S.2.2.1.2 ≤ 3) {z q : Int} (hz : in32 z) (hq : in32 q) (hir : inR z 1 24 = true) (h0 : rCmd 6 S.2.2.1 z q ≠ 0) : CC G MX12_passHours [.ref m, .int (iI z)] h (fun o h' => o = .inl (some (.int (iI 0))) ∧ MB G h' sa m a S 2 ∧ FRp (fpM m a) h h') := by
  obtain ⟨r, hth, hB⟩ := hB0
  have hWB := hWX.1
  obtain ⟨g, hR, hRW⟩ := hB.now
  have hn := hRW.1.2.1
  have hc := hRW.1.1.2.2.2.1
  have hrg : 1 ≤ z ∧ z ≤ 24 := by simpa [inR] using hir
  show RR G MX12_passHours 0 [(0, .ref m), (1, .int (iI z))] [] h (xm_R MX12_passHours).cells (xm_R MX12_passHours).slots (fun o h' => o = .inl (some (.int (iI 0))) ∧ MB G h' sa m a S 2 ∧ FRp (fpM m a) h h')
  refine r_aload_n dX12_passHours_0 0 rfl ?_
  refine r_iload_n dX12_passHours_1 1 rfl ?_
  refine i_const (1) dX12_passHours_2 ?_
  refine i_bipush (24) (by decide) dX12_passHours_3 ?_
  refine p_callS (As := [.int (iI z), .int (iI 1), .int (iI 24)]) (rest := [.ref m]) (w := (some (.int (iI (b2 true))))) (st' := [.int (iI (b2 true)), .ref m]) kv_X12_passHours_107 dX12_passHours_5 rfl rfl (Nat.le_of_ble_eq_true rfl) (Nat.le_of_ble_eq_true rfl) rfl rfl (c_X12_inRange_b hz ⟨by decide, by decide⟩ ⟨by decide, by decide⟩ (b := true) hir) rfl (fun h1 e1 => ?_)
  rw [show h1 = h from e1]
  refine p_callV (As := [.int (iI (b2 true))]) (b := m) (rest := []) (w := (some (.int (iI 0)))) (st' := [.int (iI 0)]) kv_X12_passHours_82 dX12_passHours_8 rfl rfl (Nat.le_of_ble_eq_true rfl) (Nat.le_of_ble_eq_true rfl) (x_rv hB.1.1 hB.1.2 rfl) rfl rfl (c_X12_lacks_t hB.1) rfl (fun h2 e2 => ?_)
  obtain ⟨hM2, F2⟩ := e2
  have hB2 := hB.obj hM2 ⟨rfl, rfl, rfl, rfl, rfl, rfl, rfl, rfl⟩ F2
  have FM2 : FRp (fpM m a) h h2 := fpm_m (a := a) F2
  refine i_ifeq dX12_passHours_11 (tgt := 16) (by decide) ⟨by decide, by decide⟩ (fun _ => ?_) (fun c => absurd c (by decide))
  refine r_aload_n dX12_passHours_16 0 rfl ?_
  refine p_callV (As := []) (b := m) (rest := []) (w := none) (st' := []) kv_X12_passHours_230 dX12_passHours_17 rfl rfl (Nat.le_of_ble_eq_true rfl) (Nat.le_of_ble_eq_true rfl) (x_rv hB2.1.1 hB2.1.2 rfl) rfl rfl (b_X12_keep hB2) rfl (fun h3 e3 => ?_)
  obtain ⟨hB3, G3⟩ := e3
  have FM3 : FRp (fpM m a) h h3 := FM2.tr (G3)
  refine r_aload_n dX12_passHours_20 0 rfl ?_
  refine r_aload_n dX12_passHours_21 0 rfl ?_
  refine r_iload_n dX12_passHours_22 1 rfl ?_
  obtain ⟨gY, hRY, hWY⟩ := hB3.now
  refine p_callV (As := [.int (iI z)]) (b := m) (rest := [.ref m]) (w := (some (.int (iI (codeC 6 (rCmd 6 S.2.2.1 z q)))))) (st' := [.int (iI (codeC 6 (rCmd 6 S.2.2.1 z q))), .ref m]) kv_X12_passHours_254 dX12_passHours_23 rfl rfl (Nat.le_of_ble_eq_true rfl) (Nat.le_of_ble_eq_true rfl) (x_rv hB3.1.1 hB3.1.2 rfl) rfl rfl (dn_X12_doHours hB3.1 hRY hWY hWB hcb hz hq hrg h0) rfl (fun h4 e4 => ?_)
  obtain ⟨r4, g4, hM4, hK4, hR4, hW4, F4⟩ := e4
  have hB4 := hB3.row hM4 hK4.1 hR4 hW4 F4
  have FM4 : FRp (fpM m a) h h4 := FM3.tr (fpm_r F4 hB3.2.1.1)
  refine p_callV (As := [.int (iI (codeC 6 (rCmd 6 S.2.2.1 z q)))]) (b := m) (rest := []) (w := (some (.int (iI 0)))) (st' := [.int (iI 0)]) kv_X12_passHours_236 dX12_passHours_26 rfl rfl (Nat.le_of_ble_eq_true rfl) (Nat.le_of_ble_eq_true rfl) (x_rv hB4.1.1 hB4.1.2 rfl) rfl rfl (b_X12_ends_n hB4 (codeC_nz h0 rCmd_lt).1 (codeC_nz h0 rCmd_lt).2) rfl (fun h5 e5 => ?_)
  obtain ⟨hZ5, G5⟩ := e5
  have FM5 : FRp (fpM m a) h h5 := FM4.tr (G5)
  refine r_ireturn rfl rfl dX12_passHours_29 ?_
  exact ⟨rfl, hZ5, FM5⟩
theorem b_X12_passHours_no {G : xG} {h : xH} {sa : Nat → Nat} {m : Nat} {a : MA} {S : XS} {c0 : Int} (hB0 : MB G h sa m a S c0) (hWX : WX S) (hcb : cnt isC S.2.2.1.2 ≤ 3) {z q : Int} (hz : in32 z) (hq : in32 q) (h0 : rCmd 6 S.2.2.1 z q ≠ 0) : CC G MX12_passHours [.ref m, .int (iI z)] h (fun o h' => o = .inl (some (.int (iI 0))) ∧ MB G h' sa m a S (cP 6 (rCmd 6 S.2.2.1 z q)) ∧ FRp (fpM m a) h h') := by
  have e0 : rCmd 6 S.2.2.1 z q = rHours S.2.2.1 z := rfl
  cases hir : inR z 1 24
  · have e : rHours S.2.2.1 z = 2 := by
      unfold rHours
      by_cases c : z < 1
      · rw [if_pos c]
      · rw [if_neg c, if_pos (by unfold inR at hir; simp at hir; omega)]
    rw [e0, e]
    exact b_X12_passHours_n1 hB0 hWX hcb hz hq hir
  · have hrg : 1 ≤ z ∧ z ≤ 24 := by simpa [inR] using hir
    have e : rHours S.2.2.1 z = 3 := by
      rw [e0] at h0
      revert h0
      unfold rHours
      rw [if_neg (by omega), if_neg (by omega)]
      split <;> simp
    have q9 := b_X12_passHours_n2 hB0 hWX hcb hz hq hir h0
    rw [e0, e]
    exact q9
set_option maxRecDepth 20000 in
set_option maxHeartbeats 1000000 in
theorem b_X12_addButter_n1t {G : xG} {h : xH} {sa : Nat → Nat} {m : Nat} {a : MA} {S : XS} {c0 : Int} (hB0 : MB G h sa m a S c0) (hWX : WX S) (hcb : cnt isC S.2.2.1.2 ≤ 3) {z q : Int} (hz : in32 z) (hq : in32 q) (hs : hasS S.2.2.1 z = false) (hir : inR q 1 400 = true) : CC G MX12_addButter [.ref m, .int (iI z), .int (iI q)] h (fun o h' => o = .inl (some (.int (iI 0))) ∧ MB G h' sa m a S 1 ∧ FRp (fpM m a) h h') := by
  obtain ⟨r, hth, hB⟩ := hB0
  have hWB := hWX.1
  obtain ⟨g, hR, hRW⟩ := hB.now
  have hn := hRW.1.2.1
  have hc := hRW.1.1.2.2.2.1
  show RR G MX12_addButter 0 [(0, .ref m), (1, .int (iI z)), (2, .int (iI q))] [] h (xm_R MX12_addButter).cells (xm_R MX12_addButter).slots (fun o h' => o = .inl (some (.int (iI 0))) ∧ MB G h' sa m a S 1 ∧ FRp (fpM m a) h h')
  refine r_aload_n dX12_addButter_0 0 rfl ?_
  refine r_aload_n dX12_addButter_1 0 rfl ?_
  refine r_iload_n dX12_addButter_2 1 rfl ?_
  refine p_callV (As := [.int (iI z)]) (b := m) (rest := [.ref m]) (w := (some (.int (iI (b2 false))))) (st' := [.int (iI (b2 false)), .ref m]) kv_X12_addButter_111 dX12_addButter_3 rfl rfl (Nat.le_of_ble_eq_true rfl) (Nat.le_of_ble_eq_true rfl) (x_rv hB.1.1 hB.1.2 rfl) rfl rfl (c_X12_isSheet_f hB.1 hR hn hc hz (hasS_f hs)) rfl (fun h1 e1 => ?_)
  rw [show h1 = h from e1]
  refine r_iload_n dX12_addButter_6 2 rfl ?_
  refine i_const (1) dX12_addButter_7 ?_
  refine i_sipush (400) (by decide) dX12_addButter_8 ?_
  refine p_callS (As := [.int (iI q), .int (iI 1), .int (iI 400)]) (rest := [.int (iI (b2 false)), .ref m]) (w := (some (.int (iI (b2 true))))) (st' := [.int (iI (b2 true)), .int (iI (b2 false)), .ref m]) kv_X12_addButter_107 dX12_addButter_11 rfl rfl (Nat.le_of_ble_eq_true rfl) (Nat.le_of_ble_eq_true rfl) rfl rfl (c_X12_inRange_b hq ⟨by decide, by decide⟩ ⟨by decide, by decide⟩ (b := true) hir) rfl (fun h2 e2 => ?_)
  rw [show h2 = h from e2]
  refine p_callV (As := [.int (iI (b2 false)), .int (iI (b2 true))]) (b := m) (rest := []) (w := (some (.int (iI 1)))) (st' := [.int (iI 1)]) kv_X12_addButter_155 dX12_addButter_14 rfl rfl (Nat.le_of_ble_eq_true rfl) (Nat.le_of_ble_eq_true rfl) (x_rv hB.1.1 hB.1.2 rfl) rfl rfl (c_X12_lacksBoth_ft hB.1) rfl (fun h3 e3 => ?_)
  obtain ⟨hM3, F3⟩ := e3
  have hB3 := hB.obj hM3 ⟨rfl, rfl, rfl, rfl, rfl, rfl, rfl, rfl⟩ F3
  have FM3 : FRp (fpM m a) h h3 := fpm_m (a := a) F3
  refine i_ifeq dX12_addButter_17 (tgt := 22) (by decide) ⟨by decide, by decide⟩ (fun c => absurd c (by decide)) (fun _ => ?_)
  refine i_const (0) dX12_addButter_20 ?_
  refine r_ireturn rfl rfl dX12_addButter_21 ?_
  exact ⟨rfl, MB.mk hB3 rfl, FM3⟩
set_option maxRecDepth 20000 in
set_option maxHeartbeats 1000000 in
theorem b_X12_addButter_n1f {G : xG} {h : xH} {sa : Nat → Nat} {m : Nat} {a : MA} {S : XS} {c0 : Int} (hB0 : MB G h sa m a S c0) (hWX : WX S) (hcb : cnt isC S.2.2.1.2 ≤ 3) {z q : Int} (hz : in32 z) (hq : in32 q) (hs : hasS S.2.2.1 z = false) (hir : inR q 1 400 = false) : CC G MX12_addButter [.ref m, .int (iI z), .int (iI q)] h (fun o h' => o = .inl (some (.int (iI 0))) ∧ MB G h' sa m a S 1 ∧ FRp (fpM m a) h h') := by
  obtain ⟨r, hth, hB⟩ := hB0
  have hWB := hWX.1
  obtain ⟨g, hR, hRW⟩ := hB.now
  have hn := hRW.1.2.1
  have hc := hRW.1.1.2.2.2.1
  show RR G MX12_addButter 0 [(0, .ref m), (1, .int (iI z)), (2, .int (iI q))] [] h (xm_R MX12_addButter).cells (xm_R MX12_addButter).slots (fun o h' => o = .inl (some (.int (iI 0))) ∧ MB G h' sa m a S 1 ∧ FRp (fpM m a) h h')
  refine r_aload_n dX12_addButter_0 0 rfl ?_
  refine r_aload_n dX12_addButter_1 0 rfl ?_
  refine r_iload_n dX12_addButter_2 1 rfl ?_
  refine p_callV (As := [.int (iI z)]) (b := m) (rest := [.ref m]) (w := (some (.int (iI (b2 false))))) (st' := [.int (iI (b2 false)), .ref m]) kv_X12_addButter_111 dX12_addButter_3 rfl rfl (Nat.le_of_ble_eq_true rfl) (Nat.le_of_ble_eq_true rfl) (x_rv hB.1.1 hB.1.2 rfl) rfl rfl (c_X12_isSheet_f hB.1 hR hn hc hz (hasS_f hs)) rfl (fun h1 e1 => ?_)
  rw [show h1 = h from e1]
  refine r_iload_n dX12_addButter_6 2 rfl ?_
  refine i_const (1) dX12_addButter_7 ?_
  refine i_sipush (400) (by decide) dX12_addButter_8 ?_
  refine p_callS (As := [.int (iI q), .int (iI 1), .int (iI 400)]) (rest := [.int (iI (b2 false)), .ref m]) (w := (some (.int (iI (b2 false))))) (st' := [.int (iI (b2 false)), .int (iI (b2 false)), .ref m]) kv_X12_addButter_107 dX12_addButter_11 rfl rfl (Nat.le_of_ble_eq_true rfl) (Nat.le_of_ble_eq_true rfl) rfl rfl (c_X12_inRange_b hq ⟨by decide, by decide⟩ ⟨by decide, by decide⟩ (b := false) hir) rfl (fun h2 e2 => ?_)
  rw [show h2 = h from e2]
  refine p_callV (As := [.int (iI (b2 false)), .int (iI (b2 false))]) (b := m) (rest := []) (w := (some (.int (iI 1)))) (st' := [.int (iI 1)]) kv_X12_addButter_155 dX12_addButter_14 rfl rfl (Nat.le_of_ble_eq_true rfl) (Nat.le_of_ble_eq_true rfl) (x_rv hB.1.1 hB.1.2 rfl) rfl rfl (c_X12_lacksBoth_ff hB.1) rfl (fun h3 e3 => ?_)
  obtain ⟨hM3, F3⟩ := e3
  have hB3 := hB.obj hM3 ⟨rfl, rfl, rfl, rfl, rfl, rfl, rfl, rfl⟩ F3
  have FM3 : FRp (fpM m a) h h3 := fpm_m (a := a) F3
  refine i_ifeq dX12_addButter_17 (tgt := 22) (by decide) ⟨by decide, by decide⟩ (fun c => absurd c (by decide)) (fun _ => ?_)
  refine i_const (0) dX12_addButter_20 ?_
  refine r_ireturn rfl rfl dX12_addButter_21 ?_
  exact ⟨rfl, MB.mk hB3 rfl, FM3⟩
set_option maxRecDepth 20000 in
set_option maxHeartbeats 1000000 in
theorem b_X12_addButter_n2 {G : xG} {h : xH} {sa : Nat → Nat} {m : Nat} {a : MA} {S : XS} {c0 : Int} (hB0 : MB G h sa m a S c0) (hWX : WX S) (hcb : cnt isC S.2.2.1.2 ≤ 3) {z q : Int} (hz : in32 z) (hq : in32 q) (hs : hasS S.2.2.1 z = true) (hir : inR q 1 400 = false) : CC G MX12_addButter [.ref m, .int (iI z), .int (iI q)] h (fun o h' => o = .inl (some (.int (iI 0))) ∧ MB G h' sa m a S 2 ∧ FRp (fpM m a) h h') := by
  obtain ⟨r, hth, hB⟩ := hB0
  have hWB := hWX.1
  obtain ⟨g, hR, hRW⟩ := hB.now
  have hn := hRW.1.2.1
  have hc := hRW.1.1.2.2.2.1
  obtain ⟨n1, n2⟩ := hasS_n hs
  have cIS := c_X12_isSheet_t hB.1 hR hn hc n1
  rw [n2] at cIS
  show RR G MX12_addButter 0 [(0, .ref m), (1, .int (iI z)), (2, .int (iI q))] [] h (xm_R MX12_addButter).cells (xm_R MX12_addButter).slots (fun o h' => o = .inl (some (.int (iI 0))) ∧ MB G h' sa m a S 2 ∧ FRp (fpM m a) h h')
  refine r_aload_n dX12_addButter_0 0 rfl ?_
  refine r_aload_n dX12_addButter_1 0 rfl ?_
  refine r_iload_n dX12_addButter_2 1 rfl ?_
  refine p_callV (As := [.int (iI z)]) (b := m) (rest := [.ref m]) (w := (some (.int (iI (b2 true))))) (st' := [.int (iI (b2 true)), .ref m]) kv_X12_addButter_111 dX12_addButter_3 rfl rfl (Nat.le_of_ble_eq_true rfl) (Nat.le_of_ble_eq_true rfl) (x_rv hB.1.1 hB.1.2 rfl) rfl rfl (cIS) rfl (fun h1 e1 => ?_)
  rw [show h1 = h from e1]
  refine r_iload_n dX12_addButter_6 2 rfl ?_
  refine i_const (1) dX12_addButter_7 ?_
  refine i_sipush (400) (by decide) dX12_addButter_8 ?_
  refine p_callS (As := [.int (iI q), .int (iI 1), .int (iI 400)]) (rest := [.int (iI (b2 true)), .ref m]) (w := (some (.int (iI (b2 false))))) (st' := [.int (iI (b2 false)), .int (iI (b2 true)), .ref m]) kv_X12_addButter_107 dX12_addButter_11 rfl rfl (Nat.le_of_ble_eq_true rfl) (Nat.le_of_ble_eq_true rfl) rfl rfl (c_X12_inRange_b hq ⟨by decide, by decide⟩ ⟨by decide, by decide⟩ (b := false) hir) rfl (fun h2 e2 => ?_)
  rw [show h2 = h from e2]
  refine p_callV (As := [.int (iI (b2 true)), .int (iI (b2 false))]) (b := m) (rest := []) (w := (some (.int (iI 1)))) (st' := [.int (iI 1)]) kv_X12_addButter_155 dX12_addButter_14 rfl rfl (Nat.le_of_ble_eq_true rfl) (Nat.le_of_ble_eq_true rfl) (x_rv hB.1.1 hB.1.2 rfl) rfl rfl (c_X12_lacksBoth_tf hB.1) rfl (fun h3 e3 => ?_)
  obtain ⟨hM3, F3⟩ := e3
  have hB3 := hB.obj hM3 ⟨rfl, rfl, rfl, rfl, rfl, rfl, rfl, rfl⟩ F3
  have FM3 : FRp (fpM m a) h h3 := fpm_m (a := a) F3
  refine i_ifeq dX12_addButter_17 (tgt := 22) (by decide) ⟨by decide, by decide⟩ (fun c => absurd c (by decide)) (fun _ => ?_)
  refine i_const (0) dX12_addButter_20 ?_
  refine r_ireturn rfl rfl dX12_addButter_21 ?_
  exact ⟨rfl, MB.mk hB3 rfl, FM3⟩
set_option maxRecDepth 20000 in
set_option maxHeartbeats 1000000 in
theorem b_X12_addButter_n3 {G : xG} {h : xH} {sa : Nat → Nat} {m : Nat} {a : MA} {S : XS} {c0 : Int} (hB0 : MB G h sa m a S c0) (hWX : WX S) (hcb : cnt isC S.2.2.1.2 ≤ 3) {z q : Int} (hz : in32 z) (hq : in32 q) (hs : hasS S.2.2.1 z = true) (hir : inR q 1 400 = true) (hbs : rButS (sAt S.2.2.1 z) q ≠ 0) : CC G MX12_addButter [.ref m, .int (iI z), .int (iI q)] h (fun o h' => o = .inl (some (.int (iI 0))) ∧ MB G h' sa m a S 3 ∧ FRp (fpM m a) h h') := by
  obtain ⟨r, hth, hB⟩ := hB0
  have hWB := hWX.1
  obtain ⟨g, hR, hRW⟩ := hB.now
  have hn := hRW.1.2.1
  have hc := hRW.1.1.2.2.2.1
  obtain ⟨n1, n2⟩ := hasS_n hs
  have cIS := c_X12_isSheet_t hB.1 hR hn hc n1
  rw [n2] at cIS
  have hrg : 1 ≤ q ∧ q ≤ 400 := by simpa [inR] using hir
  show RR G MX12_addButter 0 [(0, .ref m), (1, .int (iI z)), (2, .int (iI q))] [] h (xm_R MX12_addButter).cells (xm_R MX12_addButter).slots (fun o h' => o = .inl (some (.int (iI 0))) ∧ MB G h' sa m a S 3 ∧ FRp (fpM m a) h h')
  refine r_aload_n dX12_addButter_0 0 rfl ?_
  refine r_aload_n dX12_addButter_1 0 rfl ?_
  refine r_iload_n dX12_addButter_2 1 rfl ?_
  refine p_callV (As := [.int (iI z)]) (b := m) (rest := [.ref m]) (w := (some (.int (iI (b2 true))))) (st' := [.int (iI (b2 true)), .ref m]) kv_X12_addButter_111 dX12_addButter_3 rfl rfl (Nat.le_of_ble_eq_true rfl) (Nat.le_of_ble_eq_true rfl) (x_rv hB.1.1 hB.1.2 rfl) rfl rfl (cIS) rfl (fun h1 e1 => ?_)
  rw [show h1 = h from e1]
  refine r_iload_n dX12_addButter_6 2 rfl ?_
  refine i_const (1) dX12_addButter_7 ?_
  refine i_sipush (400) (by decide) dX12_addButter_8 ?_
  refine p_callS (As := [.int (iI q), .int (iI 1), .int (iI 400)]) (rest := [.int (iI (b2 true)), .ref m]) (w := (some (.int (iI (b2 true))))) (st' := [.int (iI (b2 true)), .int (iI (b2 true)), .ref m]) kv_X12_addButter_107 dX12_addButter_11 rfl rfl (Nat.le_of_ble_eq_true rfl) (Nat.le_of_ble_eq_true rfl) rfl rfl (c_X12_inRange_b hq ⟨by decide, by decide⟩ ⟨by decide, by decide⟩ (b := true) hir) rfl (fun h2 e2 => ?_)
  rw [show h2 = h from e2]
  refine p_callV (As := [.int (iI (b2 true)), .int (iI (b2 true))]) (b := m) (rest := []) (w := (some (.int (iI 0)))) (st' := [.int (iI 0)]) kv_X12_addButter_155 dX12_addButter_14 rfl rfl (Nat.le_of_ble_eq_true rfl) (Nat.le_of_ble_eq_true rfl) (x_rv hB.1.1 hB.1.2 rfl) rfl rfl (c_X12_lacksBoth_tt hB.1) rfl (fun h3 e3 => ?_)
  obtain ⟨hM3, F3⟩ := e3
  have hB3 := hB.obj hM3 ⟨rfl, rfl, rfl, rfl, rfl, rfl, rfl, rfl⟩ F3
  have FM3 : FRp (fpM m a) h h3 := fpm_m (a := a) F3
  refine i_ifeq dX12_addButter_17 (tgt := 22) (by decide) ⟨by decide, by decide⟩ (fun _ => ?_) (fun c => absurd c (by decide))
  refine r_aload_n dX12_addButter_22 0 rfl ?_
  refine p_callV (As := []) (b := m) (rest := []) (w := none) (st' := []) kv_X12_addButter_230 dX12_addButter_23 rfl rfl (Nat.le_of_ble_eq_true rfl) (Nat.le_of_ble_eq_true rfl) (x_rv hB3.1.1 hB3.1.2 rfl) rfl rfl (b_X12_keep hB3) rfl (fun h4 e4 => ?_)
  obtain ⟨hB4, G4⟩ := e4
  have FM4 : FRp (fpM m a) h h4 := FM3.tr (G4)
  refine r_aload_n dX12_addButter_26 0 rfl ?_
  refine r_aload_n dX12_addButter_27 0 rfl ?_
  refine r_iload_n dX12_addButter_28 1 rfl ?_
  refine r_iload_n dX12_addButter_29 2 rfl ?_
  obtain ⟨gY, hRY, hWY⟩ := hB4.now
  have cB := c_X12_doButter_n hB4.1 hRY hWY hWB n1 (T := q) hrg hbs
  rw [n2] at cB
  refine p_callV (As := [.int (iI z), .int (iI q)]) (b := m) (rest := [.ref m]) (w := (some (.int (iI 3)))) (st' := [.int (iI 3), .ref m]) kv_X12_addButter_263 dX12_addButter_30 rfl rfl (Nat.le_of_ble_eq_true rfl) (Nat.le_of_ble_eq_true rfl) (x_rv hB4.1.1 hB4.1.2 rfl) rfl rfl (cB) rfl (fun h5 e5 => ?_)
  rw [show h5 = h4 from e5]
  refine p_callV (As := [.int (iI 3)]) (b := m) (rest := []) (w := (some (.int (iI 0)))) (st' := [.int (iI 0)]) kv_X12_addButter_236 dX12_addButter_33 rfl rfl (Nat.le_of_ble_eq_true rfl) (Nat.le_of_ble_eq_true rfl) (x_rv hB4.1.1 hB4.1.2 rfl) rfl rfl (b_X12_ends_n hB4 (by decide) ⟨by decide, by decide⟩) rfl (fun h6 e6 => ?_)
  obtain ⟨hZ6, G6⟩ := e6
  have FM6 : FRp (fpM m a) h h6 := FM4.tr (G6)
  refine r_ireturn rfl rfl dX12_addButter_36 ?_
  exact ⟨rfl, hZ6, FM6⟩
set_option maxRecDepth 20000 in
set_option maxHeartbeats 1000000 in
theorem b_X12_addButter_k {G : xG} {h : xH} {sa : Nat → Nat} {m : Nat} {a : MA} {S : XS} {c0 : Int} (hB0 : MB G h sa m a S c0) (hWX : WX S) (hcb : cnt isC S.2.2.1.2 ≤ 3) {z q : Int} (hz : in32 z) (hq : in32 q) (hs : hasS S.2.2.1 z = true) (hir : inR q 1 400 = true) (hbs : rButS (sAt S.2.2.1 z) q = 0) : CC G MX12_addButter [.ref m, .int (iI z), .int (iI q)] h (fun o h' => o = .inl (some (.int (iI ((butS (S.2.2.1.2.getD z.toNat dS) q).1.length : Int)))) ∧ MB G h' sa m a (S.1, S.2.1, aBut S.2.2.1 z.toNat q, S.2.2.2.1, remH S.2.2.2.2.1 S.2.2.1, S.2.2.2.2.2) 0 ∧ FRp (fpM m a) h h') := by
  obtain ⟨r, hth, hB⟩ := hB0
  have hWB := hWX.1
  obtain ⟨g, hR, hRW⟩ := hB.now
  have hn := hRW.1.2.1
  have hc := hRW.1.1.2.2.2.1
  obtain ⟨n1, n2⟩ := hasS_n hs
  have cIS := c_X12_isSheet_t hB.1 hR hn hc n1
  rw [n2] at cIS
  have hrg : 1 ≤ q ∧ q ≤ 400 := by simpa [inR] using hir
  show RR G MX12_addButter 0 [(0, .ref m), (1, .int (iI z)), (2, .int (iI q))] [] h (xm_R MX12_addButter).cells (xm_R MX12_addButter).slots (fun o h' => o = .inl (some (.int (iI ((butS (S.2.2.1.2.getD z.toNat dS) q).1.length : Int)))) ∧ MB G h' sa m a (S.1, S.2.1, aBut S.2.2.1 z.toNat q, S.2.2.2.1, remH S.2.2.2.2.1 S.2.2.1, S.2.2.2.2.2) 0 ∧ FRp (fpM m a) h h')
  refine r_aload_n dX12_addButter_0 0 rfl ?_
  refine r_aload_n dX12_addButter_1 0 rfl ?_
  refine r_iload_n dX12_addButter_2 1 rfl ?_
  refine p_callV (As := [.int (iI z)]) (b := m) (rest := [.ref m]) (w := (some (.int (iI (b2 true))))) (st' := [.int (iI (b2 true)), .ref m]) kv_X12_addButter_111 dX12_addButter_3 rfl rfl (Nat.le_of_ble_eq_true rfl) (Nat.le_of_ble_eq_true rfl) (x_rv hB.1.1 hB.1.2 rfl) rfl rfl (cIS) rfl (fun h1 e1 => ?_)
  rw [show h1 = h from e1]
  refine r_iload_n dX12_addButter_6 2 rfl ?_
  refine i_const (1) dX12_addButter_7 ?_
  refine i_sipush (400) (by decide) dX12_addButter_8 ?_
  refine p_callS (As := [.int (iI q), .int (iI 1), .int (iI 400)]) (rest := [.int (iI (b2 true)), .ref m]) (w := (some (.int (iI (b2 true))))) (st' := [.int (iI (b2 true)), .int (iI (b2 true)), .ref m]) kv_X12_addButter_107 dX12_addButter_11 rfl rfl (Nat.le_of_ble_eq_true rfl) (Nat.le_of_ble_eq_true rfl) rfl rfl (c_X12_inRange_b hq ⟨by decide, by decide⟩ ⟨by decide, by decide⟩ (b := true) hir) rfl (fun h2 e2 => ?_)
  rw [show h2 = h from e2]
  refine p_callV (As := [.int (iI (b2 true)), .int (iI (b2 true))]) (b := m) (rest := []) (w := (some (.int (iI 0)))) (st' := [.int (iI 0)]) kv_X12_addButter_155 dX12_addButter_14 rfl rfl (Nat.le_of_ble_eq_true rfl) (Nat.le_of_ble_eq_true rfl) (x_rv hB.1.1 hB.1.2 rfl) rfl rfl (c_X12_lacksBoth_tt hB.1) rfl (fun h3 e3 => ?_)
  obtain ⟨hM3, F3⟩ := e3
  have hB3 := hB.obj hM3 ⟨rfl, rfl, rfl, rfl, rfl, rfl, rfl, rfl⟩ F3
  have FM3 : FRp (fpM m a) h h3 := fpm_m (a := a) F3
  refine i_ifeq dX12_addButter_17 (tgt := 22) (by decide) ⟨by decide, by decide⟩ (fun _ => ?_) (fun c => absurd c (by decide))
  refine r_aload_n dX12_addButter_22 0 rfl ?_
  refine p_callV (As := []) (b := m) (rest := []) (w := none) (st' := []) kv_X12_addButter_230 dX12_addButter_23 rfl rfl (Nat.le_of_ble_eq_true rfl) (Nat.le_of_ble_eq_true rfl) (x_rv hB3.1.1 hB3.1.2 rfl) rfl rfl (b_X12_keep hB3) rfl (fun h4 e4 => ?_)
  obtain ⟨hB4, G4⟩ := e4
  have FM4 : FRp (fpM m a) h h4 := FM3.tr (G4)
  refine r_aload_n dX12_addButter_26 0 rfl ?_
  refine r_aload_n dX12_addButter_27 0 rfl ?_
  refine r_iload_n dX12_addButter_28 1 rfl ?_
  refine r_iload_n dX12_addButter_29 2 rfl ?_
  obtain ⟨gY, hRY, hWY⟩ := hB4.now
  have cB := c_X12_doButter_ok hB4.1 hRY hWY hWB n1 (T := q) hrg hbs
  rw [n2] at cB
  refine p_callV (As := [.int (iI z), .int (iI q)]) (b := m) (rest := [.ref m]) (w := (some (.int (iI 0)))) (st' := [.int (iI 0), .ref m]) kv_X12_addButter_263 dX12_addButter_30 rfl rfl (Nat.le_of_ble_eq_true rfl) (Nat.le_of_ble_eq_true rfl) (x_rv hB4.1.1 hB4.1.2 rfl) rfl rfl (cB) rfl (fun h5 e5 => ?_)
  obtain ⟨r5, g5, hM5, hK5, hV5, hR5, hW5, F5⟩ := e5
  have hB5 := hB4.row hM5 hK5.1 hR5 hW5 F5
  have FM5 : FRp (fpM m a) h h5 := FM4.tr (fpm_r F5 hB4.2.1.1)
  refine p_callV (As := [.int (iI 0)]) (b := m) (rest := []) (w := (some (.int (iI r5.2.2.2.2.1)))) (st' := [.int (iI r5.2.2.2.2.1)]) kv_X12_addButter_236 dX12_addButter_33 rfl rfl (Nat.le_of_ble_eq_true rfl) (Nat.le_of_ble_eq_true rfl) (x_rv hB5.1.1 hB5.1.2 rfl) rfl rfl (b_X12_ends_0 hB5) rfl (fun h6 e6 => ?_)
  obtain ⟨hZ6, G6⟩ := e6
  have FM6 : FRp (fpM m a) h h6 := FM5.tr (G6)
  refine r_ireturn rfl rfl dX12_addButter_36 ?_
  rw [hV5]
  exact ⟨rfl, hZ6, FM6⟩
theorem b_X12_addButter_ok {G : xG} {h : xH} {sa : Nat → Nat} {m : Nat} {a : MA} {S : XS} {c0 : Int} (hB0 : MB G h sa m a S c0) (hWX : WX S) (hcb : cnt isC S.2.2.1.2 ≤ 3) {z q : Int} (hz : in32 z) (hq : in32 q) (h0 : rBut S.2.2.1 z q = 0) : CC G MX12_addButter [.ref m, .int (iI z), .int (iI q)] h (fun o h' => o = .inl (some (.int (iI ((butS (S.2.2.1.2.getD z.toNat dS) q).1.length : Int)))) ∧ MB G h' sa m a (S.1, S.2.1, aBut S.2.2.1 z.toNat q, S.2.2.2.1, remH S.2.2.2.2.1 S.2.2.1, S.2.2.2.2.2) 0 ∧ FRp (fpM m a) h h') := by
  obtain ⟨z1, z2, z3, z4⟩ := rBu0 h0
  exact b_X12_addButter_k hB0 hWX hcb hz hq z1 (by unfold inR; rw [decide_eq_true z2, decide_eq_true z3]; rfl) z4
theorem b_X12_addButter_no {G : xG} {h : xH} {sa : Nat → Nat} {m : Nat} {a : MA} {S : XS} {c0 : Int} (hB0 : MB G h sa m a S c0) (hWX : WX S) (hcb : cnt isC S.2.2.1.2 ≤ 3) {z q : Int} (hz : in32 z) (hq : in32 q) (h0 : rBut S.2.2.1 z q ≠ 0) : CC G MX12_addButter [.ref m, .int (iI z), .int (iI q)] h (fun o h' => o = .inl (some (.int (iI 0))) ∧ MB G h' sa m a S (cP 9 (rBut S.2.2.1 z q)) ∧ FRp (fpM m a) h h') := by
  cases hs : hasS S.2.2.1 z
  · have e : rBut S.2.2.1 z q = 1 := by unfold rBut; rw [hs]; rfl
    rw [e]
    cases hir : inR q 1 400
    · exact b_X12_addButter_n1f hB0 hWX hcb hz hq hs hir
    · exact b_X12_addButter_n1t hB0 hWX hcb hz hq hs hir
  · cases hir : inR q 1 400
    · have e : rBut S.2.2.1 z q = 2 := by
        unfold rBut
        rw [if_pos hs]
        by_cases c : q < 1
        · rw [if_pos c]
        · rw [if_neg c, if_pos (by unfold inR at hir; simp at hir; omega)]
      rw [e]
      exact b_X12_addButter_n2 hB0 hWX hcb hz hq hs hir
    · have hrg : 1 ≤ q ∧ q ≤ 400 := by simpa [inR] using hir
      have e : rBut S.2.2.1 z q = rButS (sAt S.2.2.1 z) q := by unfold rBut; rw [if_pos hs, if_neg (by omega), if_neg (by omega)]
      rw [e] at h0 ⊢
      rw [r03_but h0]
      exact b_X12_addButter_n3 hB0 hWX hcb hz hq hs hir h0
