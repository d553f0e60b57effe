/-! ===== the reference: what is expected ===== -/
theorem sNum_inv {T : List Int} {p : Nat} {lo hi : Int} : (∃ v q, sNum T p lo hi = .inr (v, q) ∧ (tokAt T p).1 = 1 ∧ lo ≤ v ∧ v ≤ hi ∧ v = nVal T p ∧ q = (tokAt T p).2.2) ∨ (sNum T p lo hi = .inl (2, ((tokAt T p).2.1 : Int)) ∧ (tokAt T p).1 = 1 ∧ ¬ (lo ≤ nVal T p ∧ nVal T p ≤ hi)) ∨ (sNum T p lo hi = .inl (1, ((tokAt T p).2.1 : Int)) ∧ (tokAt T p).1 ≠ 1) := by
  unfold sNum sErr
  by_cases c : (tokAt T p).1 = 1
  · rw [if_pos c]
    by_cases d : nVal T p < lo
    · rw [if_pos d]; exact Or.inr (Or.inl ⟨rfl, c, by omega⟩)
    · rw [if_neg d]
      by_cases f : hi < nVal T p
      · rw [if_pos f]; exact Or.inr (Or.inl ⟨rfl, c, by omega⟩)
      · rw [if_neg f]; exact Or.inl ⟨_, _, rfl, c, by omega, by omega, rfl, rfl⟩
  · rw [if_neg c]; exact Or.inr (Or.inr ⟨rfl, c⟩)
theorem sSemi_inv {T : List Int} {p : Nat} : (sSemi T p = .inr ((), (tokAt T p).2.2) ∧ (tokAt T p).1 = 2) ∨ (sSemi T p = .inl (1, ((tokAt T p).2.1 : Int)) ∧ (tokAt T p).1 ≠ 2) := by
  unfold sSemi sErr
  by_cases c : (tokAt T p).1 = 2
  · rw [if_pos c]; exact Or.inl ⟨rfl, c⟩
  · rw [if_neg c]; exact Or.inr ⟨rfl, c⟩
theorem e13 {e : Int} (h : 1 ≤ e ∧ e ≤ 3) : e ≠ 0 := by omega
theorem i13 {e : Int} (h : 1 ≤ e ∧ e ≤ 3) : in32 e := by unfold in32; omega
theorem c_X12_isSymbol_b {G : xG} {h : xH} {m : Nat} {a : MA} {r : MR} (hM : MO G h m a r) {T : List Int} {p : Nat} {o : Int} (hT : TS r T p 0 o) {gi : Nat → Int32} (hA : AR G h a.2.2.2.2.2.2.1 500 gi) (hl5 : T.length ≤ 500) (hg : ∀ k, k < T.length → gi k = iI (T.getD k 0)) (hb : BYT T) {v : Bool} (hk2 : decide ((tokAt T p).1 = 2) = v) : CC G MX12_isSymbol [.ref m, .int (iI 59)] h (qI (b2 v) h) := by
  subst hk2; exact c_X12_isSymbol_k hM hT hA hl5 hg hb
set_option maxRecDepth 20000 in
set_option maxHeartbeats 1000000 in
theorem c_X12_expect_k {G : xG} {h : xH} {m : Nat} {a : MA} {r : MR} (hM : MO G h m a r) {T : List Int} {p : Nat} {o : Int} (hT : TS r T p 0 o) {gi : Nat → Int32} (hA : AR G h a.2.2.2.2.2.2.1 500 gi) (hl5 : T.length ≤ 500) (hg : ∀ k, k < T.length → gi k = iI (T.getD k 0)) (hb : BYT T) (hk2 : decide ((tokAt T p).1 = 2) = true) : CC G MX12_expect [.ref m, .int (iI 59)] h (fun o9 h' => o9 = .inl none ∧ TP G h h' m a r T (tokAt T p).2.2 0 o) := by
  show RR G MX12_expect 0 [(0, .ref m), (1, .int (iI 59))] [] h (xm_R MX12_expect).cells (xm_R MX12_expect).slots (fun o9 h' => o9 = .inl none ∧ TP G h h' m a r T (tokAt T p).2.2 0 o)
  refine r_aload_n dX12_expect_0 0 rfl ?_
  refine r_aload_n dX12_expect_1 0 rfl ?_
  refine r_iload_n dX12_expect_2 1 rfl ?_
  refine p_callV (As := [.int (iI 59)]) (b := m) (rest := [.ref m]) (w := (some (.int (iI (b2 true))))) (st' := [.int (iI (b2 true)), .ref m]) kv_X12_expect_326 dX12_expect_3 rfl rfl (Nat.le_of_ble_eq_true rfl) (Nat.le_of_ble_eq_true rfl) (x_rv hM.1 hM.2 rfl) rfl rfl (c_X12_isSymbol_b hM hT hA hl5 hg hb hk2) rfl (fun h1 e1 => ?_)
  rw [show h1 = h from e1]
  refine i_const (1) dX12_expect_6 ?_
  refine p_callV (As := [.int (iI (b2 true)), .int (iI 1)]) (b := m) (rest := []) (w := none) (st' := []) kv_X12_expect_329 dX12_expect_7 rfl rfl (Nat.le_of_ble_eq_true rfl) (Nat.le_of_ble_eq_true rfl) (x_rv hM.1 hM.2 rfl) rfl rfl (c_X12_check_t hM hT) rfl (fun h2 e2 => ?_)
  obtain ⟨r2, hM2, hK2, hT2, F2⟩ := e2
  have hA2 := hA.obj hM F2
  have hQ2 := hK2
  have hZ2 := F2
  refine r_aload_n dX12_expect_10 0 rfl ?_
  refine p_callV (As := []) (b := m) (rest := []) (w := none) (st' := []) kv_X12_expect_333 dX12_expect_11 rfl rfl (Nat.le_of_ble_eq_true rfl) (Nat.le_of_ble_eq_true rfl) (x_rv hM2.1 hM2.2 rfl) rfl rfl (c_X12_advance_k hM2 hT2 hA2 hl5 hg hb) rfl (fun h3 e3 => ?_)
  obtain ⟨r3, hM3, hK3, hT3, F3⟩ := e3
  have hA3 := hA2.obj hM2 F3
  have hQ3 := hQ2.tr hK3
  have hZ3 := hZ2.tr F3
  refine r_return rfl dX12_expect_14 ?_
  exact ⟨rfl, r3, hM3, hQ3, hT3, hZ3⟩
set_option maxRecDepth 20000 in
set_option maxHeartbeats 1000000 in
theorem c_X12_expect_b {G : xG} {h : xH} {m : Nat} {a : MA} {r : MR} (hM : MO G h m a r) {T : List Int} {p : Nat} {o : Int} (hT : TS r T p 0 o) {gi : Nat → Int32} (hA : AR G h a.2.2.2.2.2.2.1 500 gi) (hl5 : T.length ≤ 500) (hg : ∀ k, k < T.length → gi k = iI (T.getD k 0)) (hb : BYT T) (hk2 : decide ((tokAt T p).1 = 2) = false) : CC G MX12_expect [.ref m, .int (iI 59)] h (fun o9 h' => o9 = .inl none ∧ TP G h h' m a r T p 1 ((tokAt T p).2.1 : Int)) := by
  show RR G MX12_expect 0 [(0, .ref m), (1, .int (iI 59))] [] h (xm_R MX12_expect).cells (xm_R MX12_expect).slots (fun o9 h' => o9 = .inl none ∧ TP G h h' m a r T p 1 ((tokAt T p).2.1 : Int))
  refine r_aload_n dX12_expect_0 0 rfl ?_
  refine r_aload_n dX12_expect_1 0 rfl ?_
  refine r_iload_n dX12_expect_2 1 rfl ?_
  refine p_callV (As := [.int (iI 59)]) (b := m) (rest := [.ref m]) (w := (some (.int (iI (b2 false))))) (st' := [.int (iI (b2 false)), .ref m]) kv_X12_expect_326 dX12_expect_3 rfl rfl (Nat.le_of_ble_eq_true rfl) (Nat.le_of_ble_eq_true rfl) (x_rv hM.1 hM.2 rfl) rfl rfl (c_X12_isSymbol_b hM hT hA hl5 hg hb hk2) rfl (fun h1 e1 => ?_)
  rw [show h1 = h from e1]
  refine i_const (1) dX12_expect_6 ?_
  refine p_callV (As := [.int (iI (b2 false)), .int (iI 1)]) (b := m) (rest := []) (w := none) (st' := []) kv_X12_expect_329 dX12_expect_7 rfl rfl (Nat.le_of_ble_eq_true rfl) (Nat.le_of_ble_eq_true rfl) (x_rv hM.1 hM.2 rfl) rfl rfl (c_X12_check_f hM hT (c := 1) (by decide)) rfl (fun h2 e2 => ?_)
  obtain ⟨r2, hM2, hK2, hT2, F2⟩ := e2
  have hA2 := hA.obj hM F2
  have hQ2 := hK2
  have hZ2 := F2
  refine r_aload_n dX12_expect_10 0 rfl ?_
  refine p_callV (As := []) (b := m) (rest := []) (w := none) (st' := []) kv_X12_expect_333 dX12_expect_11 rfl rfl (Nat.le_of_ble_eq_true rfl) (Nat.le_of_ble_eq_true rfl) (x_rv hM2.1 hM2.2 rfl) rfl rfl (c_X12_advance_e hM2 hT2 hA2 hl5 hg hb (e13 ⟨by decide, by decide⟩) (i13 ⟨by decide, by decide⟩)) rfl (fun h3 e3 => ?_)
  obtain ⟨r3, hM3, hK3, hT3, F3⟩ := e3
  have hA3 := hA2.obj hM2 F3
  have hQ3 := hQ2.tr hK3
  have hZ3 := hZ2.tr F3
  refine r_return rfl dX12_expect_14 ?_
  exact ⟨rfl, r3, hM3, hQ3, hT3, hZ3⟩
set_option maxRecDepth 20000 in
set_option maxHeartbeats 1000000 in
theorem c_X12_expect_e {G : xG} {h : xH} {m : Nat} {a : MA} {r : MR} (hM : MO G h m a r) {T : List Int} {p : Nat} {e o : Int} (hT : TS r T p e o) {gi : Nat → Int32} (hA : AR G h a.2.2.2.2.2.2.1 500 gi) (hl5 : T.length ≤ 500) (hg : ∀ k, k < T.length → gi k = iI (T.getD k 0)) (hb : BYT T) (he : 1 ≤ e ∧ e ≤ 3) {c : Int} : CC G MX12_expect [.ref m, .int (iI c)] h (fun o9 h' => o9 = .inl none ∧ TP G h h' m a r T p e o) := by
  show RR G MX12_expect 0 [(0, .ref m), (1, .int (iI c))] [] h (xm_R MX12_expect).cells (xm_R MX12_expect).slots (fun o9 h' => o9 = .inl none ∧ TP G h h' m a r T p e o)
  refine r_aload_n dX12_expect_0 0 rfl ?_
  refine r_aload_n dX12_expect_1 0 rfl ?_
  refine r_iload_n dX12_expect_2 1 rfl ?_
  refine p_callV (As := [.int (iI c)]) (b := m) (rest := [.ref m]) (w := (some (.int (iI (b2 false))))) (st' := [.int (iI (b2 false)), .ref m]) kv_X12_expect_326 dX12_expect_3 rfl rfl (Nat.le_of_ble_eq_true rfl) (Nat.le_of_ble_eq_true rfl) (x_rv hM.1 hM.2 rfl) rfl rfl (c_X12_isSymbol_e hM hT (e13 he) (i13 he)) rfl (fun h1 e1 => ?_)
  rw [show h1 = h from e1]
  refine i_const (1) dX12_expect_6 ?_
  refine p_callV (As := [.int (iI (b2 false)), .int (iI 1)]) (b := m) (rest := []) (w := none) (st' := []) kv_X12_expect_329 dX12_expect_7 rfl rfl (Nat.le_of_ble_eq_true rfl) (Nat.le_of_ble_eq_true rfl) (x_rv hM.1 hM.2 rfl) rfl rfl (c_X12_check_e hM hT (b := false) (e13 he) (i13 he)) rfl (fun h2 e2 => ?_)
  obtain ⟨r2, hM2, hK2, hT2, F2⟩ := e2
  have hA2 := hA.obj hM F2
  have hQ2 := hK2
  have hZ2 := F2
  refine r_aload_n dX12_expect_10 0 rfl ?_
  refine p_callV (As := []) (b := m) (rest := []) (w := none) (st' := []) kv_X12_expect_333 dX12_expect_11 rfl rfl (Nat.le_of_ble_eq_true rfl) (Nat.le_of_ble_eq_true rfl) (x_rv hM2.1 hM2.2 rfl) rfl rfl (c_X12_advance_e hM2 hT2 hA2 hl5 hg hb (e13 he) (i13 he)) rfl (fun h3 e3 => ?_)
  obtain ⟨r3, hM3, hK3, hT3, F3⟩ := e3
  have hA3 := hA2.obj hM2 F3
  have hQ3 := hQ2.tr hK3
  have hZ3 := hZ2.tr F3
  refine r_return rfl dX12_expect_14 ?_
  exact ⟨rfl, r3, hM3, hQ3, hT3, hZ3⟩
set_option maxRecDepth 20000 in
set_option maxHeartbeats 1000000 in
theorem c_X12_look_k {G : xG} {h : xH} {m : Nat} {a : MA} {r : MR} (hM : MO G h m a r) {T : List Int} {p : Nat} {o : Int} (hT : TS r T p 0 o) {gi : Nat → Int32} (hA : AR G h a.2.2.2.2.2.2.1 500 gi) (hl5 : T.length ≤ 500) (hg : ∀ k, k < T.length → gi k = iI (T.getD k 0)) (hb : BYT T) {lo hi : Int} (hlo : 0 ≤ lo ∧ lo ≤ 1000) (hhi : 0 ≤ hi ∧ hi ≤ 1000) (hk1 : (tokAt T p).1 = 1) (hir : inR (numV T p) lo hi = true) : CC G MX12_look [.ref m, .int (iI lo), .int (iI hi)] h (fun o9 h' => o9 = .inl (some (.int (iI (numV T p)))) ∧ TP G h h' m a r T p 0 o) := by
  have hnv := numV_b T p
  have htk := tkM_b T hT.2.1
  have hbb := hT.b
  show RR G MX12_look 0 [(0, .ref m), (1, .int (iI lo)), (2, .int (iI hi))] [] h (xm_R MX12_look).cells (xm_R MX12_look).slots (fun o9 h' => o9 = .inl (some (.int (iI (numV T p)))) ∧ TP G h h' m a r T p 0 o)
  refine r_aload_n dX12_look_0 0 rfl ?_
  refine r_aload_n dX12_look_1 0 rfl ?_
  refine m_g_tk (v := tkM (tokAt T p).1) hM hT.2.2.2.2.1 kf_X12_294 dX12_look_2 ?_
  refine i_const (2) dX12_look_5 ?_
  refine i_icmpne dX12_look_6 (tgt := 13) (by decide) (by unfold in32; omega) ⟨by decide, by decide⟩ (fun c => absurd (show tkM (tokAt T p).1 = 2 by rw [hk1]; rfl) c) (fun _ => ?_)
  refine i_const (1) dX12_look_9 ?_
  refine r_goto dX12_look_10 (tgt := 14) (by decide) ?_
  refine i_const (1) dX12_look_14 ?_
  refine p_callV (As := [.int (iI 1), .int (iI 1)]) (b := m) (rest := []) (w := none) (st' := []) kv_X12_look_329 dX12_look_15 rfl rfl (Nat.le_of_ble_eq_true rfl) (Nat.le_of_ble_eq_true rfl) (x_rv hM.1 hM.2 rfl) rfl rfl (c_X12_check_t hM hT) rfl (fun h1 e1 => ?_)
  obtain ⟨r1, hM1, hK1, hT1, F1⟩ := e1
  have hA1 := hA.obj hM F1
  have hQ1 := hK1
  have hZ1 := F1
  refine r_aload_n dX12_look_18 0 rfl ?_
  refine p_callV (As := []) (b := m) (rest := []) (w := (some (.int (iI (numV T p))))) (st' := [.int (iI (numV T p))]) kv_X12_look_337 dX12_look_19 rfl rfl (Nat.le_of_ble_eq_true rfl) (Nat.le_of_ble_eq_true rfl) (x_rv hM1.1 hM1.2 rfl) rfl rfl (c_X12_value hM1 hT1 hA1 hl5 hg hb) rfl (fun h2 e2 => ?_)
  rw [show h2 = h1 from e2]
  refine r_istore_n (ls' := [(0, .ref m), (1, .int (iI lo)), (2, .int (iI hi)), (3, .int (iI (numV T p)))]) dX12_look_22 (by decide) rfl ?_
  refine r_aload_n dX12_look_23 0 rfl ?_
  refine r_iload_n dX12_look_24 3 rfl ?_
  refine r_iload_n dX12_look_25 1 rfl ?_
  refine r_iload_n dX12_look_26 2 rfl ?_
  refine p_callS (As := [.int (iI (numV T p)), .int (iI lo), .int (iI hi)]) (rest := [.ref m]) (w := (some (.int (iI (b2 true))))) (st' := [.int (iI (b2 true)), .ref m]) kv_X12_look_107 dX12_look_27 rfl rfl (Nat.le_of_ble_eq_true rfl) (Nat.le_of_ble_eq_true rfl) rfl rfl (c_X12_inRange_b (by unfold in32; omega) (by unfold in32; omega) (by unfold in32; omega) (b := true) hir) rfl (fun h3 e3 => ?_)
  rw [show h3 = h1 from e3]
  refine i_const (2) dX12_look_30 ?_
  refine p_callV (As := [.int (iI (b2 true)), .int (iI 2)]) (b := m) (rest := []) (w := none) (st' := []) kv_X12_look_329 dX12_look_31 rfl rfl (Nat.le_of_ble_eq_true rfl) (Nat.le_of_ble_eq_true rfl) (x_rv hM1.1 hM1.2 rfl) rfl rfl (c_X12_check_t hM1 hT1) rfl (fun h4 e4 => ?_)
  obtain ⟨r4, hM4, hK4, hT4, F4⟩ := e4
  have hA4 := hA1.obj hM1 F4
  have hQ4 := hQ1.tr hK4
  have hZ4 := hZ1.tr F4
  refine r_aload_n dX12_look_34 0 rfl ?_
  refine m_g_er (v := 0) hM4 hT4.2.2.2.2.2.1 kf_X12_303 dX12_look_35 ?_
  refine i_ifne dX12_look_38 (tgt := 45) (by decide) ⟨by decide, by decide⟩ (fun c => absurd c (by decide)) (fun _ => ?_)
  refine r_iload_n dX12_look_41 3 rfl ?_
  refine r_goto dX12_look_42 (tgt := 46) (by decide) ?_
  refine r_ireturn rfl rfl dX12_look_46 ?_
  exact ⟨rfl, r4, hM4, hQ4, hT4, hZ4⟩
set_option maxRecDepth 20000 in
set_option maxHeartbeats 1000000 in
theorem c_X12_look_b2 {G : xG} {h : xH} {m : Nat} {a : MA} {r : MR} (hM : MO G h m a r) {T : List Int} {p : Nat} {o : Int} (hT : TS r T p 0 o) {gi : Nat → Int32} (hA : AR G h a.2.2.2.2.2.2.1 500 gi) (hl5 : T.length ≤ 500) (hg : ∀ k, k < T.length → gi k = iI (T.getD k 0)) (hb : BYT T) {lo hi : Int} (hlo : 0 ≤ lo ∧ lo ≤ 1000) (hhi : 0 ≤ hi ∧ hi ≤ 1000) (hk1 : (tokAt T p).1 = 1) (hir : inR (numV T p) lo hi = false) : CC G MX12_look [.ref m, .int (iI lo), .int (iI hi)] h (fun o9 h' => o9 = .inl (some (.int (iI lo))) ∧ TP G h h' m a r T p 2 ((tokAt T p).2.1 : Int)) := by
  have hnv := numV_b T p
  have htk := tkM_b T hT.2.1
  have hbb := hT.b
  show RR G MX12_look 0 [(0, .ref m), (1, .int (iI lo)), (2, .int (iI hi))] [] h (xm_R MX12_look).cells (xm_R MX12_look).slots (fun o9 h' => o9 = .inl (some (.int (iI lo))) ∧ TP G h h' m a r T p 2 ((tokAt T p).2.1 : Int))
  refine r_aload_n dX12_look_0 0 rfl ?_
  refine r_aload_n dX12_look_1 0 rfl ?_
  refine m_g_tk (v := tkM (tokAt T p).1) hM hT.2.2.2.2.1 kf_X12_294 dX12_look_2 ?_
  refine i_const (2) dX12_look_5 ?_
  refine i_icmpne dX12_look_6 (tgt := 13) (by decide) (by unfold in32; omega) ⟨by decide, by decide⟩ (fun c => absurd (show tkM (tokAt T p).1 = 2 by rw [hk1]; rfl) c) (fun _ => ?_)
  refine i_const (1) dX12_look_9 ?_
  refine r_goto dX12_look_10 (tgt := 14) (by decide) ?_
  refine i_const (1) dX12_look_14 ?_
  refine p_callV (As := [.int (iI 1), .int (iI 1)]) (b := m) (rest := []) (w := none) (st' := []) kv_X12_look_329 dX12_look_15 rfl rfl (Nat.le_of_ble_eq_true rfl) (Nat.le_of_ble_eq_true rfl) (x_rv hM.1 hM.2 rfl) rfl rfl (c_X12_check_t hM hT) rfl (fun h1 e1 => ?_)
  obtain ⟨r1, hM1, hK1, hT1, F1⟩ := e1
  have hA1 := hA.obj hM F1
  have hQ1 := hK1
  have hZ1 := F1
  refine r_aload_n dX12_look_18 0 rfl ?_
  refine p_callV (As := []) (b := m) (rest := []) (w := (some (.int (iI (numV T p))))) (st' := [.int (iI (numV T p))]) kv_X12_look_337 dX12_look_19 rfl rfl (Nat.le_of_ble_eq_true rfl) (Nat.le_of_ble_eq_true rfl) (x_rv hM1.1 hM1.2 rfl) rfl rfl (c_X12_value hM1 hT1 hA1 hl5 hg hb) rfl (fun h2 e2 => ?_)
  rw [show h2 = h1 from e2]
  refine r_istore_n (ls' := [(0, .ref m), (1, .int (iI lo)), (2, .int (iI hi)), (3, .int (iI (numV T p)))]) dX12_look_22 (by decide) rfl ?_
  refine r_aload_n dX12_look_23 0 rfl ?_
  refine r_iload_n dX12_look_24 3 rfl ?_
  refine r_iload_n dX12_look_25 1 rfl ?_
  refine r_iload_n dX12_look_26 2 rfl ?_
  refine p_callS (As := [.int (iI (numV T p)), .int (iI lo), .int (iI hi)]) (rest := [.ref m]) (w := (some (.int (iI (b2 false))))) (st' := [.int (iI (b2 false)), .ref m]) kv_X12_look_107 dX12_look_27 rfl rfl (Nat.le_of_ble_eq_true rfl) (Nat.le_of_ble_eq_true rfl) rfl rfl (c_X12_inRange_b (by unfold in32; omega) (by unfold in32; omega) (by unfold in32; omega) (b := false) hir) rfl (fun h3 e3 => ?_)
  rw [show h3 = h1 from e3]
  refine i_const (2) dX12_look_30 ?_
  refine p_callV (As := [.int (iI (b2 false)), .int (iI 2)]) (b := m) (rest := []) (w := none) (st' := []) kv_X12_look_329 dX12_look_31 rfl rfl (Nat.le_of_ble_eq_true rfl) (Nat.le_of_ble_eq_true rfl) (x_rv hM1.1 hM1.2 rfl) rfl rfl (c_X12_check_f hM1 hT1 (c := 2) (by decide)) rfl (fun h4 e4 => ?_)
  obtain ⟨r4, hM4, hK4, hT4, F4⟩ := e4
  have hA4 := hA1.obj hM1 F4
  have hQ4 := hQ1.tr hK4
  have hZ4 := hZ1.tr F4
  refine r_aload_n dX12_look_34 0 rfl ?_
  refine m_g_er (v := 2) hM4 hT4.2.2.2.2.2.1 kf_X12_303 dX12_look_35 ?_
  refine i_ifne dX12_look_38 (tgt := 45) (by decide) ⟨by decide, by decide⟩ (fun _ => ?_) (fun c => absurd c (by decide))
  refine r_iload_n dX12_look_45 1 rfl ?_
  refine r_ireturn rfl rfl dX12_look_46 ?_
  exact ⟨rfl, r4, hM4, hQ4, hT4, hZ4⟩
set_option maxRecDepth 20000 in
set_option maxHeartbeats 1000000 in
theorem c_X12_look_b1 {G : xG} {h : xH} {m : Nat} {a : MA} {r : MR} (hM : MO G h m a r) {T : List Int} {p : Nat} {o : Int} (hT : TS r T p 0 o) {gi : Nat → Int32} (hA : AR G h a.2.2.2.2.2.2.1 500 gi) (hl5 : T.length ≤ 500) (hg : ∀ k, k < T.length → gi k = iI (T.getD k 0)) (hb : BYT T) {lo hi : Int} (hlo : 0 ≤ lo ∧ lo ≤ 1000) (hhi : 0 ≤ hi ∧ hi ≤ 1000) (hk1 : (tokAt T p).1 ≠ 1) : CC G MX12_look [.ref m, .int (iI lo), .int (iI hi)] h (fun o9 h' => o9 = .inl (some (.int (iI lo))) ∧ TP G h h' m a r T p 1 ((tokAt T p).2.1 : Int)) := by
  have hnv := numV_b T p
  have htk := tkM_b T hT.2.1
  have hbb := hT.b
  show RR G MX12_look 0 [(0, .ref m), (1, .int (iI lo)), (2, .int (iI hi))] [] h (xm_R MX12_look).cells (xm_R MX12_look).slots (fun o9 h' => o9 = .inl (some (.int (iI lo))) ∧ TP G h h' m a r T p 1 ((tokAt T p).2.1 : Int))
  refine r_aload_n dX12_look_0 0 rfl ?_
  refine r_aload_n dX12_look_1 0 rfl ?_
  refine m_g_tk (v := tkM (tokAt T p).1) hM hT.2.2.2.2.1 kf_X12_294 dX12_look_2 ?_
  refine i_const (2) dX12_look_5 ?_
  refine i_icmpne dX12_look_6 (tgt := 13) (by decide) (by unfold in32; omega) ⟨by decide, by decide⟩ (fun _ => ?_) (fun c => absurd (tkM_2 hbb.1 c) hk1)
  refine i_const (0) dX12_look_13 ?_
  refine i_const (1) dX12_look_14 ?_
  refine p_callV (As := [.int (iI 0), .int (iI 1)]) (b := m) (rest := []) (w := none) (st' := []) kv_X12_look_329 dX12_look_15 rfl rfl (Nat.le_of_ble_eq_true rfl) (Nat.le_of_ble_eq_true rfl) (x_rv hM.1 hM.2 rfl) rfl rfl (c_X12_check_f hM hT (c := 1) (by decide)) rfl (fun h1 e1 => ?_)
  obtain ⟨r1, hM1, hK1, hT1, F1⟩ := e1
  have hA1 := hA.obj hM F1
  have hQ1 := hK1
  have hZ1 := F1
  refine r_aload_n dX12_look_18 0 rfl ?_
  refine p_callV (As := []) (b := m) (rest := []) (w := (some (.int (iI (numV T p))))) (st' := [.int (iI (numV T p))]) kv_X12_look_337 dX12_look_19 rfl rfl (Nat.le_of_ble_eq_true rfl) (Nat.le_of_ble_eq_true rfl) (x_rv hM1.1 hM1.2 rfl) rfl rfl (c_X12_value hM1 hT1 hA1 hl5 hg hb) rfl (fun h2 e2 => ?_)
  rw [show h2 = h1 from e2]
  refine r_istore_n (ls' := [(0, .ref m), (1, .int (iI lo)), (2, .int (iI hi)), (3, .int (iI (numV T p)))]) dX12_look_22 (by decide) rfl ?_
  refine r_aload_n dX12_look_23 0 rfl ?_
  refine r_iload_n dX12_look_24 3 rfl ?_
  refine r_iload_n dX12_look_25 1 rfl ?_
  refine r_iload_n dX12_look_26 2 rfl ?_
  refine p_callS (As := [.int (iI (numV T p)), .int (iI lo), .int (iI hi)]) (rest := [.ref m]) (w := (some (.int (iI (b2 (inR (numV T p) lo hi)))))) (st' := [.int (iI (b2 (inR (numV T p) lo hi))), .ref m]) kv_X12_look_107 dX12_look_27 rfl rfl (Nat.le_of_ble_eq_true rfl) (Nat.le_of_ble_eq_true rfl) rfl rfl (c_X12_inRange_b (by unfold in32; omega) (by unfold in32; omega) (by unfold in32; omega) (b := (inR (numV T p) lo hi)) rfl) rfl (fun h3 e3 => ?_)
  rw [show h3 = h1 from e3]
  refine i_const (2) dX12_look_30 ?_
  refine p_callV (As := [.int (iI (b2 (inR (numV T p) lo hi))), .int (iI 2)]) (b := m) (rest := []) (w := none) (st' := []) kv_X12_look_329 dX12_look_31 rfl rfl (Nat.le_of_ble_eq_true rfl) (Nat.le_of_ble_eq_true rfl) (x_rv hM1.1 hM1.2 rfl) rfl rfl (c_X12_check_e hM1 hT1 (b := (inR (numV T p) lo hi)) (e13 ⟨by decide, by decide⟩) (i13 ⟨by decide, by decide⟩)) rfl (fun h4 e4 => ?_)
  obtain ⟨r4, hM4, hK4, hT4, F4⟩ := e4
  have hA4 := hA1.obj hM1 F4
  have hQ4 := hQ1.tr hK4
  have hZ4 := hZ1.tr F4
  refine r_aload_n dX12_look_34 0 rfl ?_
  refine m_g_er (v := 1) hM4 hT4.2.2.2.2.2.1 kf_X12_303 dX12_look_35 ?_
  refine i_ifne dX12_look_38 (tgt := 45) (by decide) ⟨by decide, by decide⟩ (fun _ => ?_) (fun c => absurd c (by decide))
  refine r_iload_n dX12_look_45 1 rfl ?_
  refine r_ireturn rfl rfl dX12_look_46 ?_
  exact ⟨rfl, r4, hM4, hQ4, hT4, hZ4⟩
set_option maxRecDepth 20000 in
set_option maxHeartbeats 1000000 in
theorem c_X12_look_e {G : xG} {h : xH} {m : Nat} {a : MA} {r : MR} (hM : MO G h m a r) {T : List Int} {p : Nat} {e o : Int} (hT : TS r T p e o) {gi : Nat → Int32} (hA : AR G h a.2.2.2.2.2.2.1 500 gi) (hl5 : T.length ≤ 500) (hg : ∀ k, k < T.length → gi k = iI (T.getD k 0)) (hb : BYT T) {lo hi : Int} (hlo : 0 ≤ lo ∧ lo ≤ 1000) (hhi : 0 ≤ hi ∧ hi ≤ 1000) (he : 1 ≤ e ∧ e ≤ 3) : CC G MX12_look [.ref m, .int (iI lo), .int (iI hi)] h (fun o9 h' => o9 = .inl (some (.int (iI lo))) ∧ TP G h h' m a r T p e o) := by
  have hnv := numV_b T p
  have htk := tkM_b T hT.2.1
  have hbb := hT.b
  show RR G MX12_look 0 [(0, .ref m), (1, .int (iI lo)), (2, .int (iI hi))] [] h (xm_R MX12_look).cells (xm_R MX12_look).slots (fun o9 h' => o9 = .inl (some (.int (iI lo))) ∧ TP G h h' m a r T p e o)
  refine r_aload_n dX12_look_0 0 rfl ?_
  refine r_aload_n dX12_look_1 0 rfl ?_
  refine m_g_tk (v := tkM (tokAt T p).1) hM hT.2.2.2.2.1 kf_X12_294 dX12_look_2 ?_
  refine i_const (2) dX12_look_5 ?_
  refine i_icmpne dX12_look_6 (tgt := 13) (by decide) (by first | exact i13 he | (unfold in32; omega)) ⟨by decide, by decide⟩ (fun c6 => ?_) (fun c6 => ?_)
  · refine i_const (0) dX12_look_13 ?_
    refine i_const (1) dX12_look_14 ?_
    refine p_callV (As := [.int (iI 0), .int (iI 1)]) (b := m) (rest := []) (w := none) (st' := []) kv_X12_look_329 dX12_look_15 rfl rfl (Nat.le_of_ble_eq_true rfl) (Nat.le_of_ble_eq_true rfl) (x_rv hM.1 hM.2 rfl) rfl rfl (c_X12_check_e hM hT (b := false) (e13 he) (i13 he)) rfl (fun h1 e1 => ?_)
    obtain ⟨r1, hM1, hK1, hT1, F1⟩ := e1
    have hA1 := hA.obj hM F1
    have hQ1 := hK1
    have hZ1 := F1
    refine r_aload_n dX12_look_18 0 rfl ?_
    refine p_callV (As := []) (b := m) (rest := []) (w := (some (.int (iI (numV T p))))) (st' := [.int (iI (numV T p))]) kv_X12_look_337 dX12_look_19 rfl rfl (Nat.le_of_ble_eq_true rfl) (Nat.le_of_ble_eq_true rfl) (x_rv hM1.1 hM1.2 rfl) rfl rfl (c_X12_value hM1 hT1 hA1 hl5 hg hb) rfl (fun h2 e2 => ?_)
    rw [show h2 = h1 from e2]
    refine r_istore_n (ls' := [(0, .ref m), (1, .int (iI lo)), (2, .int (iI hi)), (3, .int (iI (numV T p)))]) dX12_look_22 (by decide) rfl ?_
    refine r_aload_n dX12_look_23 0 rfl ?_
    refine r_iload_n dX12_look_24 3 rfl ?_
    refine r_iload_n dX12_look_25 1 rfl ?_
    refine r_iload_n dX12_look_26 2 rfl ?_
    refine p_callS (As := [.int (iI (numV T p)), .int (iI lo), .int (iI hi)]) (rest := [.ref m]) (w := (some (.int (iI (b2 (inR (numV T p) lo hi)))))) (st' := [.int (iI (b2 (inR (numV T p) lo hi))), .ref m]) kv_X12_look_107 dX12_look_27 rfl rfl (Nat.le_of_ble_eq_true rfl) (Nat.le_of_ble_eq_true rfl) rfl rfl (c_X12_inRange_b (by unfold in32; omega) (by unfold in32; omega) (by unfold in32; omega) (b := (inR (numV T p) lo hi)) rfl) rfl (fun h3 e3 => ?_)
    rw [show h3 = h1 from e3]
    refine i_const (2) dX12_look_30 ?_
    refine p_callV (As := [.int (iI (b2 (inR (numV T p) lo hi))), .int (iI 2)]) (b := m) (rest := []) (w := none) (st' := []) kv_X12_look_329 dX12_look_31 rfl rfl (Nat.le_of_ble_eq_true rfl) (Nat.le_of_ble_eq_true rfl) (x_rv hM1.1 hM1.2 rfl) rfl rfl (c_X12_check_e hM1 hT1 (b := (inR (numV T p) lo hi)) (e13 he) (i13 he)) rfl (fun h4 e4 => ?_)
    obtain ⟨r4, hM4, hK4, hT4, F4⟩ := e4
    have hA4 := hA1.obj hM1 F4
    have hQ4 := hQ1.tr hK4
    have hZ4 := hZ1.tr F4
    refine r_aload_n dX12_look_34 0 rfl ?_
    refine m_g_er (v := e) hM4 hT4.2.2.2.2.2.1 kf_X12_303 dX12_look_35 ?_
    refine i_ifne dX12_look_38 (tgt := 45) (by decide) (by first | exact i13 he | (unfold in32; omega)) (fun _ => ?_) (fun c => absurd c (by omega))
    refine r_iload_n dX12_look_45 1 rfl ?_
    refine r_ireturn rfl rfl dX12_look_46 ?_
    exact ⟨rfl, r4, hM4, hQ4, hT4, hZ4⟩
  · refine i_const (1) dX12_look_9 ?_
    refine r_goto dX12_look_10 (tgt := 14) (by decide) ?_
    refine i_const (1) dX12_look_14 ?_
    refine p_callV (As := [.int (iI 1), .int (iI 1)]) (b := m) (rest := []) (w := none) (st' := []) kv_X12_look_329 dX12_look_15 rfl rfl (Nat.le_of_ble_eq_true rfl) (Nat.le_of_ble_eq_true rfl) (x_rv hM.1 hM.2 rfl) rfl rfl (c_X12_check_e hM hT (b := true) (e13 he) (i13 he)) rfl (fun h5 e5 => ?_)
    obtain ⟨r5, hM5, hK5, hT5, F5⟩ := e5
    have hA5 := hA.obj hM F5
    have hQ5 := hK5
    have hZ5 := F5
    refine r_aload_n dX12_look_18 0 rfl ?_
    refine p_callV (As := []) (b := m) (rest := []) (w := (some (.int (iI (numV T p))))) (st' := [.int (iI (numV T p))]) kv_X12_look_337 dX12_look_19 rfl rfl (Nat.le_of_ble_eq_true rfl) (Nat.le_of_ble_eq_true rfl) (x_rv hM5.1 hM5.2 rfl) rfl rfl (c_X12_value hM5 hT5 hA5 hl5 hg hb) rfl (fun h6 e6 => ?_)
    rw [show h6 = h5 from e6]
    refine r_istore_n (ls' := [(0, .ref m), (1, .int (iI lo)), (2, .int (iI hi)), (3, .int (iI (numV T p)))]) dX12_look_22 (by decide) rfl ?_
    refine r_aload_n dX12_look_23 0 rfl ?_
    refine r_iload_n dX12_look_24 3 rfl ?_
    refine r_iload_n dX12_look_25 1 rfl ?_
    refine r_iload_n dX12_look_26 2 rfl ?_
    refine p_callS (As := [.int (iI (numV T p)), .int (iI lo), .int (iI hi)]) (rest := [.ref m]) (w := (some (.int (iI (b2 (inR (numV T p) lo hi)))))) (st' := [.int (iI (b2 (inR (numV T p) lo hi))), .ref m]) kv_X12_look_107 dX12_look_27 rfl rfl (Nat.le_of_ble_eq_true rfl) (Nat.le_of_ble_eq_true rfl) rfl rfl (c_X12_inRange_b (by unfold in32; omega) (by unfold in32; omega) (by unfold in32; omega) (b := (inR (numV T p) lo hi)) rfl) rfl (fun h7 e7 => ?_)
    rw [show h7 = h5 from e7]
    refine i_const (2) dX12_look_30 ?_
    refine p_callV (As := [.int (iI (b2 (inR (numV T p) lo hi))), .int (iI 2)]) (b := m) (rest := []) (w := none) (st' := []) kv_X12_look_329 dX12_look_31 rfl rfl (Nat.le_of_ble_eq_true rfl) (Nat.le_of_ble_eq_true rfl) (x_rv hM5.1 hM5.2 rfl) rfl rfl (c_X12_check_e hM5 hT5 (b := (inR (numV T p) lo hi)) (e13 he) (i13 he)) rfl (fun h8 e8 => ?_)
    obtain ⟨r8, hM8, hK8, hT8, F8⟩ := e8
    have hA8 := hA5.obj hM5 F8
    have hQ8 := hQ5.tr hK8
    have hZ8 := hZ5.tr F8
    refine r_aload_n dX12_look_34 0 rfl ?_
    refine m_g_er (v := e) hM8 hT8.2.2.2.2.2.1 kf_X12_303 dX12_look_35 ?_
    refine i_ifne dX12_look_38 (tgt := 45) (by decide) (by first | exact i13 he | (unfold in32; omega)) (fun _ => ?_) (fun c => absurd c (by omega))
    refine r_iload_n dX12_look_45 1 rfl ?_
    refine r_ireturn rfl rfl dX12_look_46 ?_
    exact ⟨rfl, r8, hM8, hQ8, hT8, hZ8⟩
set_option maxRecDepth 20000 in
set_option maxHeartbeats 1000000 in
theorem c_X12_readNumber_k {G : xG} {h : xH} {m : Nat} {a : MA} {r : MR} (hM : MO G h m a r) {T : List Int} {p : Nat} {o : Int} (hT : TS r T p 0 o) {gi : Nat → Int32} (hA : AR G h a.2.2.2.2.2.2.1 500 gi) (hl5 : T.length ≤ 500) (hg : ∀ k, k < T.length → gi k = iI (T.getD k 0)) (hb : BYT T) {lo hi : Int} (hlo : 0 ≤ lo ∧ lo ≤ 1000) (hhi : 0 ≤ hi ∧ hi ≤ 1000) (hk1 : (tokAt T p).1 = 1) (hir : inR (numV T p) lo hi = true) : CC G MX12_readNumber [.ref m, .int (iI lo), .int (iI hi)] h (fun o9 h' => o9 = .inl (some (.int (iI (numV T p)))) ∧ TP G h h' m a r T (tokAt T p).2.2 0 o) := by
  show RR G MX12_readNumber 0 [(0, .ref m), (1, .int (iI lo)), (2, .int (iI hi))] [] h (xm_R MX12_readNumber).cells (xm_R MX12_readNumber).slots (fun o9 h' => o9 = .inl (some (.int (iI (numV T p)))) ∧ TP G h h' m a r T (tokAt T p).2.2 0 o)
  refine r_aload_n dX12_readNumber_0 0 rfl ?_
  refine r_iload_n dX12_readNumber_1 1 rfl ?_
  refine r_iload_n dX12_readNumber_2 2 rfl ?_
  refine p_callV (As := [.int (iI lo), .int (iI hi)]) (b := m) (rest := []) (w := (some (.int (iI (numV T p))))) (st' := [.int (iI (numV T p))]) kv_X12_readNumber_340 dX12_readNumber_3 rfl rfl (Nat.le_of_ble_eq_true rfl) (Nat.le_of_ble_eq_true rfl) (x_rv hM.1 hM.2 rfl) rfl rfl (c_X12_look_k hM hT hA hl5 hg hb hlo hhi hk1 hir) rfl (fun h1 e1 => ?_)
  obtain ⟨r1, hM1, hK1, hT1, F1⟩ := e1
  have hA1 := hA.obj hM F1
  have hQ1 := hK1
  have hZ1 := F1
  refine r_istore_n (ls' := [(0, .ref m), (1, .int (iI lo)), (2, .int (iI hi)), (3, .int (iI (numV T p)))]) dX12_readNumber_6 (by decide) rfl ?_
  refine r_aload_n dX12_readNumber_7 0 rfl ?_
  refine p_callV (As := []) (b := m) (rest := []) (w := none) (st' := []) kv_X12_readNumber_333 dX12_readNumber_8 rfl rfl (Nat.le_of_ble_eq_true rfl) (Nat.le_of_ble_eq_true rfl) (x_rv hM1.1 hM1.2 rfl) rfl rfl (c_X12_advance_k hM1 hT1 hA1 hl5 hg hb) rfl (fun h2 e2 => ?_)
  obtain ⟨r2, hM2, hK2, hT2, F2⟩ := e2
  have hA2 := hA1.obj hM1 F2
  have hQ2 := hQ1.tr hK2
  have hZ2 := hZ1.tr F2
  refine r_iload_n dX12_readNumber_11 3 rfl ?_
  refine r_ireturn rfl rfl dX12_readNumber_12 ?_
  exact ⟨rfl, r2, hM2, hQ2, hT2, hZ2⟩
set_option maxRecDepth 20000 in
set_option maxHeartbeats 1000000 in
theorem c_X12_readNumber_b2 {G : xG} {h : xH} {m : Nat} {a : MA} {r : MR} (hM : MO G h m a r) {T : List Int} {p : Nat} {o : Int} (hT : TS r T p 0 o) {gi : Nat → Int32} (hA : AR G h a.2.2.2.2.2.2.1 500 gi) (hl5 : T.length ≤ 500) (hg : ∀ k, k < T.length → gi k = iI (T.getD k 0)) (hb : BYT T) {lo hi : Int} (hlo : 0 ≤ lo ∧ lo ≤ 1000) (hhi : 0 ≤ hi ∧ hi ≤ 1000) (hk1 : (tokAt T p).1 = 1) (hir : inR (numV T p) lo hi = false) : CC G MX12_readNumber [.ref m, .int (iI lo), .int (iI hi)] h (fun o9 h' => o9 = .inl (some (.int (iI lo))) ∧ TP G h h' m a r T p 2 ((tokAt T p).2.1 : Int)) := by
  show RR G MX12_readNumber 0 [(0, .ref m), (1, .int (iI lo)), (2, .int (iI hi))] [] h (xm_R MX12_readNumber).cells (xm_R MX12_readNumber).slots (fun o9 h' => o9 = .inl (some (.int (iI lo))) ∧ TP G h h' m a r T p 2 ((tokAt T p).2.1 : Int))
  refine r_aload_n dX12_readNumber_0 0 rfl ?_
  refine r_iload_n dX12_readNumber_1 1 rfl ?_
  refine r_iload_n dX12_readNumber_2 2 rfl ?_
  refine p_callV (As := [.int (iI lo), .int (iI hi)]) (b := m) (rest := []) (w := (some (.int (iI lo)))) (st' := [.int (iI lo)]) kv_X12_readNumber_340 dX12_readNumber_3 rfl rfl (Nat.le_of_ble_eq_true rfl) (Nat.le_of_ble_eq_true rfl) (x_rv hM.1 hM.2 rfl) rfl rfl (c_X12_look_b2 hM hT hA hl5 hg hb hlo hhi hk1 hir) rfl (fun h1 e1 => ?_)
  obtain ⟨r1, hM1, hK1, hT1, F1⟩ := e1
  have hA1 := hA.obj hM F1
  have hQ1 := hK1
  have hZ1 := F1
  refine r_istore_n (ls' := [(0, .ref m), (1, .int (iI lo)), (2, .int (iI hi)), (3, .int (iI lo))]) dX12_readNumber_6 (by decide) rfl ?_
  refine r_aload_n dX12_readNumber_7 0 rfl ?_
  refine p_callV (As := []) (b := m) (rest := []) (w := none) (st' := []) kv_X12_readNumber_333 dX12_readNumber_8 rfl rfl (Nat.le_of_ble_eq_true rfl) (Nat.le_of_ble_eq_true rfl) (x_rv hM1.1 hM1.2 rfl) rfl rfl (c_X12_advance_e hM1 hT1 hA1 hl5 hg hb (e13 ⟨by decide, by decide⟩) (i13 ⟨by decide, by decide⟩)) rfl (fun h2 e2 => ?_)
  obtain ⟨r2, hM2, hK2, hT2, F2⟩ := e2
  have hA2 := hA1.obj hM1 F2
  have hQ2 := hQ1.tr hK2
  have hZ2 := hZ1.tr F2
  refine r_iload_n dX12_readNumber_11 3 rfl ?_
  refine r_ireturn rfl rfl dX12_readNumber_12 ?_
  exact ⟨rfl, r2, hM2, hQ2, hT2, hZ2⟩
set_option maxRecDepth 20000 in
set_option maxHeartbeats 1000000 in
theorem c_X12_readNumber_b1 {G : xG} {h : xH} {m : Nat} {a : MA} {r : MR} (hM : MO G h m a r) {T : List Int} {p : Nat} {o : Int} (hT : TS r T p 0 o) {gi : Nat → Int32} (hA : AR G h a.2.2.2.2.2.2.1 500 gi) (hl5 : T.length ≤ 500) (hg : ∀ k, k < T.length → gi k = iI (T.getD k 0)) (hb : BYT T) {lo hi : Int} (hlo : 0 ≤ lo ∧ lo ≤ 1000) (hhi : 0 ≤ hi ∧ hi ≤ 1000) (hk1 : (tokAt T p).1 ≠ 1) : CC G MX12_readNumber [.ref m, .int (iI lo), .int (iI hi)] h (fun o9 h' => o9 = .inl (some (.int (iI lo))) ∧ TP G h h' m a r T p 1 ((tokAt T p).2.1 : Int)) := by
  show RR G MX12_readNumber 0 [(0, .ref m), (1, .int (iI lo)), (2, .int (iI hi))] [] h (xm_R MX12_readNumber).cells (xm_R MX12_readNumber).slots (fun o9 h' => o9 = .inl (some (.int (iI lo))) ∧ TP G h h' m a r T p 1 ((tokAt T p).2.1 : Int))
  refine r_aload_n dX12_readNumber_0 0 rfl ?_
  refine r_iload_n dX12_readNumber_1 1 rfl ?_
  refine r_iload_n dX12_readNumber_2 2 rfl ?_
  refine p_callV (As := [.int (iI lo), .int (iI hi)]) (b := m) (rest := []) (w := (some (.int (iI lo)))) (st' := [.int (iI lo)]) kv_X12_readNumber_340 dX12_readNumber_3 rfl rfl (Nat.le_of_ble_eq_true rfl) (Nat.le_of_ble_eq_true rfl) (x_rv hM.1 hM.2 rfl) rfl rfl (c_X12_look_b1 hM hT hA hl5 hg hb hlo hhi hk1) rfl (fun h1 e1 => ?_)
  obtain ⟨r1, hM1, hK1, hT1, F1⟩ := e1
  have hA1 := hA.obj hM F1
  have hQ1 := hK1
  have hZ1 := F1
  refine r_istore_n (ls' := [(0, .ref m), (1, .int (iI lo)), (2, .int (iI hi)), (3, .int (iI lo))]) dX12_readNumber_6 (by decide) rfl ?_
  refine r_aload_n dX12_readNumber_7 0 rfl ?_
  refine p_callV (As := []) (b := m) (rest := []) (w := none) (st' := []) kv_X12_readNumber_333 dX12_readNumber_8 rfl rfl (Nat.le_of_ble_eq_true rfl) (Nat.le_of_ble_eq_true rfl) (x_rv hM1.1 hM1.2 rfl) rfl rfl (c_X12_advance_e hM1 hT1 hA1 hl5 hg hb (e13 ⟨by decide, by decide⟩) (i13 ⟨by decide, by decide⟩)) rfl (fun h2 e2 => ?_)
  obtain ⟨r2, hM2, hK2, hT2, F2⟩ := e2
  have hA2 := hA1.obj hM1 F2
  have hQ2 := hQ1.tr hK2
  have hZ2 := hZ1.tr F2
  refine r_iload_n dX12_readNumber_11 3 rfl ?_
  refine r_ireturn rfl rfl dX12_readNumber_12 ?_
  exact ⟨rfl, r2, hM2, hQ2, hT2, hZ2⟩
set_option maxRecDepth 20000 in
set_option maxHeartbeats 1000000 in
theorem c_X12_readNumber_e {G : xG} {h : xH} {m : Nat} {a : MA} {r : MR} (hM : MO G h m a r) {T : List Int} {p : Nat} {e o : Int} (hT : TS r T p e o) {gi : Nat → Int32} (hA : AR G h a.2.2.2.2.2.2.1 500 gi) (hl5 : T.length ≤ 500) (hg : ∀ k, k < T.length → gi k = iI (T.getD k 0)) (hb : BYT T) {lo hi : Int} (hlo : 0 ≤ lo ∧ lo ≤ 1000) (hhi : 0 ≤ hi ∧ hi ≤ 1000) (he : 1 ≤ e ∧ e ≤ 3) : CC G MX12_readNumber [.ref m, .int (iI lo), .int (iI hi)] h (fun o9 h' => o9 = .inl (some (.int (iI lo))) ∧ TP G h h' m a r T p e o) := by
  show RR G MX12_readNumber 0 [(0, .ref m), (1, .int (iI lo)), (2, .int (iI hi))] [] h (xm_R MX12_readNumber).cells (xm_R MX12_readNumber).slots (fun o9 h' => o9 = .inl (some (.int (iI lo))) ∧ TP G h h' m a r T p e o)
  refine r_aload_n dX12_readNumber_0 0 rfl ?_
  refine r_iload_n dX12_readNumber_1 1 rfl ?_
  refine r_iload_n dX12_readNumber_2 2 rfl ?_
  refine p_callV (As := [.int (iI lo), .int (iI hi)]) (b := m) (rest := []) (w := (some (.int (iI lo)))) (st' := [.int (iI lo)]) kv_X12_readNumber_340 dX12_readNumber_3 rfl rfl (Nat.le_of_ble_eq_true rfl) (Nat.le_of_ble_eq_true rfl) (x_rv hM.1 hM.2 rfl) rfl rfl (c_X12_look_e hM hT hA hl5 hg hb hlo hhi he) rfl (fun h1 e1 => ?_)
  obtain ⟨r1, hM1, hK1, hT1, F1⟩ := e1
  have hA1 := hA.obj hM F1
  have hQ1 := hK1
  have hZ1 := F1
  refine r_istore_n (ls' := [(0, .ref m), (1, .int (iI lo)), (2, .int (iI hi)), (3, .int (iI lo))]) dX12_readNumber_6 (by decide) rfl ?_
  refine r_aload_n dX12_readNumber_7 0 rfl ?_
  refine p_callV (As := []) (b := m) (rest := []) (w := none) (st' := []) kv_X12_readNumber_333 dX12_readNumber_8 rfl rfl (Nat.le_of_ble_eq_true rfl) (Nat.le_of_ble_eq_true rfl) (x_rv hM1.1 hM1.2 rfl) rfl rfl (c_X12_advance_e hM1 hT1 hA1 hl5 hg hb (e13 he) (i13 he)) rfl (fun h2 e2 => ?_)
  obtain ⟨r2, hM2, hK2, hT2, F2⟩ := e2
  have hA2 := hA1.obj hM1 F2
  have hQ2 := hQ1.tr hK2
  have hZ2 := hZ1.tr F2
  refine r_iload_n dX12_readNumber_11 3 rfl ?_
  refine r_ireturn rfl rfl dX12_readNumber_12 ?_
  exact ⟨rfl, r2, hM2, hQ2, hT2, hZ2⟩
theorem t_X12_readNumber_ok {G : xG} {h : xH} {m : Nat} {a : MA} {r : MR} (hM : MO G h m a r) {T : List Int} {p : Nat} {o : Int} (hT : TS r T p 0 o) {gi : Nat → Int32} (hA : AR G h a.2.2.2.2.2.2.1 500 gi) (hl5 : T.length ≤ 500) (hg : ∀ k, k < T.length → gi k = iI (T.getD k 0)) (hb : BYT T) {lo hi : Int} (hlo : 0 ≤ lo ∧ lo ≤ 1000) (hhi : 0 ≤ hi ∧ hi ≤ 1000) {v : Int} {q : Nat} (hs : sNum T p lo hi = .inr (v, q)) : CC G MX12_readNumber [.ref m, .int (iI lo), .int (iI hi)] h (fun o9 h' => o9 = .inl (some (.int (iI v))) ∧ TP G h h' m a r T q 0 o) := by
  rcases sNum_inv (T := T) (p := p) (lo := lo) (hi := hi) with ⟨v', q', e1, hk, h1, h2, h3, h4⟩ | ⟨e1, _⟩ | ⟨e1, _⟩
  · rw [e1] at hs
    cases hs
    have hr := numV_r hk (lo := lo) hhi.2
    have e5 : numV T p = v := (hr.2 (by omega)).trans h3.symm
    have q9 := c_X12_readNumber_k hM hT hA hl5 hg hb hlo hhi hk (by rw [hr.1, ← h3, decide_eq_true h1, decide_eq_true h2]; rfl)
    rw [e5, ← h4] at q9
    exact q9
  · rw [e1] at hs; cases hs
  · rw [e1] at hs; cases hs
theorem t_X12_readNumber_bad {G : xG} {h : xH} {m : Nat} {a : MA} {r : MR} (hM : MO G h m a r) {T : List Int} {p : Nat} {o : Int} (hT : TS r T p 0 o) {gi : Nat → Int32} (hA : AR G h a.2.2.2.2.2.2.1 500 gi) (hl5 : T.length ≤ 500) (hg : ∀ k, k < T.length → gi k = iI (T.getD k 0)) (hb : BYT T) {lo hi : Int} (hlo : 0 ≤ lo ∧ lo ≤ 1000) (hhi : 0 ≤ hi ∧ hi ≤ 1000) {c off : Int} (hs : sNum T p lo hi = .inl (c, off)) : (1 ≤ c ∧ c ≤ 3) ∧ CC G MX12_readNumber [.ref m, .int (iI lo), .int (iI hi)] h (fun o9 h' => o9 = .inl (some (.int (iI lo))) ∧ TP G h h' m a r T p c off) := by
  rcases sNum_inv (T := T) (p := p) (lo := lo) (hi := hi) with ⟨v', q', e1, _⟩ | ⟨e1, hk, h1⟩ | ⟨e1, hk⟩
  · rw [e1] at hs; cases hs
  · rw [e1] at hs
    cases hs
    have hr := numV_r hk (lo := lo) hhi.2
    exact ⟨⟨by decide, by decide⟩, c_X12_readNumber_b2 hM hT hA hl5 hg hb hlo hhi hk (by rw [hr.1]; simp; omega)⟩
  · rw [e1] at hs
    cases hs
    exact ⟨⟨by decide, by decide⟩, c_X12_readNumber_b1 hM hT hA hl5 hg hb hlo hhi hk⟩
theorem t_X12_expect_ok {G : xG} {h : xH} {m : Nat} {a : MA} {r : MR} (hM : MO G h m a r) {T : List Int} {p : Nat} {o : Int} (hT : TS r T p 0 o) {gi : Nat → Int32} (hA : AR G h a.2.2.2.2.2.2.1 500 gi) (hl5 : T.length ≤ 500) (hg : ∀ k, k < T.length → gi k = iI (T.getD k 0)) (hb : BYT T) {q : Nat} (hs : sSemi T p = .inr ((), q)) : CC G MX12_expect [.ref m, .int (iI 59)] h (fun o9 h' => o9 = .inl none ∧ TP G h h' m a r T q 0 o) := by
  rcases sSemi_inv (T := T) (p := p) with ⟨e1, hk⟩ | ⟨e1, hk⟩
  · rw [e1] at hs; cases hs; exact c_X12_expect_k hM hT hA hl5 hg hb (decide_eq_true hk)
  · rw [e1] at hs; cases hs
theorem t_X12_expect_bad {G : xG} {h : xH} {m : Nat} {a : MA} {r : MR} (hM : MO G h m a r) {T : List Int} {p : Nat} {o : Int} (hT : TS r T p 0 o) {gi : Nat → Int32} (hA : AR G h a.2.2.2.2.2.2.1 500 gi) (hl5 : T.length ≤ 500) (hg : ∀ k, k < T.length → gi k = iI (T.getD k 0)) (hb : BYT T) {c off : Int} (hs : sSemi T p = .inl (c, off)) : (1 ≤ c ∧ c ≤ 3) ∧ CC G MX12_expect [.ref m, .int (iI 59)] h (fun o9 h' => o9 = .inl none ∧ TP G h h' m a r T p c off) := by
  rcases sSemi_inv (T := T) (p := p) with ⟨e1, hk⟩ | ⟨e1, hk⟩
  · rw [e1] at hs; cases hs
  · rw [e1] at hs; cases hs; exact ⟨⟨by decide, by decide⟩, c_X12_expect_b hM hT hA hl5 hg hb (decide_eq_false hk)⟩
set_option maxRecDepth 20000 in
set_option maxHeartbeats 1000000 in
theorem c_X12_isLayerHere_k {G : xG} {h : xH} {m : Nat} {a : MA} {r : MR} (hM : MO G h m a r) {T : List Int} {p : Nat} {o : Int} (hT : TS r T p 0 o) {gi : Nat → Int32} (hA : AR G h a.2.2.2.2.2.2.1 500 gi) (hl5 : T.length ≤ 500) (hg : ∀ k, k < T.length → gi k = iI (T.getD k 0)) (hb : BYT T) {sa : Nat → Nat} (hGT : GT G sa) : CC G MX12_isLayerHere [.ref m] h (qI (b2 (isLW T p)) h) := by
  show RR G MX12_isLayerHere 0 [(0, .ref m)] [] h (xm_R MX12_isLayerHere).cells (xm_R MX12_isLayerHere).slots (qI (b2 (isLW T p)) h)
  refine r_aload_n dX12_isLayerHere_0 0 rfl ?_
  refine r_ldcSW (hGT.2.2 ("PastryBenchModel", 349, "dough", 2) (List.mem_of_getElem? (i := 13) rfl)) rfl dX12_isLayerHere_1 ?_
  refine p_callV (As := [.ref (sa 2)]) (b := m) (rest := []) (w := (some (.int (iI (b2 (isW T (tokAt T p) (txS 2))))))) (st' := [.int (iI (b2 (isW T (tokAt T p) (txS 2))))]) kv_X12_isLayerHere_322 dX12_isLayerHere_4 rfl rfl (Nat.le_of_ble_eq_true rfl) (Nat.le_of_ble_eq_true rfl) (x_rv hM.1 hM.2 rfl) rfl rfl (c_X12_isWord_k hM hT hA hl5 hg hb hGT.1 (hGT.2.1 2 (by decide))) rfl (fun h1 e1 => ?_)
  rw [show h1 = h from e1]
  refine i_ifneb dX12_isLayerHere_7 (tgt := 20) (by decide) (fun c7 => ?_) (fun c7 => ?_)
  · refine i_const (1) dX12_isLayerHere_20 ?_
    refine r_goto dX12_isLayerHere_21 (tgt := 25) (by decide) ?_
    refine r_ireturn rfl (b2_nar true) dX12_isLayerHere_25 ?_
    have e : isLW T p = true := by unfold isLW; rw [c7]; rfl
    rw [e]
    exact ⟨rfl, rfl⟩
  · refine r_aload_n dX12_isLayerHere_10 0 rfl ?_
    refine r_ldcSW (hGT.2.2 ("PastryBenchModel", 351, "butter", 3) (List.mem_of_getElem? (i := 14) rfl)) rfl dX12_isLayerHere_11 ?_
    refine p_callV (As := [.ref (sa 3)]) (b := m) (rest := []) (w := (some (.int (iI (b2 (isW T (tokAt T p) (txS 3))))))) (st' := [.int (iI (b2 (isW T (tokAt T p) (txS 3))))]) kv_X12_isLayerHere_322 dX12_isLayerHere_14 rfl rfl (Nat.le_of_ble_eq_true rfl) (Nat.le_of_ble_eq_true rfl) (x_rv hM.1 hM.2 rfl) rfl rfl (c_X12_isWord_k hM hT hA hl5 hg hb hGT.1 (hGT.2.1 3 (by decide))) rfl (fun h2 e2 => ?_)
    rw [show h2 = h from e2]
    refine i_ifeqb dX12_isLayerHere_17 (tgt := 24) (by decide) (fun c17 => ?_) (fun c17 => ?_)
    · refine i_const (0) dX12_isLayerHere_24 ?_
      refine r_ireturn rfl (b2_nar false) dX12_isLayerHere_25 ?_
      have e : isLW T p = false := by unfold isLW; rw [c7, c17]; rfl
      rw [e]
      exact ⟨rfl, rfl⟩
    · refine i_const (1) dX12_isLayerHere_20 ?_
      refine r_goto dX12_isLayerHere_21 (tgt := 25) (by decide) ?_
      refine r_ireturn rfl (b2_nar true) dX12_isLayerHere_25 ?_
      have e : isLW T p = true := by unfold isLW; rw [c7, c17]; rfl
      rw [e]
      exact ⟨rfl, rfl⟩
set_option maxRecDepth 20000 in
set_option maxHeartbeats 1000000 in
theorem c_X12_isLayerHere_e {G : xG} {h : xH} {m : Nat} {a : MA} {r : MR} (hM : MO G h m a r) {T : List Int} {p : Nat} {e o : Int} (hT : TS r T p e o) {sa : Nat → Nat} (hGT : GT G sa) (he : 1 ≤ e ∧ e ≤ 3) : CC G MX12_isLayerHere [.ref m] h (qI (b2 false) h) := by
  show RR G MX12_isLayerHere 0 [(0, .ref m)] [] h (xm_R MX12_isLayerHere).cells (xm_R MX12_isLayerHere).slots (qI (b2 false) h)
  refine r_aload_n dX12_isLayerHere_0 0 rfl ?_
  refine r_ldcSW (hGT.2.2 ("PastryBenchModel", 349, "dough", 2) (List.mem_of_getElem? (i := 13) rfl)) rfl dX12_isLayerHere_1 ?_
  refine p_callV (As := [.ref (sa 2)]) (b := m) (rest := []) (w := (some (.int (iI (b2 false))))) (st' := [.int (iI (b2 false))]) kv_X12_isLayerHere_322 dX12_isLayerHere_4 rfl rfl (Nat.le_of_ble_eq_true rfl) (Nat.le_of_ble_eq_true rfl) (x_rv hM.1 hM.2 rfl) rfl rfl (c_X12_isWord_e hM hT (e13 he) (i13 he)) rfl (fun h1 e1 => ?_)
  rw [show h1 = h from e1]
  refine i_ifneb dX12_isLayerHere_7 (tgt := 20) (by decide) (fun c => absurd c (by decide)) (fun _ => ?_)
  refine r_aload_n dX12_isLayerHere_10 0 rfl ?_
  refine r_ldcSW (hGT.2.2 ("PastryBenchModel", 351, "butter", 3) (List.mem_of_getElem? (i := 14) rfl)) rfl dX12_isLayerHere_11 ?_
  refine p_callV (As := [.ref (sa 3)]) (b := m) (rest := []) (w := (some (.int (iI (b2 false))))) (st' := [.int (iI (b2 false))]) kv_X12_isLayerHere_322 dX12_isLayerHere_14 rfl rfl (Nat.le_of_ble_eq_true rfl) (Nat.le_of_ble_eq_true rfl) (x_rv hM.1 hM.2 rfl) rfl rfl (c_X12_isWord_e hM hT (e13 he) (i13 he)) rfl (fun h2 e2 => ?_)
  rw [show h2 = h from e2]
  refine i_ifeqb dX12_isLayerHere_17 (tgt := 24) (by decide) (fun _ => ?_) (fun c => absurd c (by decide))
  refine i_const (0) dX12_isLayerHere_24 ?_
  refine r_ireturn rfl (b2_nar false) dX12_isLayerHere_25 ?_
  exact ⟨rfl, rfl⟩
