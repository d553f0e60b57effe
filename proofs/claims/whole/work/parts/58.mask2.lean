/-! ===== the reference: reasons and forecasts ===== -/
def RK (r r' : MR) : Prop := r'.1 = r.1 ∧ r'.2.1 = r.2.1 ∧ r'.2.2.2.1 = r.2.2.2.1 ∧ r'.2.2.2.2.2.2.2.2.1 = r.2.2.2.2.2.2.2.2.1 ∧ r'.2.2.2.2.2.2.2.2.2.1 = r.2.2.2.2.2.2.2.2.2.1 ∧ r'.2.2.2.2.2.2.2.2.2.2.1 = r.2.2.2.2.2.2.2.2.2.2.1 ∧ r'.2.2.2.2.2.2.2.2.2.2.2.2.2.2.2.2.2.1 = r.2.2.2.2.2.2.2.2.2.2.2.2.2.2.2.2.2.1 ∧ r'.2.2.2.2.2.2.2.2.2.2.2.2.2.2.2.2.2.2.2 = r.2.2.2.2.2.2.2.2.2.2.2.2.2.2.2.2.2.2.2
def SCQ (G : xG) (h h' : xH) (m : Nat) (a : MA) (r : MR) (g : Nat → Int32) (c : Int) : Prop := ∃ (r' : MR) (g' : Nat → Int32), MO G h' m a r' ∧ RK r r' ∧ r'.2.2.1 = c ∧ AR G h' r.1 1456 g' ∧ EQo 6 g g' ∧ (∃ s6, SWr g' (7 + 207 * 6) s6) ∧ FRp [m, r.1] h h'
def laterV (co : Bool) (w ro : Int) : Int := if co then cooled w else drawn w ro
set_option maxRecDepth 20000 in
set_option maxHeartbeats 1000000 in
theorem c_X12_whyNotFold {G : xG} {h : xH} {m : Nat} {a : MA} {r : MR} (hM : MO G h m a r) {g : Nat → Int32} (hR : AR G h r.1 1456 g) {i : Nat} (hi : i < 6) {s : AS} (hw : SWr g (7 + 207 * i) s) (hW : WS s) {q : Int} (hq : 2 ≤ q ∧ q ≤ 4) : CC G MX12_whyNotFold [.ref m, .int (iI ((i : Int))), .int (iI q)] h (qI (obst s q) h) := by
  obtain ⟨hl1, hnz, hh4, hw0, hw9⟩ := id hW
  have hl2 := hw.len
  have hg0 := hgt_nn s.1
  have hgl := hgt_ge s.1 hnz
  have hfb := folded_b (n := (s.1.length : Int)) (q := q) (d := s.2.2.2.2.1) (by omega) hq
  have hmb := mul_b hg0 hq
  show RR G MX12_whyNotFold 0 [(0, .ref m), (1, .int (iI ((i : Int)))), (2, .int (iI q))] [] h (xm_R MX12_whyNotFold).cells (xm_R MX12_whyNotFold).slots (qI (obst s q) h)
  refine r_aload_n dX12_whyNotFold_0 0 rfl ?_
  refine r_iload_n dX12_whyNotFold_1 1 rfl ?_
  refine i_const (3) dX12_whyNotFold_2 ?_
  refine p_callV (As := [.int (iI ((i : Int))), .int (iI 3)]) (b := m) (rest := []) (w := (some (.int (iI (b2 s.2.2.2.2.2.2))))) (st' := [.int (iI (b2 s.2.2.2.2.2.2))]) kv_X12_whyNotFold_124 dX12_whyNotFold_3 rfl rfl (Nat.le_of_ble_eq_true rfl) (Nat.le_of_ble_eq_true rfl) (x_rv hM.1 hM.2 rfl) rfl rfl (c_X12_is hM hR (i := i) (w := 3) (by omega) (by decide) hw.2.2.2.1) rfl (fun h1 e1 => ?_)
  rw [show h1 = h from e1]
  refine i_ifeqb dX12_whyNotFold_6 (tgt := 11) (by decide) (fun c6 => ?_) (fun c6 => ?_)
  · refine r_aload_n dX12_whyNotFold_11 0 rfl ?_
    refine r_iload_n dX12_whyNotFold_12 1 rfl ?_
    refine i_bipush (6) (by decide) dX12_whyNotFold_13 ?_
    refine p_callV (As := [.int (iI ((i : Int))), .int (iI 6)]) (b := m) (rest := []) (w := (some (.int (iI ((s.1.length : Int)))))) (st' := [.int (iI ((s.1.length : Int)))]) kv_X12_whyNotFold_93 dX12_whyNotFold_15 rfl rfl (Nat.le_of_ble_eq_true rfl) (Nat.le_of_ble_eq_true rfl) (x_rv hM.1 hM.2 rfl) rfl rfl (c_X12_of hM hR (i := i) (w := 6) (by omega) (by decide) hw.2.2.2.2.2.2.1) rfl (fun h2 e2 => ?_)
    rw [show h2 = h from e2]
    refine r_iload_n dX12_whyNotFold_18 2 rfl ?_
    refine r_aload_n dX12_whyNotFold_19 0 rfl ?_
    refine r_iload_n dX12_whyNotFold_20 1 rfl ?_
    refine i_const (1) dX12_whyNotFold_21 ?_
    refine p_callV (As := [.int (iI ((i : Int))), .int (iI 1)]) (b := m) (rest := [.int (iI q), .int (iI ((s.1.length : Int)))]) (w := (some (.int (iI (b2 s.2.2.2.2.1))))) (st' := [.int (iI (b2 s.2.2.2.2.1)), .int (iI q), .int (iI ((s.1.length : Int)))]) kv_X12_whyNotFold_124 dX12_whyNotFold_22 rfl rfl (Nat.le_of_ble_eq_true rfl) (Nat.le_of_ble_eq_true rfl) (x_rv hM.1 hM.2 rfl) rfl rfl (c_X12_is hM hR (i := i) (w := 1) (by omega) (by decide) hw.2.1) rfl (fun h3 e3 => ?_)
    rw [show h3 = h from e3]
    refine p_callS (As := [.int (iI ((s.1.length : Int))), .int (iI q), .int (iI (b2 s.2.2.2.2.1))]) (rest := []) (w := (some (.int (iI (folded (s.1.length : Int) q s.2.2.2.2.1))))) (st' := [.int (iI (folded (s.1.length : Int) q s.2.2.2.2.1))]) kv_X12_whyNotFold_148 dX12_whyNotFold_25 rfl rfl (Nat.le_of_ble_eq_true rfl) (Nat.le_of_ble_eq_true rfl) rfl rfl (c_X12_foldedLayers (d := s.2.2.2.2.1)) rfl (fun h4 e4 => ?_)
    rw [show h4 = h from e4]
    refine i_sipush (200) (by decide) dX12_whyNotFold_28 ?_
    refine i_icmple dX12_whyNotFold_31 (tgt := 36) (by decide) (by unfold in32; omega) ⟨by decide, by decide⟩ (fun c31 => ?_) (fun c31 => ?_)
    · refine r_aload_n dX12_whyNotFold_36 0 rfl ?_
      refine r_iload_n dX12_whyNotFold_37 1 rfl ?_
      refine p_callV (As := [.int (iI ((i : Int)))]) (b := m) (rest := []) (w := (some (.int (iI (hgt s.1))))) (st' := [.int (iI (hgt s.1))]) kv_X12_whyNotFold_136 dX12_whyNotFold_38 rfl rfl (Nat.le_of_ble_eq_true rfl) (Nat.le_of_ble_eq_true rfl) (x_rv hM.1 hM.2 rfl) rfl rfl (c_X12_heightOf hM hR (by omega) hw hh4) rfl (fun h5 e5 => ?_)
      rw [show h5 = h from e5]
      refine r_iload_n dX12_whyNotFold_41 2 rfl ?_
      refine i_mul dX12_whyNotFold_42 ?_
      refine i_sipush (4000) (by decide) dX12_whyNotFold_43 ?_
      refine i_icmple dX12_whyNotFold_46 (tgt := 53) (by decide) (by unfold in32; omega) ⟨by decide, by decide⟩ (fun c46 => ?_) (fun c46 => ?_)
      · refine i_const (0) dX12_whyNotFold_53 ?_
        refine r_ireturn rfl rfl dX12_whyNotFold_54 ?_
        have e : obst s q = 0 := by unfold obst; rw [if_neg (by rw [c6]; decide), if_neg (by omega), if_neg (by omega)]
        rw [e]
        exact ⟨rfl, rfl⟩
      · refine i_const (3) dX12_whyNotFold_49 ?_
        refine r_goto dX12_whyNotFold_50 (tgt := 54) (by decide) ?_
        refine r_ireturn rfl rfl dX12_whyNotFold_54 ?_
        have e : obst s q = 3 := by unfold obst; rw [if_neg (by rw [c6]; decide), if_neg (by omega), if_pos (by omega)]
        rw [e]
        exact ⟨rfl, rfl⟩
    · refine i_const (2) dX12_whyNotFold_34 ?_
      refine r_ireturn rfl rfl dX12_whyNotFold_35 ?_
      have e : obst s q = 2 := by unfold obst; rw [if_neg (by rw [c6]; decide), if_pos (by omega)]
      rw [e]
      exact ⟨rfl, rfl⟩
  · refine i_const (1) dX12_whyNotFold_9 ?_
    refine r_ireturn rfl rfl dX12_whyNotFold_10 ?_
    have e : obst s q = 1 := by unfold obst; rw [if_pos c6]
    rw [e]
    exact ⟨rfl, rfl⟩
set_option maxRecDepth 20000 in
set_option maxHeartbeats 1000000 in
theorem c_X12_lacksParts_t {G : xG} {h : xH} {m : Nat} {a : MA} {r : MR} (hM : MO G h m a r) {g : Nat → Int32} (hR : AR G h r.1 1456 g) {n : Nat} (hn : n ≤ 6) (hc : g 3 = iI (n : Int)) {i : Nat} (hi : i < n) {s : AS} (hw : SWr g (7 + 207 * i) s) {q : Int} (hq : in32 q) (hf : isFac q = true) : CC G MX12_lacksParts [.ref m, .int (iI ((i : Int))), .int (iI q)] h (fun o h' => o = .inl (some (.int (iI 0))) ∧ MO G h' m a (r_th r 0) ∧ FRp [m] h h') := by
  show RR G MX12_lacksParts 0 [(0, .ref m), (1, .int (iI ((i : Int)))), (2, .int (iI q))] [] h (xm_R MX12_lacksParts).cells (xm_R MX12_lacksParts).slots (fun o h' => o = .inl (some (.int (iI 0))) ∧ MO G h' m a (r_th r 0) ∧ FRp [m] h h')
  refine r_aload_n dX12_lacksParts_0 0 rfl ?_
  refine r_aload_n dX12_lacksParts_1 0 rfl ?_
  refine r_iload_n dX12_lacksParts_2 1 rfl ?_
  refine p_callV (As := [.int (iI ((i : Int)))]) (b := m) (rest := [.ref m]) (w := (some (.int (iI (b2 true))))) (st' := [.int (iI (b2 true)), .ref m]) kv_X12_lacksParts_111 dX12_lacksParts_3 rfl rfl (Nat.le_of_ble_eq_true rfl) (Nat.le_of_ble_eq_true rfl) (x_rv hM.1 hM.2 rfl) rfl rfl (c_X12_isSheet_t hM hR hn hc hi) rfl (fun h1 e1 => ?_)
  rw [show h1 = h from e1]
  refine r_iload_n dX12_lacksParts_6 2 rfl ?_
  refine p_callS (As := [.int (iI q)]) (rest := [.int (iI (b2 true)), .ref m]) (w := (some (.int (iI (b2 true))))) (st' := [.int (iI (b2 true)), .int (iI (b2 true)), .ref m]) kv_X12_lacksParts_152 dX12_lacksParts_7 rfl rfl (Nat.le_of_ble_eq_true rfl) (Nat.le_of_ble_eq_true rfl) rfl rfl (c_X12_areParts_b hq hf) rfl (fun h2 e2 => ?_)
  rw [show h2 = h from e2]
  refine p_callV (As := [.int (iI (b2 true)), .int (iI (b2 true))]) (b := m) (rest := []) (w := (some (.int (iI 0)))) (st' := [.int (iI 0)]) kv_X12_lacksParts_155 dX12_lacksParts_10 rfl rfl (Nat.le_of_ble_eq_true rfl) (Nat.le_of_ble_eq_true rfl) (x_rv hM.1 hM.2 rfl) rfl rfl (c_X12_lacksBoth_tt hM) rfl (fun h3 e3 => ?_)
  obtain ⟨hM3, F3⟩ := e3
  have hR3 := hR.obj hM F3
  refine r_ireturn rfl (b2_nar false) dX12_lacksParts_13 ?_
  exact ⟨rfl, hM3, F3⟩
set_option maxRecDepth 20000 in
set_option maxHeartbeats 1000000 in
theorem c_X12_lacksParts_f {G : xG} {h : xH} {m : Nat} {a : MA} {r : MR} (hM : MO G h m a r) {g : Nat → Int32} (hR : AR G h r.1 1456 g) {n : Nat} (hn : n ≤ 6) (hc : g 3 = iI (n : Int)) {i : Nat} (hi : i < n) {s : AS} (hw : SWr g (7 + 207 * i) s) {q : Int} (hq : in32 q) (hf : isFac q = false) : CC G MX12_lacksParts [.ref m, .int (iI ((i : Int))), .int (iI q)] h (fun o h' => o = .inl (some (.int (iI 1))) ∧ MO G h' m a (r_th r 2) ∧ FRp [m] h h') := by
  show RR G MX12_lacksParts 0 [(0, .ref m), (1, .int (iI ((i : Int)))), (2, .int (iI q))] [] h (xm_R MX12_lacksParts).cells (xm_R MX12_lacksParts).slots (fun o h' => o = .inl (some (.int (iI 1))) ∧ MO G h' m a (r_th r 2) ∧ FRp [m] h h')
  refine r_aload_n dX12_lacksParts_0 0 rfl ?_
  refine r_aload_n dX12_lacksParts_1 0 rfl ?_
  refine r_iload_n dX12_lacksParts_2 1 rfl ?_
  refine p_callV (As := [.int (iI ((i : Int)))]) (b := m) (rest := [.ref m]) (w := (some (.int (iI (b2 true))))) (st' := [.int (iI (b2 true)), .ref m]) kv_X12_lacksParts_111 dX12_lacksParts_3 rfl rfl (Nat.le_of_ble_eq_true rfl) (Nat.le_of_ble_eq_true rfl) (x_rv hM.1 hM.2 rfl) rfl rfl (c_X12_isSheet_t hM hR hn hc hi) rfl (fun h1 e1 => ?_)
  rw [show h1 = h from e1]
  refine r_iload_n dX12_lacksParts_6 2 rfl ?_
  refine p_callS (As := [.int (iI q)]) (rest := [.int (iI (b2 true)), .ref m]) (w := (some (.int (iI (b2 false))))) (st' := [.int (iI (b2 false)), .int (iI (b2 true)), .ref m]) kv_X12_lacksParts_152 dX12_lacksParts_7 rfl rfl (Nat.le_of_ble_eq_true rfl) (Nat.le_of_ble_eq_true rfl) rfl rfl (c_X12_areParts_b hq hf) rfl (fun h2 e2 => ?_)
  rw [show h2 = h from e2]
  refine p_callV (As := [.int (iI (b2 true)), .int (iI (b2 false))]) (b := m) (rest := []) (w := (some (.int (iI 1)))) (st' := [.int (iI 1)]) kv_X12_lacksParts_155 dX12_lacksParts_10 rfl rfl (Nat.le_of_ble_eq_true rfl) (Nat.le_of_ble_eq_true rfl) (x_rv hM.1 hM.2 rfl) rfl rfl (c_X12_lacksBoth_tf hM) rfl (fun h3 e3 => ?_)
  obtain ⟨hM3, F3⟩ := e3
  have hR3 := hR.obj hM F3
  refine r_ireturn rfl (b2_nar true) dX12_lacksParts_13 ?_
  exact ⟨rfl, hM3, F3⟩
theorem isFac_ex (q : Int) : ∃ b, isFac q = b := ⟨_, rfl⟩
set_option maxRecDepth 20000 in
set_option maxHeartbeats 1000000 in
theorem c_X12_lacksParts_not {G : xG} {h : xH} {m : Nat} {a : MA} {r : MR} (hM : MO G h m a r) {g : Nat → Int32} (hR : AR G h r.1 1456 g) {n : Nat} (hn : n ≤ 6) (hc : g 3 = iI (n : Int)) {z : Int} (hz : in32 z) (hs : ¬ (0 ≤ z ∧ z < (n : Int))) {q : Int} (hq : in32 q) (hf : isFac q = true) : CC G MX12_lacksParts [.ref m, .int (iI z), .int (iI q)] h (fun o h' => o = .inl (some (.int (iI 1))) ∧ MO G h' m a (r_th r 1) ∧ FRp [m] h h') := by
  show RR G MX12_lacksParts 0 [(0, .ref m), (1, .int (iI z)), (2, .int (iI q))] [] h (xm_R MX12_lacksParts).cells (xm_R MX12_lacksParts).slots (fun o h' => o = .inl (some (.int (iI 1))) ∧ MO G h' m a (r_th r 1) ∧ FRp [m] h h')
  refine r_aload_n dX12_lacksParts_0 0 rfl ?_
  refine r_aload_n dX12_lacksParts_1 0 rfl ?_
  refine r_iload_n dX12_lacksParts_2 1 rfl ?_
  refine p_callV (As := [.int (iI z)]) (b := m) (rest := [.ref m]) (w := (some (.int (iI (b2 false))))) (st' := [.int (iI (b2 false)), .ref m]) kv_X12_lacksParts_111 dX12_lacksParts_3 rfl rfl (Nat.le_of_ble_eq_true rfl) (Nat.le_of_ble_eq_true rfl) (x_rv hM.1 hM.2 rfl) rfl rfl (c_X12_isSheet_f hM hR hn hc hz hs) rfl (fun h1 e1 => ?_)
  rw [show h1 = h from e1]
  refine r_iload_n dX12_lacksParts_6 2 rfl ?_
  refine p_callS (As := [.int (iI q)]) (rest := [.int (iI (b2 false)), .ref m]) (w := (some (.int (iI (b2 true))))) (st' := [.int (iI (b2 true)), .int (iI (b2 false)), .ref m]) kv_X12_lacksParts_152 dX12_lacksParts_7 rfl rfl (Nat.le_of_ble_eq_true rfl) (Nat.le_of_ble_eq_true rfl) rfl rfl (c_X12_areParts_b hq hf) rfl (fun h2 e2 => ?_)
  rw [show h2 = h from e2]
  refine p_callV (As := [.int (iI (b2 false)), .int (iI (b2 true))]) (b := m) (rest := []) (w := (some (.int (iI 1)))) (st' := [.int (iI 1)]) kv_X12_lacksParts_155 dX12_lacksParts_10 rfl rfl (Nat.le_of_ble_eq_true rfl) (Nat.le_of_ble_eq_true rfl) (x_rv hM.1 hM.2 rfl) rfl rfl (c_X12_lacksBoth_ft hM) rfl (fun h3 e3 => ?_)
  obtain ⟨hM3, F3⟩ := e3
  have hR3 := hR.obj hM F3
  refine r_ireturn rfl (b2_nar true) dX12_lacksParts_13 ?_
  exact ⟨rfl, hM3, F3⟩
set_option maxRecDepth 20000 in
set_option maxHeartbeats 1000000 in
theorem c_X12_lacksParts_nof {G : xG} {h : xH} {m : Nat} {a : MA} {r : MR} (hM : MO G h m a r) {g : Nat → Int32} (hR : AR G h r.1 1456 g) {n : Nat} (hn : n ≤ 6) (hc : g 3 = iI (n : Int)) {z : Int} (hz : in32 z) (hs : ¬ (0 ≤ z ∧ z < (n : Int))) {q : Int} (hq : in32 q) (hf : isFac q = false) : CC G MX12_lacksParts [.ref m, .int (iI z), .int (iI q)] h (fun o h' => o = .inl (some (.int (iI 1))) ∧ MO G h' m a (r_th r 1) ∧ FRp [m] h h') := by
  show RR G MX12_lacksParts 0 [(0, .ref m), (1, .int (iI z)), (2, .int (iI q))] [] h (xm_R MX12_lacksParts).cells (xm_R MX12_lacksParts).slots (fun o h' => o = .inl (some (.int (iI 1))) ∧ MO G h' m a (r_th r 1) ∧ FRp [m] h h')
  refine r_aload_n dX12_lacksParts_0 0 rfl ?_
  refine r_aload_n dX12_lacksParts_1 0 rfl ?_
  refine r_iload_n dX12_lacksParts_2 1 rfl ?_
  refine p_callV (As := [.int (iI z)]) (b := m) (rest := [.ref m]) (w := (some (.int (iI (b2 false))))) (st' := [.int (iI (b2 false)), .ref m]) kv_X12_lacksParts_111 dX12_lacksParts_3 rfl rfl (Nat.le_of_ble_eq_true rfl) (Nat.le_of_ble_eq_true rfl) (x_rv hM.1 hM.2 rfl) rfl rfl (c_X12_isSheet_f hM hR hn hc hz hs) rfl (fun h1 e1 => ?_)
  rw [show h1 = h from e1]
  refine r_iload_n dX12_lacksParts_6 2 rfl ?_
  refine p_callS (As := [.int (iI q)]) (rest := [.int (iI (b2 false)), .ref m]) (w := (some (.int (iI (b2 false))))) (st' := [.int (iI (b2 false)), .int (iI (b2 false)), .ref m]) kv_X12_lacksParts_152 dX12_lacksParts_7 rfl rfl (Nat.le_of_ble_eq_true rfl) (Nat.le_of_ble_eq_true rfl) rfl rfl (c_X12_areParts_b hq hf) rfl (fun h2 e2 => ?_)
  rw [show h2 = h from e2]
  refine p_callV (As := [.int (iI (b2 false)), .int (iI (b2 false))]) (b := m) (rest := []) (w := (some (.int (iI 1)))) (st' := [.int (iI 1)]) kv_X12_lacksParts_155 dX12_lacksParts_10 rfl rfl (Nat.le_of_ble_eq_true rfl) (Nat.le_of_ble_eq_true rfl) (x_rv hM.1 hM.2 rfl) rfl rfl (c_X12_lacksBoth_ff hM) rfl (fun h3 e3 => ?_)
  obtain ⟨hM3, F3⟩ := e3
  have hR3 := hR.obj hM F3
  refine r_ireturn rfl (b2_nar true) dX12_lacksParts_13 ?_
  exact ⟨rfl, hM3, F3⟩
theorem c_X12_lacksParts_no {G : xG} {h : xH} {m : Nat} {a : MA} {r : MR} (hM : MO G h m a r) {g : Nat → Int32} (hR : AR G h r.1 1456 g) {n : Nat} (hn : n ≤ 6) (hc : g 3 = iI (n : Int)) {z : Int} (hz : in32 z) (hs : ¬ (0 ≤ z ∧ z < (n : Int)))  {q : Int} (hq : in32 q) : CC G MX12_lacksParts [.ref m, .int (iI z), .int (iI q)] h (fun o h' => o = .inl (some (.int (iI 1))) ∧ MO G h' m a (r_th r 1) ∧ FRp [m] h h') := by
  cases hf : isFac q
  · exact c_X12_lacksParts_nof hM hR hn hc hz hs hq hf
  · exact c_X12_lacksParts_not hM hR hn hc hz hs hq hf
set_option maxRecDepth 20000 in
set_option maxHeartbeats 1000000 in
theorem c_X12_foldObstacle_ok {G : xG} {h : xH} {m : Nat} {a : MA} {r : MR} (hM : MO G h m a r) {g : Nat → Int32} (hR : AR G h r.1 1456 g) {n : Nat} (hn : n ≤ 6) (hc : g 3 = iI (n : Int)) {i : Nat} (hi : i < n) {s : AS} (hw : SWr g (7 + 207 * i) s) (hW : WS s) {q : Int} (hqi : in32 q) (hf : isFac q = true) : CC G MX12_foldObstacle [.ref m, .int (iI ((i : Int))), .int (iI q)] h (fun o h' => o = .inl (some (.int (iI (obst s q)))) ∧ MO G h' m a (r_th r 0) ∧ FRp [m] h h') := by
  have hq := fac_t hf
  obtain ⟨hl1, hnz, hh4, hw0, hw9⟩ := id hW
  have hl2 := hw.len
  have hg0 := hgt_nn s.1
  have hgl := hgt_ge s.1 hnz
  have hfb := folded_b (n := (s.1.length : Int)) (q := q) (d := s.2.2.2.2.1) (by omega) hq
  have hmb := mul_b hg0 hq
  show RR G MX12_foldObstacle 0 [(0, .ref m), (1, .int (iI ((i : Int)))), (2, .int (iI q))] [] h (xm_R MX12_foldObstacle).cells (xm_R MX12_foldObstacle).slots (fun o h' => o = .inl (some (.int (iI (obst s q)))) ∧ MO G h' m a (r_th r 0) ∧ FRp [m] h h')
  refine r_aload_n dX12_foldObstacle_0 0 rfl ?_
  refine r_iload_n dX12_foldObstacle_1 1 rfl ?_
  refine r_iload_n dX12_foldObstacle_2 2 rfl ?_
  refine p_callV (As := [.int (iI ((i : Int))), .int (iI q)]) (b := m) (rest := []) (w := (some (.int (iI 0)))) (st' := [.int (iI 0)]) kv_X12_foldObstacle_159 dX12_foldObstacle_3 rfl rfl (Nat.le_of_ble_eq_true rfl) (Nat.le_of_ble_eq_true rfl) (x_rv hM.1 hM.2 rfl) rfl rfl (c_X12_lacksParts_t hM hR hn hc hi hw hqi hf) rfl (fun h1 e1 => ?_)
  obtain ⟨hM1, F1⟩ := e1
  have hR1 := hR.obj hM F1
  refine i_ifeq dX12_foldObstacle_6 (tgt := 13) (by decide) ⟨by decide, by decide⟩ (fun _ => ?_) (fun c => absurd c (by decide))
  refine r_aload_n dX12_foldObstacle_13 0 rfl ?_
  refine r_iload_n dX12_foldObstacle_14 1 rfl ?_
  refine r_iload_n dX12_foldObstacle_15 2 rfl ?_
  refine p_callV (As := [.int (iI ((i : Int))), .int (iI q)]) (b := m) (rest := []) (w := (some (.int (iI (obst s q))))) (st' := [.int (iI (obst s q))]) kv_X12_foldObstacle_162 dX12_foldObstacle_16 rfl rfl (Nat.le_of_ble_eq_true rfl) (Nat.le_of_ble_eq_true rfl) (x_rv hM1.1 hM1.2 rfl) rfl rfl (c_X12_whyNotFold hM1 hR1 (by omega) hw hW hq) rfl (fun h2 e2 => ?_)
  rw [show h2 = h1 from e2]
  refine r_ireturn rfl rfl dX12_foldObstacle_19 ?_
  exact ⟨rfl, hM1, F1⟩
set_option maxRecDepth 20000 in
set_option maxHeartbeats 1000000 in
theorem c_X12_foldObstacle_bad {G : xG} {h : xH} {m : Nat} {a : MA} {r : MR} (hM : MO G h m a r) {g : Nat → Int32} (hR : AR G h r.1 1456 g) {n : Nat} (hn : n ≤ 6) (hc : g 3 = iI (n : Int)) {i : Nat} (hi : i < n) {s : AS} (hw : SWr g (7 + 207 * i) s) {q : Int} (hq : in32 q) (hf : isFac q = false) : CC G MX12_foldObstacle [.ref m, .int (iI ((i : Int))), .int (iI q)] h (fun o h' => o = .inl (some (.int (iI 0))) ∧ MO G h' m a (r_th r 2) ∧ FRp [m] h h') := by
  show RR G MX12_foldObstacle 0 [(0, .ref m), (1, .int (iI ((i : Int)))), (2, .int (iI q))] [] h (xm_R MX12_foldObstacle).cells (xm_R MX12_foldObstacle).slots (fun o h' => o = .inl (some (.int (iI 0))) ∧ MO G h' m a (r_th r 2) ∧ FRp [m] h h')
  refine r_aload_n dX12_foldObstacle_0 0 rfl ?_
  refine r_iload_n dX12_foldObstacle_1 1 rfl ?_
  refine r_iload_n dX12_foldObstacle_2 2 rfl ?_
  refine p_callV (As := [.int (iI ((i : Int))), .int (iI q)]) (b := m) (rest := []) (w := (some (.int (iI 1)))) (st' := [.int (iI 1)]) kv_X12_foldObstacle_159 dX12_foldObstacle_3 rfl rfl (Nat.le_of_ble_eq_true rfl) (Nat.le_of_ble_eq_true rfl) (x_rv hM.1 hM.2 rfl) rfl rfl (c_X12_lacksParts_f hM hR hn hc hi hw hq hf) rfl (fun h1 e1 => ?_)
  obtain ⟨hM1, F1⟩ := e1
  have hR1 := hR.obj hM F1
  refine i_ifeq dX12_foldObstacle_6 (tgt := 13) (by decide) ⟨by decide, by decide⟩ (fun c => absurd c (by decide)) (fun _ => ?_)
  refine i_const (0) dX12_foldObstacle_9 ?_
  refine r_goto dX12_foldObstacle_10 (tgt := 19) (by decide) ?_
  refine r_ireturn rfl rfl dX12_foldObstacle_19 ?_
  exact ⟨rfl, hM1, F1⟩
set_option maxRecDepth 20000 in
set_option maxHeartbeats 1000000 in
theorem c_X12_foldObstacle_no {G : xG} {h : xH} {m : Nat} {a : MA} {r : MR} (hM : MO G h m a r) {g : Nat → Int32} (hR : AR G h r.1 1456 g) {n : Nat} (hn : n ≤ 6) (hc : g 3 = iI (n : Int)) {z : Int} (hz : in32 z) (hs : ¬ (0 ≤ z ∧ z < (n : Int))) {q : Int} (hq : in32 q) : CC G MX12_foldObstacle [.ref m, .int (iI z), .int (iI q)] h (fun o h' => o = .inl (some (.int (iI 0))) ∧ MO G h' m a (r_th r 1) ∧ FRp [m] h h') := by
  show RR G MX12_foldObstacle 0 [(0, .ref m), (1, .int (iI z)), (2, .int (iI q))] [] h (xm_R MX12_foldObstacle).cells (xm_R MX12_foldObstacle).slots (fun o h' => o = .inl (some (.int (iI 0))) ∧ MO G h' m a (r_th r 1) ∧ FRp [m] h h')
  refine r_aload_n dX12_foldObstacle_0 0 rfl ?_
  refine r_iload_n dX12_foldObstacle_1 1 rfl ?_
  refine r_iload_n dX12_foldObstacle_2 2 rfl ?_
  refine p_callV (As := [.int (iI z), .int (iI q)]) (b := m) (rest := []) (w := (some (.int (iI 1)))) (st' := [.int (iI 1)]) kv_X12_foldObstacle_159 dX12_foldObstacle_3 rfl rfl (Nat.le_of_ble_eq_true rfl) (Nat.le_of_ble_eq_true rfl) (x_rv hM.1 hM.2 rfl) rfl rfl (c_X12_lacksParts_no hM hR hn hc hz hs hq) rfl (fun h1 e1 => ?_)
  obtain ⟨hM1, F1⟩ := e1
  have hR1 := hR.obj hM F1
  refine i_ifeq dX12_foldObstacle_6 (tgt := 13) (by decide) ⟨by decide, by decide⟩ (fun c => absurd c (by decide)) (fun _ => ?_)
  refine i_const (0) dX12_foldObstacle_9 ?_
  refine r_goto dX12_foldObstacle_10 (tgt := 19) (by decide) ?_
  refine r_ireturn rfl rfl dX12_foldObstacle_19 ?_
  exact ⟨rfl, hM1, F1⟩
set_option maxRecDepth 20000 in
set_option maxHeartbeats 1000000 in
theorem c_X12_layersAfterFold_ok {G : xG} {h : xH} {m : Nat} {a : MA} {r : MR} (hM : MO G h m a r) {g : Nat → Int32} (hR : AR G h r.1 1456 g) {n : Nat} (hn : n ≤ 6) (hc : g 3 = iI (n : Int)) {i : Nat} (hi : i < n) {s : AS} (hw : SWr g (7 + 207 * i) s) (hW : WS s) {q : Int} (hqi : in32 q) (hf : isFac q = true) : CC G MX12_layersAfterFold [.ref m, .int (iI ((i : Int))), .int (iI q)] h (fun o h' => o = .inl (some (.int (iI (lafS s q)))) ∧ MO G h' m a (r_th r 0) ∧ FRp [m] h h') := by
  have hq := fac_t hf
  obtain ⟨hl1, hnz, hh4, hw0, hw9⟩ := id hW
  have hl2 := hw.len
  have hg0 := hgt_nn s.1
  have hgl := hgt_ge s.1 hnz
  have hfb := folded_b (n := (s.1.length : Int)) (q := q) (d := s.2.2.2.2.1) (by omega) hq
  have hmb := mul_b hg0 hq
  have hob := obst_b s q
  unfold in32 at hob
  show RR G MX12_layersAfterFold 0 [(0, .ref m), (1, .int (iI ((i : Int)))), (2, .int (iI q))] [] h (xm_R MX12_layersAfterFold).cells (xm_R MX12_layersAfterFold).slots (fun o h' => o = .inl (some (.int (iI (lafS s q)))) ∧ MO G h' m a (r_th r 0) ∧ FRp [m] h h')
  refine r_aload_n dX12_layersAfterFold_0 0 rfl ?_
  refine r_iload_n dX12_layersAfterFold_1 1 rfl ?_
  refine r_iload_n dX12_layersAfterFold_2 2 rfl ?_
  refine p_callV (As := [.int (iI ((i : Int))), .int (iI q)]) (b := m) (rest := []) (w := (some (.int (iI 0)))) (st' := [.int (iI 0)]) kv_X12_layersAfterFold_159 dX12_layersAfterFold_3 rfl rfl (Nat.le_of_ble_eq_true rfl) (Nat.le_of_ble_eq_true rfl) (x_rv hM.1 hM.2 rfl) rfl rfl (c_X12_lacksParts_t hM hR hn hc hi hw hqi hf) rfl (fun h1 e1 => ?_)
  obtain ⟨hM1, F1⟩ := e1
  have hR1 := hR.obj hM F1
  refine i_ifeq dX12_layersAfterFold_6 (tgt := 11) (by decide) ⟨by decide, by decide⟩ (fun _ => ?_) (fun c => absurd c (by decide))
  refine r_aload_n dX12_layersAfterFold_11 0 rfl ?_
  refine r_iload_n dX12_layersAfterFold_12 1 rfl ?_
  refine r_iload_n dX12_layersAfterFold_13 2 rfl ?_
  refine p_callV (As := [.int (iI ((i : Int))), .int (iI q)]) (b := m) (rest := []) (w := (some (.int (iI (obst s q))))) (st' := [.int (iI (obst s q))]) kv_X12_layersAfterFold_162 dX12_layersAfterFold_14 rfl rfl (Nat.le_of_ble_eq_true rfl) (Nat.le_of_ble_eq_true rfl) (x_rv hM1.1 hM1.2 rfl) rfl rfl (c_X12_whyNotFold hM1 hR1 (by omega) hw hW hq) rfl (fun h2 e2 => ?_)
  rw [show h2 = h1 from e2]
  refine i_ifne dX12_layersAfterFold_17 (tgt := 40) (by decide) (by unfold in32; omega) (fun c17 => ?_) (fun c17 => ?_)
  · refine i_const (-1) dX12_layersAfterFold_40 ?_
    refine r_ireturn rfl rfl dX12_layersAfterFold_41 ?_
    have e : lafS s q = (-1) := by unfold lafS; rw [if_neg c17]
    rw [e]
    exact ⟨rfl, hM1, F1⟩
  · refine r_aload_n dX12_layersAfterFold_20 0 rfl ?_
    refine r_iload_n dX12_layersAfterFold_21 1 rfl ?_
    refine i_bipush (6) (by decide) dX12_layersAfterFold_22 ?_
    refine p_callV (As := [.int (iI ((i : Int))), .int (iI 6)]) (b := m) (rest := []) (w := (some (.int (iI ((s.1.length : Int)))))) (st' := [.int (iI ((s.1.length : Int)))]) kv_X12_layersAfterFold_93 dX12_layersAfterFold_24 rfl rfl (Nat.le_of_ble_eq_true rfl) (Nat.le_of_ble_eq_true rfl) (x_rv hM1.1 hM1.2 rfl) rfl rfl (c_X12_of hM1 hR1 (i := i) (w := 6) (by omega) (by decide) hw.2.2.2.2.2.2.1) rfl (fun h3 e3 => ?_)
    rw [show h3 = h1 from e3]
    refine r_iload_n dX12_layersAfterFold_27 2 rfl ?_
    refine r_aload_n dX12_layersAfterFold_28 0 rfl ?_
    refine r_iload_n dX12_layersAfterFold_29 1 rfl ?_
    refine i_const (1) dX12_layersAfterFold_30 ?_
    refine p_callV (As := [.int (iI ((i : Int))), .int (iI 1)]) (b := m) (rest := [.int (iI q), .int (iI ((s.1.length : Int)))]) (w := (some (.int (iI (b2 s.2.2.2.2.1))))) (st' := [.int (iI (b2 s.2.2.2.2.1)), .int (iI q), .int (iI ((s.1.length : Int)))]) kv_X12_layersAfterFold_124 dX12_layersAfterFold_31 rfl rfl (Nat.le_of_ble_eq_true rfl) (Nat.le_of_ble_eq_true rfl) (x_rv hM1.1 hM1.2 rfl) rfl rfl (c_X12_is hM1 hR1 (i := i) (w := 1) (by omega) (by decide) hw.2.1) rfl (fun h4 e4 => ?_)
    rw [show h4 = h1 from e4]
    refine p_callS (As := [.int (iI ((s.1.length : Int))), .int (iI q), .int (iI (b2 s.2.2.2.2.1))]) (rest := []) (w := (some (.int (iI (folded (s.1.length : Int) q s.2.2.2.2.1))))) (st' := [.int (iI (folded (s.1.length : Int) q s.2.2.2.2.1))]) kv_X12_layersAfterFold_148 dX12_layersAfterFold_34 rfl rfl (Nat.le_of_ble_eq_true rfl) (Nat.le_of_ble_eq_true rfl) rfl rfl (c_X12_foldedLayers (d := s.2.2.2.2.1)) rfl (fun h5 e5 => ?_)
    rw [show h5 = h1 from e5]
    refine r_goto dX12_layersAfterFold_37 (tgt := 41) (by decide) ?_
    refine r_ireturn rfl rfl dX12_layersAfterFold_41 ?_
    have e : lafS s q = folded (s.1.length : Int) q s.2.2.2.2.1 := by unfold lafS; rw [if_pos c17]
    rw [e]
    exact ⟨rfl, hM1, F1⟩
set_option maxRecDepth 20000 in
set_option maxHeartbeats 1000000 in
theorem c_X12_layersAfterFold_bad {G : xG} {h : xH} {m : Nat} {a : MA} {r : MR} (hM : MO G h m a r) {g : Nat → Int32} (hR : AR G h r.1 1456 g) {n : Nat} (hn : n ≤ 6) (hc : g 3 = iI (n : Int)) {i : Nat} (hi : i < n) {s : AS} (hw : SWr g (7 + 207 * i) s) {q : Int} (hq : in32 q) (hf : isFac q = false) : CC G MX12_layersAfterFold [.ref m, .int (iI ((i : Int))), .int (iI q)] h (fun o h' => o = .inl (some (.int (iI 0))) ∧ MO G h' m a (r_th r 2) ∧ FRp [m] h h') := by
  show RR G MX12_layersAfterFold 0 [(0, .ref m), (1, .int (iI ((i : Int)))), (2, .int (iI q))] [] h (xm_R MX12_layersAfterFold).cells (xm_R MX12_layersAfterFold).slots (fun o h' => o = .inl (some (.int (iI 0))) ∧ MO G h' m a (r_th r 2) ∧ FRp [m] h h')
  refine r_aload_n dX12_layersAfterFold_0 0 rfl ?_
  refine r_iload_n dX12_layersAfterFold_1 1 rfl ?_
  refine r_iload_n dX12_layersAfterFold_2 2 rfl ?_
  refine p_callV (As := [.int (iI ((i : Int))), .int (iI q)]) (b := m) (rest := []) (w := (some (.int (iI 1)))) (st' := [.int (iI 1)]) kv_X12_layersAfterFold_159 dX12_layersAfterFold_3 rfl rfl (Nat.le_of_ble_eq_true rfl) (Nat.le_of_ble_eq_true rfl) (x_rv hM.1 hM.2 rfl) rfl rfl (c_X12_lacksParts_f hM hR hn hc hi hw hq hf) rfl (fun h1 e1 => ?_)
  obtain ⟨hM1, F1⟩ := e1
  have hR1 := hR.obj hM F1
  refine i_ifeq dX12_layersAfterFold_6 (tgt := 11) (by decide) ⟨by decide, by decide⟩ (fun c => absurd c (by decide)) (fun _ => ?_)
  refine i_const (0) dX12_layersAfterFold_9 ?_
  refine r_ireturn rfl rfl dX12_layersAfterFold_10 ?_
  exact ⟨rfl, hM1, F1⟩
set_option maxRecDepth 20000 in
set_option maxHeartbeats 1000000 in
theorem c_X12_layersAfterFold_no {G : xG} {h : xH} {m : Nat} {a : MA} {r : MR} (hM : MO G h m a r) {g : Nat → Int32} (hR : AR G h r.1 1456 g) {n : Nat} (hn : n ≤ 6) (hc : g 3 = iI (n : Int)) {z : Int} (hz : in32 z) (hs : ¬ (0 ≤ z ∧ z < (n : Int))) {q : Int} (hq : in32 q) : CC G MX12_layersAfterFold [.ref m, .int (iI z), .int (iI q)] h (fun o h' => o = .inl (some (.int (iI 0))) ∧ MO G h' m a (r_th r 1) ∧ FRp [m] h h') := by
  show RR G MX12_layersAfterFold 0 [(0, .ref m), (1, .int (iI z)), (2, .int (iI q))] [] h (xm_R MX12_layersAfterFold).cells (xm_R MX12_layersAfterFold).slots (fun o h' => o = .inl (some (.int (iI 0))) ∧ MO G h' m a (r_th r 1) ∧ FRp [m] h h')
  refine r_aload_n dX12_layersAfterFold_0 0 rfl ?_
  refine r_iload_n dX12_layersAfterFold_1 1 rfl ?_
  refine r_iload_n dX12_layersAfterFold_2 2 rfl ?_
  refine p_callV (As := [.int (iI z), .int (iI q)]) (b := m) (rest := []) (w := (some (.int (iI 1)))) (st' := [.int (iI 1)]) kv_X12_layersAfterFold_159 dX12_layersAfterFold_3 rfl rfl (Nat.le_of_ble_eq_true rfl) (Nat.le_of_ble_eq_true rfl) (x_rv hM.1 hM.2 rfl) rfl rfl (c_X12_lacksParts_no hM hR hn hc hz hs hq) rfl (fun h1 e1 => ?_)
  obtain ⟨hM1, F1⟩ := e1
  have hR1 := hR.obj hM F1
  refine i_ifeq dX12_layersAfterFold_6 (tgt := 11) (by decide) ⟨by decide, by decide⟩ (fun c => absurd c (by decide)) (fun _ => ?_)
  refine i_const (0) dX12_layersAfterFold_9 ?_
  refine r_ireturn rfl rfl dX12_layersAfterFold_10 ?_
  exact ⟨rfl, hM1, F1⟩
set_option maxRecDepth 20000 in
set_option maxHeartbeats 1000000 in
theorem c_X12_foldsPossible_ok {G : xG} {h : xH} {m : Nat} {a : MA} {r : MR} (hM : MO G h m a r) {g : Nat → Int32} (hR : AR G h r.1 1456 g) {n : Nat} (hn : n ≤ 6) (hc : g 3 = iI (n : Int)) {i : Nat} (hi : i < n) {s : AS} (hw : SWr g (7 + 207 * i) s) (hW : WS s) {q : Int} (hqi : in32 q) (hf : isFac q = true) : CC G MX12_foldsPossible [.ref m, .int (iI ((i : Int))), .int (iI q)] h (fun o h' => o = .inl (some (.int (iI (fps s q)))) ∧ MO G h' m a (r_th r 0) ∧ FRp [m] h h') := by
  have hq := fac_t hf
  obtain ⟨hl1, hnz, hh4, hw0, hw9⟩ := id hW
  have hl2 := hw.len
  have hg0 := hgt_nn s.1
  have hgl := hgt_ge s.1 hnz
  have hfb := folded_b (n := (s.1.length : Int)) (q := q) (d := s.2.2.2.2.1) (by omega) hq
  have hmb := mul_b hg0 hq
  show RR G MX12_foldsPossible 0 [(0, .ref m), (1, .int (iI ((i : Int)))), (2, .int (iI q))] [] h (xm_R MX12_foldsPossible).cells (xm_R MX12_foldsPossible).slots (fun o h' => o = .inl (some (.int (iI (fps s q)))) ∧ MO G h' m a (r_th r 0) ∧ FRp [m] h h')
  refine r_aload_n dX12_foldsPossible_0 0 rfl ?_
  refine r_iload_n dX12_foldsPossible_1 1 rfl ?_
  refine r_iload_n dX12_foldsPossible_2 2 rfl ?_
  refine p_callV (As := [.int (iI ((i : Int))), .int (iI q)]) (b := m) (rest := []) (w := (some (.int (iI 0)))) (st' := [.int (iI 0)]) kv_X12_foldsPossible_159 dX12_foldsPossible_3 rfl rfl (Nat.le_of_ble_eq_true rfl) (Nat.le_of_ble_eq_true rfl) (x_rv hM.1 hM.2 rfl) rfl rfl (c_X12_lacksParts_t hM hR hn hc hi hw hqi hf) rfl (fun h1 e1 => ?_)
  obtain ⟨hM1, F1⟩ := e1
  have hR1 := hR.obj hM F1
  refine i_ifne dX12_foldsPossible_6 (tgt := 18) (by decide) ⟨by decide, by decide⟩ (fun c => absurd c (by decide)) (fun _ => ?_)
  refine r_aload_n dX12_foldsPossible_9 0 rfl ?_
  refine r_iload_n dX12_foldsPossible_10 1 rfl ?_
  refine i_const (3) dX12_foldsPossible_11 ?_
  refine p_callV (As := [.int (iI ((i : Int))), .int (iI 3)]) (b := m) (rest := []) (w := (some (.int (iI (b2 s.2.2.2.2.2.2))))) (st' := [.int (iI (b2 s.2.2.2.2.2.2))]) kv_X12_foldsPossible_124 dX12_foldsPossible_12 rfl rfl (Nat.le_of_ble_eq_true rfl) (Nat.le_of_ble_eq_true rfl) (x_rv hM1.1 hM1.2 rfl) rfl rfl (c_X12_is hM1 hR1 (i := i) (w := 3) (by omega) (by decide) hw.2.2.2.1) rfl (fun h2 e2 => ?_)
  rw [show h2 = h1 from e2]
  refine i_ifeqb dX12_foldsPossible_15 (tgt := 20) (by decide) (fun c15 => ?_) (fun c15 => ?_)
  · refine i_const (0) dX12_foldsPossible_20 ?_
    refine r_istore_n (ls' := [(0, .ref m), (1, .int (iI ((i : Int)))), (2, .int (iI q)), (3, .int (iI 0))]) dX12_foldsPossible_21 (by decide) rfl ?_
    refine r_aload_n dX12_foldsPossible_22 0 rfl ?_
    refine r_iload_n dX12_foldsPossible_23 1 rfl ?_
    refine i_bipush (6) (by decide) dX12_foldsPossible_24 ?_
    refine p_callV (As := [.int (iI ((i : Int))), .int (iI 6)]) (b := m) (rest := []) (w := (some (.int (iI ((s.1.length : Int)))))) (st' := [.int (iI ((s.1.length : Int)))]) kv_X12_foldsPossible_93 dX12_foldsPossible_26 rfl rfl (Nat.le_of_ble_eq_true rfl) (Nat.le_of_ble_eq_true rfl) (x_rv hM1.1 hM1.2 rfl) rfl rfl (c_X12_of hM1 hR1 (i := i) (w := 6) (by omega) (by decide) hw.2.2.2.2.2.2.1) rfl (fun h3 e3 => ?_)
    rw [show h3 = h1 from e3]
    refine r_iload_n dX12_foldsPossible_29 2 rfl ?_
    refine r_aload_n dX12_foldsPossible_30 0 rfl ?_
    refine r_iload_n dX12_foldsPossible_31 1 rfl ?_
    refine i_const (1) dX12_foldsPossible_32 ?_
    refine p_callV (As := [.int (iI ((i : Int))), .int (iI 1)]) (b := m) (rest := [.int (iI q), .int (iI ((s.1.length : Int)))]) (w := (some (.int (iI (b2 s.2.2.2.2.1))))) (st' := [.int (iI (b2 s.2.2.2.2.1)), .int (iI q), .int (iI ((s.1.length : Int)))]) kv_X12_foldsPossible_124 dX12_foldsPossible_33 rfl rfl (Nat.le_of_ble_eq_true rfl) (Nat.le_of_ble_eq_true rfl) (x_rv hM1.1 hM1.2 rfl) rfl rfl (c_X12_is hM1 hR1 (i := i) (w := 1) (by omega) (by decide) hw.2.1) rfl (fun h4 e4 => ?_)
    rw [show h4 = h1 from e4]
    refine p_callS (As := [.int (iI ((s.1.length : Int))), .int (iI q), .int (iI (b2 s.2.2.2.2.1))]) (rest := []) (w := (some (.int (iI (folded (s.1.length : Int) q s.2.2.2.2.1))))) (st' := [.int (iI (folded (s.1.length : Int) q s.2.2.2.2.1))]) kv_X12_foldsPossible_148 dX12_foldsPossible_36 rfl rfl (Nat.le_of_ble_eq_true rfl) (Nat.le_of_ble_eq_true rfl) rfl rfl (c_X12_foldedLayers (d := s.2.2.2.2.1)) rfl (fun h5 e5 => ?_)
    rw [show h5 = h1 from e5]
    refine r_istore (ls' := [(0, .ref m), (1, .int (iI ((i : Int)))), (2, .int (iI q)), (3, .int (iI 0)), (4, .int (iI (folded (s.1.length : Int) q s.2.2.2.2.1)))]) dX12_foldsPossible_39 (by decide) rfl ?_
    refine r_aload_n dX12_foldsPossible_41 0 rfl ?_
    refine r_iload_n dX12_foldsPossible_42 1 rfl ?_
    refine p_callV (As := [.int (iI ((i : Int)))]) (b := m) (rest := []) (w := (some (.int (iI (hgt s.1))))) (st' := [.int (iI (hgt s.1))]) kv_X12_foldsPossible_136 dX12_foldsPossible_43 rfl rfl (Nat.le_of_ble_eq_true rfl) (Nat.le_of_ble_eq_true rfl) (x_rv hM1.1 hM1.2 rfl) rfl rfl (c_X12_heightOf hM1 hR1 (by omega) hw hh4) rfl (fun h6 e6 => ?_)
    rw [show h6 = h1 from e6]
    refine r_iload_n dX12_foldsPossible_46 2 rfl ?_
    refine i_mul dX12_foldsPossible_47 ?_
    refine r_istore (ls' := [(0, .ref m), (1, .int (iI ((i : Int)))), (2, .int (iI q)), (3, .int (iI 0)), (4, .int (iI (folded (s.1.length : Int) q s.2.2.2.2.1))), (5, .int (iI ((hgt s.1) * q)))]) dX12_foldsPossible_48 (by decide) rfl ?_
    have L : ∀ (n9 : Nat) (c u z : Int), 1 ≤ c ∧ c ≤ 100000 → 1 ≤ u ∧ u ≤ 16000 → 0 ≤ z ∧ z + 1 ≤ u → 4001 ≤ u + n9 → RR G MX12_foldsPossible 50 [(0, .ref m), (1, .int (iI ((i : Int)))), (2, .int (iI q)), (3, .int (iI z)), (4, .int (iI c)), (5, .int (iI u))] [] h1 (xm_R MX12_foldsPossible).cells (xm_R MX12_foldsPossible).slots (fun o h' => o = .inl (some (.int (iI (z + fpos q n9 c u)))) ∧ MO G h' m a (r_th r 0) ∧ FRp [m] h h') := by
      intro n9
      induction n9 with
      | zero =>
        intro c u z hc1 hg1 hz1 hn1
        refine r_iload dX12_foldsPossible_50 4 rfl ?_
        refine i_sipush (200) (by decide) dX12_foldsPossible_52 ?_
        refine i_icmpgt dX12_foldsPossible_55 (tgt := 87) (by decide) (by unfold in32; omega) ⟨by decide, by decide⟩ (fun c55 => ?_) (fun c55 => ?_)
        · refine r_iload_n dX12_foldsPossible_87 3 rfl ?_
          refine r_ireturn rfl rfl dX12_foldsPossible_88 ?_
          have e : z + fpos q 0 c u = z := by rw [fpos]; omega
          rw [e]
          exact ⟨rfl, hM1, F1⟩
        · refine r_iload dX12_foldsPossible_58 5 rfl ?_
          refine i_sipush (4000) (by decide) dX12_foldsPossible_60 ?_
          refine i_icmpgt dX12_foldsPossible_63 (tgt := 87) (by decide) (by unfold in32; omega) ⟨by decide, by decide⟩ (fun c63 => ?_) (fun c63 => ?_)
          · refine r_iload_n dX12_foldsPossible_87 3 rfl ?_
            refine r_ireturn rfl rfl dX12_foldsPossible_88 ?_
            have e : z + fpos q 0 c u = z := by rw [fpos]; omega
            rw [e]
            exact ⟨rfl, hM1, F1⟩
          · refine i_iinc (ls' := [(0, .ref m), (1, .int (iI ((i : Int)))), (2, .int (iI q)), (3, .int (iI (z + 1))), (4, .int (iI c)), (5, .int (iI u))]) (1) (v := z + 1) dX12_foldsPossible_66 3 rfl (by omega) (by decide) rfl ?_
            refine r_iload dX12_foldsPossible_69 4 rfl ?_
            refine r_iload_n dX12_foldsPossible_71 2 rfl ?_
            refine i_const (0) dX12_foldsPossible_72 ?_
            refine p_callS (As := [.int (iI c), .int (iI q), .int (iI 0)]) (rest := []) (w := (some (.int (iI (folded c q false))))) (st' := [.int (iI (folded c q false))]) kv_X12_foldsPossible_148 dX12_foldsPossible_73 rfl rfl (Nat.le_of_ble_eq_true rfl) (Nat.le_of_ble_eq_true rfl) rfl rfl (c_X12_foldedLayers (d := false)) rfl (fun h51 e51 => ?_)
            rw [show h51 = h1 from e51]
            refine r_istore (ls' := [(0, .ref m), (1, .int (iI ((i : Int)))), (2, .int (iI q)), (3, .int (iI (z + 1))), (4, .int (iI (folded c q false))), (5, .int (iI u))]) dX12_foldsPossible_76 (by decide) rfl ?_
            refine r_iload dX12_foldsPossible_78 5 rfl ?_
            refine r_iload_n dX12_foldsPossible_80 2 rfl ?_
            refine i_mul dX12_foldsPossible_81 ?_
            refine r_istore (ls' := [(0, .ref m), (1, .int (iI ((i : Int)))), (2, .int (iI q)), (3, .int (iI (z + 1))), (4, .int (iI (folded c q false))), (5, .int (iI (u * q)))]) dX12_foldsPossible_82 (by decide) rfl ?_
            refine r_goto dX12_foldsPossible_84 (tgt := 50) (by decide) ?_
            exfalso
            omega
      | succ n9 ih =>
        intro c u z hc1 hg1 hz1 hn1
        refine r_iload dX12_foldsPossible_50 4 rfl ?_
        refine i_sipush (200) (by decide) dX12_foldsPossible_52 ?_
        refine i_icmpgt dX12_foldsPossible_55 (tgt := 87) (by decide) (by unfold in32; omega) ⟨by decide, by decide⟩ (fun c55 => ?_) (fun c55 => ?_)
        · refine r_iload_n dX12_foldsPossible_87 3 rfl ?_
          refine r_ireturn rfl rfl dX12_foldsPossible_88 ?_
          have e : z + fpos q (n9 + 1) c u = z := by rw [fpos, if_neg (by omega)]; omega
          rw [e]
          exact ⟨rfl, hM1, F1⟩
        · refine r_iload dX12_foldsPossible_58 5 rfl ?_
          refine i_sipush (4000) (by decide) dX12_foldsPossible_60 ?_
          refine i_icmpgt dX12_foldsPossible_63 (tgt := 87) (by decide) (by unfold in32; omega) ⟨by decide, by decide⟩ (fun c63 => ?_) (fun c63 => ?_)
          · refine r_iload_n dX12_foldsPossible_87 3 rfl ?_
            refine r_ireturn rfl rfl dX12_foldsPossible_88 ?_
            have e : z + fpos q (n9 + 1) c u = z := by rw [fpos, if_neg (by omega)]; omega
            rw [e]
            exact ⟨rfl, hM1, F1⟩
          · refine i_iinc (ls' := [(0, .ref m), (1, .int (iI ((i : Int)))), (2, .int (iI q)), (3, .int (iI (z + 1))), (4, .int (iI c)), (5, .int (iI u))]) (1) (v := z + 1) dX12_foldsPossible_66 3 rfl (by omega) (by decide) rfl ?_
            refine r_iload dX12_foldsPossible_69 4 rfl ?_
            refine r_iload_n dX12_foldsPossible_71 2 rfl ?_
            refine i_const (0) dX12_foldsPossible_72 ?_
            refine p_callS (As := [.int (iI c), .int (iI q), .int (iI 0)]) (rest := []) (w := (some (.int (iI (folded c q false))))) (st' := [.int (iI (folded c q false))]) kv_X12_foldsPossible_148 dX12_foldsPossible_73 rfl rfl (Nat.le_of_ble_eq_true rfl) (Nat.le_of_ble_eq_true rfl) rfl rfl (c_X12_foldedLayers (d := false)) rfl (fun h51 e51 => ?_)
            rw [show h51 = h1 from e51]
            refine r_istore (ls' := [(0, .ref m), (1, .int (iI ((i : Int)))), (2, .int (iI q)), (3, .int (iI (z + 1))), (4, .int (iI (folded c q false))), (5, .int (iI u))]) dX12_foldsPossible_76 (by decide) rfl ?_
            refine r_iload dX12_foldsPossible_78 5 rfl ?_
            refine r_iload_n dX12_foldsPossible_80 2 rfl ?_
            refine i_mul dX12_foldsPossible_81 ?_
            refine r_istore (ls' := [(0, .ref m), (1, .int (iI ((i : Int)))), (2, .int (iI q)), (3, .int (iI (z + 1))), (4, .int (iI (folded c q false))), (5, .int (iI (u * q)))]) dX12_foldsPossible_82 (by decide) rfl ?_
            refine r_goto dX12_foldsPossible_84 (tgt := 50) (by decide) ?_
            have hfb9 := folded_b (n := c) (q := q) (d := false) hc1.1 hq
            have hmb9 := mul_b (x := u) (by omega) hq
            have q2 := ih (folded c q false) (u * q) (z + 1) ⟨hfb9.1, by omega⟩ (by omega) (by omega) (by omega)
            rw [show z + fpos q (n9 + 1) c u = z + 1 + fpos q n9 (folded c q false) (u * q) by rw [fpos, if_pos (by omega)]; omega]
            exact q2
    have q2 := L 4001 (folded (s.1.length : Int) q s.2.2.2.2.1) (hgt s.1 * q) 0 ⟨hfb.1, by omega⟩ (by omega) (by omega) (by omega)
    have e : (0 : Int) + fpos q 4001 (folded (s.1.length : Int) q s.2.2.2.2.1) (hgt s.1 * q) = fps s q := by rw [Int.zero_add]; unfold fps; rw [if_neg (by rw [c15]; decide)]
    rw [e] at q2
    exact q2
  · refine i_const (0) dX12_foldsPossible_18 ?_
    refine r_ireturn rfl rfl dX12_foldsPossible_19 ?_
    have e : fps s q = 0 := by unfold fps; rw [if_pos c15]
    rw [e]
    exact ⟨rfl, hM1, F1⟩
set_option maxRecDepth 20000 in
set_option maxHeartbeats 1000000 in
theorem c_X12_foldsPossible_bad {G : xG} {h : xH} {m : Nat} {a : MA} {r : MR} (hM : MO G h m a r) {g : Nat → Int32} (hR : AR G h r.1 1456 g) {n : Nat} (hn : n ≤ 6) (hc : g 3 = iI (n : Int)) {i : Nat} (hi : i < n) {s : AS} (hw : SWr g (7 + 207 * i) s) {q : Int} (hq : in32 q) (hf : isFac q = false) : CC G MX12_foldsPossible [.ref m, .int (iI ((i : Int))), .int (iI q)] h (fun o h' => o = .inl (some (.int (iI 0))) ∧ MO G h' m a (r_th r 2) ∧ FRp [m] h h') := by
  show RR G MX12_foldsPossible 0 [(0, .ref m), (1, .int (iI ((i : Int)))), (2, .int (iI q))] [] h (xm_R MX12_foldsPossible).cells (xm_R MX12_foldsPossible).slots (fun o h' => o = .inl (some (.int (iI 0))) ∧ MO G h' m a (r_th r 2) ∧ FRp [m] h h')
  refine r_aload_n dX12_foldsPossible_0 0 rfl ?_
  refine r_iload_n dX12_foldsPossible_1 1 rfl ?_
  refine r_iload_n dX12_foldsPossible_2 2 rfl ?_
  refine p_callV (As := [.int (iI ((i : Int))), .int (iI q)]) (b := m) (rest := []) (w := (some (.int (iI 1)))) (st' := [.int (iI 1)]) kv_X12_foldsPossible_159 dX12_foldsPossible_3 rfl rfl (Nat.le_of_ble_eq_true rfl) (Nat.le_of_ble_eq_true rfl) (x_rv hM.1 hM.2 rfl) rfl rfl (c_X12_lacksParts_f hM hR hn hc hi hw hq hf) rfl (fun h1 e1 => ?_)
  obtain ⟨hM1, F1⟩ := e1
  have hR1 := hR.obj hM F1
  refine i_ifne dX12_foldsPossible_6 (tgt := 18) (by decide) ⟨by decide, by decide⟩ (fun _ => ?_) (fun c => absurd c (by decide))
  refine i_const (0) dX12_foldsPossible_18 ?_
  refine r_ireturn rfl rfl dX12_foldsPossible_19 ?_
  exact ⟨rfl, hM1, F1⟩
set_option maxRecDepth 20000 in
set_option maxHeartbeats 1000000 in
theorem c_X12_foldsPossible_no {G : xG} {h : xH} {m : Nat} {a : MA} {r : MR} (hM : MO G h m a r) {g : Nat → Int32} (hR : AR G h r.1 1456 g) {n : Nat} (hn : n ≤ 6) (hc : g 3 = iI (n : Int)) {z : Int} (hz : in32 z) (hs : ¬ (0 ≤ z ∧ z < (n : Int))) {q : Int} (hq : in32 q) : CC G MX12_foldsPossible [.ref m, .int (iI z), .int (iI q)] h (fun o h' => o = .inl (some (.int (iI 0))) ∧ MO G h' m a (r_th r 1) ∧ FRp [m] h h') := by
  show RR G MX12_foldsPossible 0 [(0, .ref m), (1, .int (iI z)), (2, .int (iI q))] [] h (xm_R MX12_foldsPossible).cells (xm_R MX12_foldsPossible).slots (fun o h' => o = .inl (some (.int (iI 0))) ∧ MO G h' m a (r_th r 1) ∧ FRp [m] h h')
  refine r_aload_n dX12_foldsPossible_0 0 rfl ?_
  refine r_iload_n dX12_foldsPossible_1 1 rfl ?_
  refine r_iload_n dX12_foldsPossible_2 2 rfl ?_
  refine p_callV (As := [.int (iI z), .int (iI q)]) (b := m) (rest := []) (w := (some (.int (iI 1)))) (st' := [.int (iI 1)]) kv_X12_foldsPossible_159 dX12_foldsPossible_3 rfl rfl (Nat.le_of_ble_eq_true rfl) (Nat.le_of_ble_eq_true rfl) (x_rv hM.1 hM.2 rfl) rfl rfl (c_X12_lacksParts_no hM hR hn hc hz hs hq) rfl (fun h1 e1 => ?_)
  obtain ⟨hM1, F1⟩ := e1
  have hR1 := hR.obj hM F1
  refine i_ifne dX12_foldsPossible_6 (tgt := 18) (by decide) ⟨by decide, by decide⟩ (fun _ => ?_) (fun c => absurd c (by decide))
  refine i_const (0) dX12_foldsPossible_18 ?_
  refine r_ireturn rfl rfl dX12_foldsPossible_19 ?_
  exact ⟨rfl, hM1, F1⟩
set_option maxRecDepth 20000 in
set_option maxHeartbeats 1000000 in
theorem c_X12_butterAtRisk_ok {G : xG} {h : xH} {m : Nat} {a : MA} {r : MR} (hM : MO G h m a r) {g : Nat → Int32} (hR : AR G h r.1 1456 g) {n : Nat} (hn : n ≤ 6) (hc : g 3 = iI (n : Int)) {i : Nat} (hi : i < n) {s : AS} (hw : SWr g (7 + 207 * i) s) (hW : WS s) {s6 : AS} (hw6 : SWr g (7 + 207 * 6) s6) {me : Int} (hme : g 1 = iI me) (hmb : 0 ≤ me ∧ me ≤ 40) : CC G MX12_butterAtRisk [.ref m, .int (iI ((i : Int)))] h (fun o h' => o = .inl (some (.int (iI (sumF (escF (loss s me)) s.1)))) ∧ SCQ G h h' m a r g 0) := by
  obtain ⟨hl1, hnz, hh4, hw0, hw9⟩ := id hW
  have hl2 := hw.len
  have hg0 := hgt_nn s.1
  have hgl := hgt_ge s.1 hnz
  have hlb := loss_b (s := s) (m := me) ⟨hw0, hw9⟩ hmb
  show RR G MX12_butterAtRisk 0 [(0, .ref m), (1, .int (iI ((i : Int))))] [] h (xm_R MX12_butterAtRisk).cells (xm_R MX12_butterAtRisk).slots (fun o h' => o = .inl (some (.int (iI (sumF (escF (loss s me)) s.1)))) ∧ SCQ G h h' m a r g 0)
  refine r_aload_n dX12_butterAtRisk_0 0 rfl ?_
  refine r_aload_n dX12_butterAtRisk_1 0 rfl ?_
  refine r_iload_n dX12_butterAtRisk_2 1 rfl ?_
  refine p_callV (As := [.int (iI ((i : Int)))]) (b := m) (rest := [.ref m]) (w := (some (.int (iI (b2 true))))) (st' := [.int (iI (b2 true)), .ref m]) kv_X12_butterAtRisk_111 dX12_butterAtRisk_3 rfl rfl (Nat.le_of_ble_eq_true rfl) (Nat.le_of_ble_eq_true rfl) (x_rv hM.1 hM.2 rfl) rfl rfl (c_X12_isSheet_t hM hR hn hc hi) rfl (fun h1 e1 => ?_)
  rw [show h1 = h from e1]
  refine p_callV (As := [.int (iI (b2 true))]) (b := m) (rest := []) (w := (some (.int (iI 0)))) (st' := [.int (iI 0)]) kv_X12_butterAtRisk_82 dX12_butterAtRisk_6 rfl rfl (Nat.le_of_ble_eq_true rfl) (Nat.le_of_ble_eq_true rfl) (x_rv hM.1 hM.2 rfl) rfl rfl (c_X12_lacks_t hM) rfl (fun h2 e2 => ?_)
  obtain ⟨hM2, F2⟩ := e2
  have hR2 := hR.obj hM F2
  have hF2 : FRp [m, r.1] h h2 := FRm F2
  refine i_ifeq dX12_butterAtRisk_9 (tgt := 14) (by decide) ⟨by decide, by decide⟩ (fun _ => ?_) (fun c => absurd c (by decide))
  refine r_aload_n dX12_butterAtRisk_14 0 rfl ?_
  refine r_iload_n dX12_butterAtRisk_15 1 rfl ?_
  refine i_const (2) dX12_butterAtRisk_16 ?_
  refine p_callV (As := [.int (iI ((i : Int))), .int (iI 2)]) (b := m) (rest := []) (w := none) (st' := []) kv_X12_butterAtRisk_191 dX12_butterAtRisk_17 rfl rfl (Nat.le_of_ble_eq_true rfl) (Nat.le_of_ble_eq_true rfl) (x_rv hM2.1 hM2.2 rfl) rfl rfl (c_X12_rollOut hM2 hR2 (by omega) hw hW hw6 hme hmb rfl hlb ⟨by decide, by decide⟩) rfl (fun h3 e3 => ?_)
  obtain ⟨hM3, g3, hR3, hw3, E3, X3⟩ := e3
  have hF3 := hF2.tr (X3)
  refine r_aload_n dX12_butterAtRisk_20 0 rfl ?_
  refine m_g_lz (v := (sumF (escF (loss s me)) (s.1.take s.1.length))) hM3 rfl kf_X12_185 dX12_butterAtRisk_21 ?_
  refine r_ireturn rfl rfl dX12_butterAtRisk_24 ?_
  rw [show sumF (escF (loss s me)) s.1 = sumF (escF (loss s me)) (s.1.take s.1.length) from by rw [take_all]]
  exact ⟨rfl, _, _, hM3, ⟨rfl, rfl, rfl, rfl, rfl, rfl, rfl, rfl⟩, rfl, hR3, E3, ⟨_, hw3⟩, hF3⟩
set_option maxRecDepth 20000 in
set_option maxHeartbeats 1000000 in
theorem c_X12_butterAtRisk_no {G : xG} {h : xH} {m : Nat} {a : MA} {r : MR} (hM : MO G h m a r) {g : Nat → Int32} (hR : AR G h r.1 1456 g) {n : Nat} (hn : n ≤ 6) (hc : g 3 = iI (n : Int)) {z : Int} (hz : in32 z) (hs : ¬ (0 ≤ z ∧ z < (n : Int))) : CC G MX12_butterAtRisk [.ref m, .int (iI z)] h (fun o h' => o = .inl (some (.int (iI 0))) ∧ MO G h' m a (r_th r 1) ∧ FRp [m] h h') := by
  show RR G MX12_butterAtRisk 0 [(0, .ref m), (1, .int (iI z))] [] h (xm_R MX12_butterAtRisk).cells (xm_R MX12_butterAtRisk).slots (fun o h' => o = .inl (some (.int (iI 0))) ∧ MO G h' m a (r_th r 1) ∧ FRp [m] h h')
  refine r_aload_n dX12_butterAtRisk_0 0 rfl ?_
  refine r_aload_n dX12_butterAtRisk_1 0 rfl ?_
  refine r_iload_n dX12_butterAtRisk_2 1 rfl ?_
  refine p_callV (As := [.int (iI z)]) (b := m) (rest := [.ref m]) (w := (some (.int (iI (b2 false))))) (st' := [.int (iI (b2 false)), .ref m]) kv_X12_butterAtRisk_111 dX12_butterAtRisk_3 rfl rfl (Nat.le_of_ble_eq_true rfl) (Nat.le_of_ble_eq_true rfl) (x_rv hM.1 hM.2 rfl) rfl rfl (c_X12_isSheet_f hM hR hn hc hz hs) rfl (fun h1 e1 => ?_)
  rw [show h1 = h from e1]
  refine p_callV (As := [.int (iI (b2 false))]) (b := m) (rest := []) (w := (some (.int (iI 1)))) (st' := [.int (iI 1)]) kv_X12_butterAtRisk_82 dX12_butterAtRisk_6 rfl rfl (Nat.le_of_ble_eq_true rfl) (Nat.le_of_ble_eq_true rfl) (x_rv hM.1 hM.2 rfl) rfl rfl (c_X12_lacks_f hM) rfl (fun h2 e2 => ?_)
  obtain ⟨hM2, F2⟩ := e2
  have hR2 := hR.obj hM F2
  refine i_ifeq dX12_butterAtRisk_9 (tgt := 14) (by decide) ⟨by decide, by decide⟩ (fun c => absurd c (by decide)) (fun _ => ?_)
  refine i_const (0) dX12_butterAtRisk_12 ?_
  refine r_ireturn rfl rfl dX12_butterAtRisk_13 ?_
  exact ⟨rfl, hM2, F2⟩
set_option maxRecDepth 20000 in
set_option maxHeartbeats 1000000 in
theorem c_X12_layersAtRisk_ok {G : xG} {h : xH} {m : Nat} {a : MA} {r : MR} (hM : MO G h m a r) {g : Nat → Int32} (hR : AR G h r.1 1456 g) {n : Nat} (hn : n ≤ 6) (hc : g 3 = iI (n : Int)) {i : Nat} (hi : i < n) {s : AS} (hw : SWr g (7 + 207 * i) s) (hW : WS s) {s6 : AS} (hw6 : SWr g (7 + 207 * 6) s6) {me : Int} (hme : g 1 = iI me) (hmb : 0 ≤ me ∧ me ≤ 40) {q : Int} (hqi : in32 q) (hf : isFac q = true) : CC G MX12_layersAtRisk [.ref m, .int (iI ((i : Int))), .int (iI q)] h (fun o h' => o = .inl (some (.int (iI (sumF (brF q (loss s me)) s.1)))) ∧ SCQ G h h' m a r g 0) := by
  have hq := fac_t hf
  obtain ⟨hl1, hnz, hh4, hw0, hw9⟩ := id hW
  have hl2 := hw.len
  have hg0 := hgt_nn s.1
  have hgl := hgt_ge s.1 hnz
  have hlb := loss_b (s := s) (m := me) ⟨hw0, hw9⟩ hmb
  show RR G MX12_layersAtRisk 0 [(0, .ref m), (1, .int (iI ((i : Int)))), (2, .int (iI q))] [] h (xm_R MX12_layersAtRisk).cells (xm_R MX12_layersAtRisk).slots (fun o h' => o = .inl (some (.int (iI (sumF (brF q (loss s me)) s.1)))) ∧ SCQ G h h' m a r g 0)
  refine r_aload_n dX12_layersAtRisk_0 0 rfl ?_
  refine r_iload_n dX12_layersAtRisk_1 1 rfl ?_
  refine r_iload_n dX12_layersAtRisk_2 2 rfl ?_
  refine p_callV (As := [.int (iI ((i : Int))), .int (iI q)]) (b := m) (rest := []) (w := (some (.int (iI 0)))) (st' := [.int (iI 0)]) kv_X12_layersAtRisk_159 dX12_layersAtRisk_3 rfl rfl (Nat.le_of_ble_eq_true rfl) (Nat.le_of_ble_eq_true rfl) (x_rv hM.1 hM.2 rfl) rfl rfl (c_X12_lacksParts_t hM hR hn hc hi hw hqi hf) rfl (fun h1 e1 => ?_)
  obtain ⟨hM1, F1⟩ := e1
  have hR1 := hR.obj hM F1
  have hF1 : FRp [m, r.1] h h1 := FRm F1
  refine i_ifeq dX12_layersAtRisk_6 (tgt := 11) (by decide) ⟨by decide, by decide⟩ (fun _ => ?_) (fun c => absurd c (by decide))
  refine r_aload_n dX12_layersAtRisk_11 0 rfl ?_
  refine r_iload_n dX12_layersAtRisk_12 1 rfl ?_
  refine r_iload_n dX12_layersAtRisk_13 2 rfl ?_
  refine p_callV (As := [.int (iI ((i : Int))), .int (iI q)]) (b := m) (rest := []) (w := none) (st' := []) kv_X12_layersAtRisk_191 dX12_layersAtRisk_14 rfl rfl (Nat.le_of_ble_eq_true rfl) (Nat.le_of_ble_eq_true rfl) (x_rv hM1.1 hM1.2 rfl) rfl rfl (c_X12_rollOut hM1 hR1 (by omega) hw hW hw6 hme hmb rfl hlb hq) rfl (fun h2 e2 => ?_)
  obtain ⟨hM2, g2, hR2, hw2, E2, X2⟩ := e2
  have hF2 := hF1.tr (X2)
  refine r_aload_n dX12_layersAtRisk_17 0 rfl ?_
  refine m_g_bz (v := ((rollR q (loss s me) s.1 s.1.length).2.1)) hM2 rfl kf_X12_188 dX12_layersAtRisk_18 ?_
  refine r_ireturn rfl rfl dX12_layersAtRisk_21 ?_
  rw [show sumF (brF q (loss s me)) s.1 = (rollR q (loss s me) s.1 s.1.length).2.1 from by rw [rollR_br _ _ _ _ (Nat.le_refl _), take_all]]
  exact ⟨rfl, _, _, hM2, ⟨rfl, rfl, rfl, rfl, rfl, rfl, rfl, rfl⟩, rfl, hR2, E2, ⟨_, hw2⟩, hF2⟩
set_option maxRecDepth 20000 in
set_option maxHeartbeats 1000000 in
theorem c_X12_layersAtRisk_bad {G : xG} {h : xH} {m : Nat} {a : MA} {r : MR} (hM : MO G h m a r) {g : Nat → Int32} (hR : AR G h r.1 1456 g) {n : Nat} (hn : n ≤ 6) (hc : g 3 = iI (n : Int)) {i : Nat} (hi : i < n) {s : AS} (hw : SWr g (7 + 207 * i) s) {q : Int} (hq : in32 q) (hf : isFac q = false) : CC G MX12_layersAtRisk [.ref m, .int (iI ((i : Int))), .int (iI q)] h (fun o h' => o = .inl (some (.int (iI 0))) ∧ MO G h' m a (r_th r 2) ∧ FRp [m] h h') := by
  show RR G MX12_layersAtRisk 0 [(0, .ref m), (1, .int (iI ((i : Int)))), (2, .int (iI q))] [] h (xm_R MX12_layersAtRisk).cells (xm_R MX12_layersAtRisk).slots (fun o h' => o = .inl (some (.int (iI 0))) ∧ MO G h' m a (r_th r 2) ∧ FRp [m] h h')
  refine r_aload_n dX12_layersAtRisk_0 0 rfl ?_
  refine r_iload_n dX12_layersAtRisk_1 1 rfl ?_
  refine r_iload_n dX12_layersAtRisk_2 2 rfl ?_
  refine p_callV (As := [.int (iI ((i : Int))), .int (iI q)]) (b := m) (rest := []) (w := (some (.int (iI 1)))) (st' := [.int (iI 1)]) kv_X12_layersAtRisk_159 dX12_layersAtRisk_3 rfl rfl (Nat.le_of_ble_eq_true rfl) (Nat.le_of_ble_eq_true rfl) (x_rv hM.1 hM.2 rfl) rfl rfl (c_X12_lacksParts_f hM hR hn hc hi hw hq hf) rfl (fun h1 e1 => ?_)
  obtain ⟨hM1, F1⟩ := e1
  have hR1 := hR.obj hM F1
  refine i_ifeq dX12_layersAtRisk_6 (tgt := 11) (by decide) ⟨by decide, by decide⟩ (fun c => absurd c (by decide)) (fun _ => ?_)
  refine i_const (0) dX12_layersAtRisk_9 ?_
  refine r_ireturn rfl rfl dX12_layersAtRisk_10 ?_
  exact ⟨rfl, hM1, F1⟩
set_option maxRecDepth 20000 in
set_option maxHeartbeats 1000000 in
theorem c_X12_layersAtRisk_no {G : xG} {h : xH} {m : Nat} {a : MA} {r : MR} (hM : MO G h m a r) {g : Nat → Int32} (hR : AR G h r.1 1456 g) {n : Nat} (hn : n ≤ 6) (hc : g 3 = iI (n : Int)) {z : Int} (hz : in32 z) (hs : ¬ (0 ≤ z ∧ z < (n : Int))) {q : Int} (hq : in32 q) : CC G MX12_layersAtRisk [.ref m, .int (iI z), .int (iI q)] h (fun o h' => o = .inl (some (.int (iI 0))) ∧ MO G h' m a (r_th r 1) ∧ FRp [m] h h') := by
  show RR G MX12_layersAtRisk 0 [(0, .ref m), (1, .int (iI z)), (2, .int (iI q))] [] h (xm_R MX12_layersAtRisk).cells (xm_R MX12_layersAtRisk).slots (fun o h' => o = .inl (some (.int (iI 0))) ∧ MO G h' m a (r_th r 1) ∧ FRp [m] h h')
  refine r_aload_n dX12_layersAtRisk_0 0 rfl ?_
  refine r_iload_n dX12_layersAtRisk_1 1 rfl ?_
  refine r_iload_n dX12_layersAtRisk_2 2 rfl ?_
  refine p_callV (As := [.int (iI z), .int (iI q)]) (b := m) (rest := []) (w := (some (.int (iI 1)))) (st' := [.int (iI 1)]) kv_X12_layersAtRisk_159 dX12_layersAtRisk_3 rfl rfl (Nat.le_of_ble_eq_true rfl) (Nat.le_of_ble_eq_true rfl) (x_rv hM.1 hM.2 rfl) rfl rfl (c_X12_lacksParts_no hM hR hn hc hz hs hq) rfl (fun h1 e1 => ?_)
  obtain ⟨hM1, F1⟩ := e1
  have hR1 := hR.obj hM F1
  refine i_ifeq dX12_layersAtRisk_6 (tgt := 11) (by decide) ⟨by decide, by decide⟩ (fun c => absurd c (by decide)) (fun _ => ?_)
  refine i_const (0) dX12_layersAtRisk_9 ?_
  refine r_ireturn rfl rfl dX12_layersAtRisk_10 ?_
  exact ⟨rfl, hM1, F1⟩
set_option maxRecDepth 20000 in
set_option maxHeartbeats 1000000 in
theorem c_X12_heightAfterRoll_ok {G : xG} {h : xH} {m : Nat} {a : MA} {r : MR} (hM : MO G h m a r) {g : Nat → Int32} (hR : AR G h r.1 1456 g) {n : Nat} (hn : n ≤ 6) (hc : g 3 = iI (n : Int)) {i : Nat} (hi : i < n) {s : AS} (hw : SWr g (7 + 207 * i) s) (hW : WS s) {s6 : AS} (hw6 : SWr g (7 + 207 * 6) s6) {me : Int} (hme : g 1 = iI me) (hmb : 0 ≤ me ∧ me ≤ 40) {q : Int} (hqi : in32 q) (hf : isFac q = true) : CC G MX12_heightAfterRoll [.ref m, .int (iI ((i : Int))), .int (iI q)] h (fun o h' => o = .inl (some (.int (iI (sumF (rt q (loss s me)) s.1)))) ∧ SCQ G h h' m a r g 0) := by
  have hq := fac_t hf
  obtain ⟨hl1, hnz, hh4, hw0, hw9⟩ := id hW
  have hl2 := hw.len
  have hg0 := hgt_nn s.1
  have hgl := hgt_ge s.1 hnz
  have hlb := loss_b (s := s) (m := me) ⟨hw0, hw9⟩ hmb
  have hra := (rollR_ok (l := s.1) hq hlb.1 s.1.length (Nat.le_refl _)).1
  rw [take_all] at hra
  have hro : hgt (rollR q (loss s me) s.1 s.1.length).1 ≤ 4000 := by
    rw [hra]
    exact Int.le_trans (sumF_le (f := rt q (loss s me)) (g := sz) (fun x hx => rt_le hq hlb.1 (hnz x hx))) hh4
  show RR G MX12_heightAfterRoll 0 [(0, .ref m), (1, .int (iI ((i : Int)))), (2, .int (iI q))] [] h (xm_R MX12_heightAfterRoll).cells (xm_R MX12_heightAfterRoll).slots (fun o h' => o = .inl (some (.int (iI (sumF (rt q (loss s me)) s.1)))) ∧ SCQ G h h' m a r g 0)
  refine r_aload_n dX12_heightAfterRoll_0 0 rfl ?_
  refine r_iload_n dX12_heightAfterRoll_1 1 rfl ?_
  refine r_iload_n dX12_heightAfterRoll_2 2 rfl ?_
  refine p_callV (As := [.int (iI ((i : Int))), .int (iI q)]) (b := m) (rest := []) (w := (some (.int (iI 0)))) (st' := [.int (iI 0)]) kv_X12_heightAfterRoll_159 dX12_heightAfterRoll_3 rfl rfl (Nat.le_of_ble_eq_true rfl) (Nat.le_of_ble_eq_true rfl) (x_rv hM.1 hM.2 rfl) rfl rfl (c_X12_lacksParts_t hM hR hn hc hi hw hqi hf) rfl (fun h1 e1 => ?_)
  obtain ⟨hM1, F1⟩ := e1
  have hR1 := hR.obj hM F1
  have hF1 : FRp [m, r.1] h h1 := FRm F1
  refine i_ifeq dX12_heightAfterRoll_6 (tgt := 11) (by decide) ⟨by decide, by decide⟩ (fun _ => ?_) (fun c => absurd c (by decide))
  refine r_aload_n dX12_heightAfterRoll_11 0 rfl ?_
  refine r_iload_n dX12_heightAfterRoll_12 1 rfl ?_
  refine r_iload_n dX12_heightAfterRoll_13 2 rfl ?_
  refine p_callV (As := [.int (iI ((i : Int))), .int (iI q)]) (b := m) (rest := []) (w := none) (st' := []) kv_X12_heightAfterRoll_191 dX12_heightAfterRoll_14 rfl rfl (Nat.le_of_ble_eq_true rfl) (Nat.le_of_ble_eq_true rfl) (x_rv hM1.1 hM1.2 rfl) rfl rfl (c_X12_rollOut hM1 hR1 (by omega) hw hW hw6 hme hmb rfl hlb hq) rfl (fun h2 e2 => ?_)
  obtain ⟨hM2, g2, hR2, hw2, E2, X2⟩ := e2
  have hF2 := hF1.tr (X2)
  refine r_aload_n dX12_heightAfterRoll_17 0 rfl ?_
  refine i_bipush (6) (by decide) dX12_heightAfterRoll_18 ?_
  refine p_callV (As := [.int (iI 6)]) (b := m) (rest := []) (w := (some (.int (iI (hgt (rollR q (loss s me) s.1 s.1.length).1))))) (st' := [.int (iI (hgt (rollR q (loss s me) s.1 s.1.length).1))]) kv_X12_heightAfterRoll_136 dX12_heightAfterRoll_20 rfl rfl (Nat.le_of_ble_eq_true rfl) (Nat.le_of_ble_eq_true rfl) (x_rv hM2.1 hM2.2 rfl) rfl rfl (c_X12_heightOf hM2 hR2 (i := 6) (by omega) hw2 hro) rfl (fun h3 e3 => ?_)
  rw [show h3 = h2 from e3]
  refine r_ireturn rfl rfl dX12_heightAfterRoll_23 ?_
  rw [show sumF (rt q (loss s me)) s.1 = hgt (rollR q (loss s me) s.1 s.1.length).1 from hra.symm]
  exact ⟨rfl, _, _, hM2, ⟨rfl, rfl, rfl, rfl, rfl, rfl, rfl, rfl⟩, rfl, hR2, E2, ⟨_, hw2⟩, hF2⟩
set_option maxRecDepth 20000 in
set_option maxHeartbeats 1000000 in
theorem c_X12_heightAfterRoll_bad {G : xG} {h : xH} {m : Nat} {a : MA} {r : MR} (hM : MO G h m a r) {g : Nat → Int32} (hR : AR G h r.1 1456 g) {n : Nat} (hn : n ≤ 6) (hc : g 3 = iI (n : Int)) {i : Nat} (hi : i < n) {s : AS} (hw : SWr g (7 + 207 * i) s) {q : Int} (hq : in32 q) (hf : isFac q = false) : CC G MX12_heightAfterRoll [.ref m, .int (iI ((i : Int))), .int (iI q)] h (fun o h' => o = .inl (some (.int (iI 0))) ∧ MO G h' m a (r_th r 2) ∧ FRp [m] h h') := by
  show RR G MX12_heightAfterRoll 0 [(0, .ref m), (1, .int (iI ((i : Int)))), (2, .int (iI q))] [] h (xm_R MX12_heightAfterRoll).cells (xm_R MX12_heightAfterRoll).slots (fun o h' => o = .inl (some (.int (iI 0))) ∧ MO G h' m a (r_th r 2) ∧ FRp [m] h h')
  refine r_aload_n dX12_heightAfterRoll_0 0 rfl ?_
  refine r_iload_n dX12_heightAfterRoll_1 1 rfl ?_
  refine r_iload_n dX12_heightAfterRoll_2 2 rfl ?_
  refine p_callV (As := [.int (iI ((i : Int))), .int (iI q)]) (b := m) (rest := []) (w := (some (.int (iI 1)))) (st' := [.int (iI 1)]) kv_X12_heightAfterRoll_159 dX12_heightAfterRoll_3 rfl rfl (Nat.le_of_ble_eq_true rfl) (Nat.le_of_ble_eq_true rfl) (x_rv hM.1 hM.2 rfl) rfl rfl (c_X12_lacksParts_f hM hR hn hc hi hw hq hf) rfl (fun h1 e1 => ?_)
  obtain ⟨hM1, F1⟩ := e1
  have hR1 := hR.obj hM F1
  refine i_ifeq dX12_heightAfterRoll_6 (tgt := 11) (by decide) ⟨by decide, by decide⟩ (fun c => absurd c (by decide)) (fun _ => ?_)
  refine i_const (0) dX12_heightAfterRoll_9 ?_
  refine r_ireturn rfl rfl dX12_heightAfterRoll_10 ?_
  exact ⟨rfl, hM1, F1⟩
set_option maxRecDepth 20000 in
set_option maxHeartbeats 1000000 in
theorem c_X12_heightAfterRoll_no {G : xG} {h : xH} {m : Nat} {a : MA} {r : MR} (hM : MO G h m a r) {g : Nat → Int32} (hR : AR G h r.1 1456 g) {n : Nat} (hn : n ≤ 6) (hc : g 3 = iI (n : Int)) {z : Int} (hz : in32 z) (hs : ¬ (0 ≤ z ∧ z < (n : Int))) {q : Int} (hq : in32 q) : CC G MX12_heightAfterRoll [.ref m, .int (iI z), .int (iI q)] h (fun o h' => o = .inl (some (.int (iI 0))) ∧ MO G h' m a (r_th r 1) ∧ FRp [m] h h') := by
  show RR G MX12_heightAfterRoll 0 [(0, .ref m), (1, .int (iI z)), (2, .int (iI q))] [] h (xm_R MX12_heightAfterRoll).cells (xm_R MX12_heightAfterRoll).slots (fun o h' => o = .inl (some (.int (iI 0))) ∧ MO G h' m a (r_th r 1) ∧ FRp [m] h h')
  refine r_aload_n dX12_heightAfterRoll_0 0 rfl ?_
  refine r_iload_n dX12_heightAfterRoll_1 1 rfl ?_
  refine r_iload_n dX12_heightAfterRoll_2 2 rfl ?_
  refine p_callV (As := [.int (iI z), .int (iI q)]) (b := m) (rest := []) (w := (some (.int (iI 1)))) (st' := [.int (iI 1)]) kv_X12_heightAfterRoll_159 dX12_heightAfterRoll_3 rfl rfl (Nat.le_of_ble_eq_true rfl) (Nat.le_of_ble_eq_true rfl) (x_rv hM.1 hM.2 rfl) rfl rfl (c_X12_lacksParts_no hM hR hn hc hz hs hq) rfl (fun h1 e1 => ?_)
  obtain ⟨hM1, F1⟩ := e1
  have hR1 := hR.obj hM F1
  refine i_ifeq dX12_heightAfterRoll_6 (tgt := 11) (by decide) ⟨by decide, by decide⟩ (fun c => absurd c (by decide)) (fun _ => ?_)
  refine i_const (0) dX12_heightAfterRoll_9 ?_
  refine r_ireturn rfl rfl dX12_heightAfterRoll_10 ?_
  exact ⟨rfl, hM1, F1⟩
set_option maxRecDepth 20000 in
set_option maxHeartbeats 1000000 in
theorem c_X12_later {G : xG} {h : xH} {m : Nat} {a : MA} {r : MR} (hM : MO G h m a r) {g : Nat → Int32} (hR : AR G h r.1 1456 g) {ro : Int} (hro : g 0 = iI ro) (hrb : 0 ≤ ro ∧ ro ≤ 40) {w : Int} (hwb : 0 ≤ w ∧ w ≤ 40) {co : Bool} : CC G MX12_later [.ref m, .int (iI w), .int (iI (b2 co))] h (qI (laterV co w ro) h) := by
  show RR G MX12_later 0 [(0, .ref m), (1, .int (iI w)), (2, .int (iI (b2 co)))] [] h (xm_R MX12_later).cells (xm_R MX12_later).slots (qI (laterV co w ro) h)
  refine r_iload_n dX12_later_0 2 rfl ?_
  refine i_ifeqb dX12_later_1 (tgt := 9) (by decide) (fun c1 => ?_) (fun c1 => ?_)
  · refine r_iload_n dX12_later_9 1 rfl ?_
    refine r_aload_n dX12_later_10 0 rfl ?_
    refine m_g_rr (v := r.1) hM rfl kf_X12_25 dX12_later_11 ?_
    refine i_const (0) dX12_later_14 ?_
    refine m_ld (v := iI ro) 0 rfl hro hR dX12_later_15 (by omega) (by decide) ?_
    refine i_icmpge dX12_later_16 (tgt := 25) (by decide) (by unfold in32; omega) (by unfold in32; omega) (fun c16 => ?_) (fun c16 => ?_)
    · refine r_iload_n dX12_later_25 1 rfl ?_
      refine r_aload_n dX12_later_26 0 rfl ?_
      refine m_g_rr (v := r.1) hM rfl kf_X12_25 dX12_later_27 ?_
      refine i_const (0) dX12_later_30 ?_
      refine m_ld (v := iI ro) 0 rfl hro hR dX12_later_31 (by omega) (by decide) ?_
      refine i_icmple dX12_later_32 (tgt := 41) (by decide) (by unfold in32; omega) (by unfold in32; omega) (fun c32 => ?_) (fun c32 => ?_)
      · refine r_iload_n dX12_later_41 1 rfl ?_
        refine r_ireturn rfl rfl dX12_later_42 ?_
        have e : laterV co w ro = w := by unfold laterV; rw [if_neg (by rw [c1]; decide)]; unfold drawn; rw [if_pos (by omega)]
        rw [e]
        exact ⟨rfl, rfl⟩
      · refine r_iload_n dX12_later_35 1 rfl ?_
        refine i_const (1) dX12_later_36 ?_
        refine i_sub dX12_later_37 ?_
        refine r_goto dX12_later_38 (tgt := 42) (by decide) ?_
        refine r_ireturn rfl rfl dX12_later_42 ?_
        have e : laterV co w ro = w - 1 := by unfold laterV; rw [if_neg (by rw [c1]; decide)]; unfold drawn; rw [if_neg (by omega), if_neg (by omega)]
        rw [e]
        exact ⟨rfl, rfl⟩
    · refine r_iload_n dX12_later_19 1 rfl ?_
      refine i_const (1) dX12_later_20 ?_
      refine i_add dX12_later_21 ?_
      refine r_goto dX12_later_22 (tgt := 42) (by decide) ?_
      refine r_ireturn rfl rfl dX12_later_42 ?_
      have e : laterV co w ro = w + 1 := by unfold laterV; rw [if_neg (by rw [c1]; decide)]; unfold drawn; rw [if_neg (by omega), if_pos (by omega)]
      rw [e]
      exact ⟨rfl, rfl⟩
  · refine r_iload_n dX12_later_4 1 rfl ?_
    refine p_callS (As := [.int (iI w)]) (rest := []) (w := (some (.int (iI (cooled w))))) (st' := [.int (iI (cooled w))]) kv_X12_later_194 dX12_later_5 rfl rfl (Nat.le_of_ble_eq_true rfl) (Nat.le_of_ble_eq_true rfl) rfl rfl (c_X12_cooled (by omega)) rfl (fun h1 e1 => ?_)
    rw [show h1 = h from e1]
    refine r_ireturn rfl rfl dX12_later_8 ?_
    have e : laterV co w ro = cooled w := by unfold laterV; rw [if_pos c1]
    rw [e]
    exact ⟨rfl, rfl⟩
set_option maxRecDepth 20000 in
set_option maxHeartbeats 1000000 in
theorem c_X12_temperatureAfter_ok {G : xG} {h : xH} {m : Nat} {a : MA} {r : MR} (hM : MO G h m a r) {g : Nat → Int32} (hR : AR G h r.1 1456 g) {n : Nat} (hn : n ≤ 6) (hc : g 3 = iI (n : Int)) {i : Nat} (hi : i < n) {s : AS} (hw : SWr g (7 + 207 * i) s) (hW : WS s) {ro : Int} (hro : g 0 = iI ro) (hrb : 0 ≤ ro ∧ ro ≤ 40) {n9 : Nat} (hn9 : n9 ≤ 24) : CC G MX12_temperatureAfter [.ref m, .int (iI ((i : Int))), .int (iI ((n9 : Int)))] h (fun o h' => o = .inl (some (.int (iI (warmAt s ro n9)))) ∧ MO G h' m a (r_th r 0) ∧ FRp [m] h h') := by
  obtain ⟨hl1, hnz, hh4, hw0, hw9⟩ := id hW
  have hl2 := hw.len
  have hg0 := hgt_nn s.1
  have hgl := hgt_ge s.1 hnz
  have hzi : in32 (n9 : Int) := by unfold in32; omega
  have hf : inR (n9 : Int) 0 24 = true := by unfold inR; rw [decide_eq_true (by omega), decide_eq_true (by omega)]; rfl
  show RR G MX12_temperatureAfter 0 [(0, .ref m), (1, .int (iI ((i : Int)))), (2, .int (iI ((n9 : Int))))] [] h (xm_R MX12_temperatureAfter).cells (xm_R MX12_temperatureAfter).slots (fun o h' => o = .inl (some (.int (iI (warmAt s ro n9)))) ∧ MO G h' m a (r_th r 0) ∧ FRp [m] h h')
  refine r_aload_n dX12_temperatureAfter_0 0 rfl ?_
  refine r_aload_n dX12_temperatureAfter_1 0 rfl ?_
  refine r_iload_n dX12_temperatureAfter_2 1 rfl ?_
  refine p_callV (As := [.int (iI ((i : Int)))]) (b := m) (rest := [.ref m]) (w := (some (.int (iI (b2 true))))) (st' := [.int (iI (b2 true)), .ref m]) kv_X12_temperatureAfter_111 dX12_temperatureAfter_3 rfl rfl (Nat.le_of_ble_eq_true rfl) (Nat.le_of_ble_eq_true rfl) (x_rv hM.1 hM.2 rfl) rfl rfl (c_X12_isSheet_t hM hR hn hc hi) rfl (fun h1 e1 => ?_)
  rw [show h1 = h from e1]
  refine r_iload_n dX12_temperatureAfter_6 2 rfl ?_
  refine i_const (0) dX12_temperatureAfter_7 ?_
  refine i_bipush (24) (by decide) dX12_temperatureAfter_8 ?_
  refine p_callS (As := [.int (iI ((n9 : Int))), .int (iI 0), .int (iI 24)]) (rest := [.int (iI (b2 true)), .ref m]) (w := (some (.int (iI (b2 true))))) (st' := [.int (iI (b2 true)), .int (iI (b2 true)), .ref m]) kv_X12_temperatureAfter_107 dX12_temperatureAfter_10 rfl rfl (Nat.le_of_ble_eq_true rfl) (Nat.le_of_ble_eq_true rfl) rfl rfl (c_X12_inRange_b hzi ⟨by decide, by decide⟩ ⟨by decide, by decide⟩ (b := true) hf) rfl (fun h2 e2 => ?_)
  rw [show h2 = h from e2]
  refine p_callV (As := [.int (iI (b2 true)), .int (iI (b2 true))]) (b := m) (rest := []) (w := (some (.int (iI 0)))) (st' := [.int (iI 0)]) kv_X12_temperatureAfter_155 dX12_temperatureAfter_13 rfl rfl (Nat.le_of_ble_eq_true rfl) (Nat.le_of_ble_eq_true rfl) (x_rv hM.1 hM.2 rfl) rfl rfl (c_X12_lacksBoth_tt hM) rfl (fun h3 e3 => ?_)
  obtain ⟨hM3, F3⟩ := e3
  have hR3 := hR.obj hM F3
  refine i_ifeq dX12_temperatureAfter_16 (tgt := 21) (by decide) ⟨by decide, by decide⟩ (fun _ => ?_) (fun c => absurd c (by decide))
  refine r_aload_n dX12_temperatureAfter_21 0 rfl ?_
  refine r_iload_n dX12_temperatureAfter_22 1 rfl ?_
  refine i_const (0) dX12_temperatureAfter_23 ?_
  refine p_callV (As := [.int (iI ((i : Int))), .int (iI 0)]) (b := m) (rest := []) (w := (some (.int (iI s.2.2.1)))) (st' := [.int (iI s.2.2.1)]) kv_X12_temperatureAfter_93 dX12_temperatureAfter_24 rfl rfl (Nat.le_of_ble_eq_true rfl) (Nat.le_of_ble_eq_true rfl) (x_rv hM3.1 hM3.2 rfl) rfl rfl (c_X12_of hM3 hR3 (i := i) (w := 0) (by omega) (by decide) hw.1) rfl (fun h4 e4 => ?_)
  rw [show h4 = h3 from e4]
  refine r_istore_n (ls' := [(0, .ref m), (1, .int (iI ((i : Int)))), (2, .int (iI ((n9 : Int)))), (3, .int (iI s.2.2.1))]) dX12_temperatureAfter_27 (by decide) rfl ?_
  refine i_const (0) dX12_temperatureAfter_28 ?_
  refine r_istore (ls' := [(0, .ref m), (1, .int (iI ((i : Int)))), (2, .int (iI ((n9 : Int)))), (3, .int (iI s.2.2.1)), (4, .int (iI 0))]) dX12_temperatureAfter_29 (by decide) rfl ?_
  have L : ∀ k, k ≤ n9 → RR G MX12_temperatureAfter 31 [(0, .ref m), (1, .int (iI ((i : Int)))), (2, .int (iI ((n9 : Int)))), (3, .int (iI (warmAt s ro k))), (4, .int (iI ((k : Int))))] [] h3 (xm_R MX12_temperatureAfter).cells (xm_R MX12_temperatureAfter).slots (fun o h' => o = .inl (some (.int (iI (warmAt s ro n9)))) ∧ MO G h' m a (r_th r 0) ∧ FRp [m] h h') := by
    refine down (fun k hk ih => ?_)
    have hwb := warmAt_b (s := s) (r := ro) ⟨hw0, hw9⟩ hrb k
    refine r_iload dX12_temperatureAfter_31 4 rfl ?_
    refine r_iload_n dX12_temperatureAfter_33 2 rfl ?_
    refine i_icmpge dX12_temperatureAfter_34 (tgt := 55) (by decide) (by unfold in32; omega) (by unfold in32; omega) (fun c34 => ?_) (fun c34 => ?_)
    · refine r_iload_n dX12_temperatureAfter_55 3 rfl ?_
      refine r_ireturn rfl rfl dX12_temperatureAfter_56 ?_
      rw [show n9 = k by omega]
      exact ⟨rfl, hM3, F3⟩
    · refine r_aload_n dX12_temperatureAfter_37 0 rfl ?_
      refine r_iload_n dX12_temperatureAfter_38 3 rfl ?_
      refine r_aload_n dX12_temperatureAfter_39 0 rfl ?_
      refine r_iload_n dX12_temperatureAfter_40 1 rfl ?_
      refine i_const (3) dX12_temperatureAfter_41 ?_
      refine p_callV (As := [.int (iI ((i : Int))), .int (iI 3)]) (b := m) (rest := [.int (iI (warmAt s ro k)), .ref m]) (w := (some (.int (iI (b2 s.2.2.2.2.2.2))))) (st' := [.int (iI (b2 s.2.2.2.2.2.2)), .int (iI (warmAt s ro k)), .ref m]) kv_X12_temperatureAfter_124 dX12_temperatureAfter_42 rfl rfl (Nat.le_of_ble_eq_true rfl) (Nat.le_of_ble_eq_true rfl) (x_rv hM3.1 hM3.2 rfl) rfl rfl (c_X12_is hM3 hR3 (i := i) (w := 3) (by omega) (by decide) hw.2.2.2.1) rfl (fun h51 e51 => ?_)
      rw [show h51 = h3 from e51]
      refine p_callV (As := [.int (iI (warmAt s ro k)), .int (iI (b2 s.2.2.2.2.2.2))]) (b := m) (rest := []) (w := (some (.int (iI (warmAt s ro (k + 1)))))) (st' := [.int (iI (warmAt s ro (k + 1)))]) kv_X12_temperatureAfter_197 dX12_temperatureAfter_45 rfl rfl (Nat.le_of_ble_eq_true rfl) (Nat.le_of_ble_eq_true rfl) (x_rv hM3.1 hM3.2 rfl) rfl rfl (c_X12_later hM3 hR3 hro hrb hwb) rfl (fun h52 e52 => ?_)
      rw [show h52 = h3 from e52]
      refine r_istore_n (ls' := [(0, .ref m), (1, .int (iI ((i : Int)))), (2, .int (iI ((n9 : Int)))), (3, .int (iI (warmAt s ro (k + 1)))), (4, .int (iI ((k : Int))))]) dX12_temperatureAfter_48 (by decide) rfl ?_
      refine i_iinc (ls' := [(0, .ref m), (1, .int (iI ((i : Int)))), (2, .int (iI ((n9 : Int)))), (3, .int (iI (warmAt s ro (k + 1)))), (4, .int (iI ((k : Int) + 1)))]) (1) (v := (k : Int) + 1) dX12_temperatureAfter_49 4 rfl (by omega) (by decide) rfl ?_
      refine r_goto dX12_temperatureAfter_52 (tgt := 31) (by decide) ?_
      exact ih (k + 1) (by omega) (by omega)
  exact L 0 (by omega)
set_option maxRecDepth 20000 in
set_option maxHeartbeats 1000000 in
theorem c_X12_temperatureAfter_bad {G : xG} {h : xH} {m : Nat} {a : MA} {r : MR} (hM : MO G h m a r) {g : Nat → Int32} (hR : AR G h r.1 1456 g) {n : Nat} (hn : n ≤ 6) (hc : g 3 = iI (n : Int)) {i : Nat} (hi : i < n) {s : AS} (hw : SWr g (7 + 207 * i) s) {z9 : Int} (hzi : in32 z9) (hf : inR z9 0 24 = false) : CC G MX12_temperatureAfter [.ref m, .int (iI ((i : Int))), .int (iI z9)] h (fun o h' => o = .inl (some (.int (iI 0))) ∧ MO G h' m a (r_th r 2) ∧ FRp [m] h h') := by
  show RR G MX12_temperatureAfter 0 [(0, .ref m), (1, .int (iI ((i : Int)))), (2, .int (iI z9))] [] h (xm_R MX12_temperatureAfter).cells (xm_R MX12_temperatureAfter).slots (fun o h' => o = .inl (some (.int (iI 0))) ∧ MO G h' m a (r_th r 2) ∧ FRp [m] h h')
  refine r_aload_n dX12_temperatureAfter_0 0 rfl ?_
  refine r_aload_n dX12_temperatureAfter_1 0 rfl ?_
  refine r_iload_n dX12_temperatureAfter_2 1 rfl ?_
  refine p_callV (As := [.int (iI ((i : Int)))]) (b := m) (rest := [.ref m]) (w := (some (.int (iI (b2 true))))) (st' := [.int (iI (b2 true)), .ref m]) kv_X12_temperatureAfter_111 dX12_temperatureAfter_3 rfl rfl (Nat.le_of_ble_eq_true rfl) (Nat.le_of_ble_eq_true rfl) (x_rv hM.1 hM.2 rfl) rfl rfl (c_X12_isSheet_t hM hR hn hc hi) rfl (fun h1 e1 => ?_)
  rw [show h1 = h from e1]
  refine r_iload_n dX12_temperatureAfter_6 2 rfl ?_
  refine i_const (0) dX12_temperatureAfter_7 ?_
  refine i_bipush (24) (by decide) dX12_temperatureAfter_8 ?_
  refine p_callS (As := [.int (iI z9), .int (iI 0), .int (iI 24)]) (rest := [.int (iI (b2 true)), .ref m]) (w := (some (.int (iI (b2 false))))) (st' := [.int (iI (b2 false)), .int (iI (b2 true)), .ref m]) kv_X12_temperatureAfter_107 dX12_temperatureAfter_10 rfl rfl (Nat.le_of_ble_eq_true rfl) (Nat.le_of_ble_eq_true rfl) rfl rfl (c_X12_inRange_b hzi ⟨by decide, by decide⟩ ⟨by decide, by decide⟩ (b := false) hf) rfl (fun h2 e2 => ?_)
  rw [show h2 = h from e2]
  refine p_callV (As := [.int (iI (b2 true)), .int (iI (b2 false))]) (b := m) (rest := []) (w := (some (.int (iI 1)))) (st' := [.int (iI 1)]) kv_X12_temperatureAfter_155 dX12_temperatureAfter_13 rfl rfl (Nat.le_of_ble_eq_true rfl) (Nat.le_of_ble_eq_true rfl) (x_rv hM.1 hM.2 rfl) rfl rfl (c_X12_lacksBoth_tf hM) rfl (fun h3 e3 => ?_)
  obtain ⟨hM3, F3⟩ := e3
  have hR3 := hR.obj hM F3
  refine i_ifeq dX12_temperatureAfter_16 (tgt := 21) (by decide) ⟨by decide, by decide⟩ (fun c => absurd c (by decide)) (fun _ => ?_)
  refine i_const (0) dX12_temperatureAfter_19 ?_
  refine r_ireturn rfl rfl dX12_temperatureAfter_20 ?_
  exact ⟨rfl, hM3, F3⟩
set_option maxRecDepth 20000 in
set_option maxHeartbeats 1000000 in
theorem c_X12_temperatureAfter_not {G : xG} {h : xH} {m : Nat} {a : MA} {r : MR} (hM : MO G h m a r) {g : Nat → Int32} (hR : AR G h r.1 1456 g) {n : Nat} (hn : n ≤ 6) (hc : g 3 = iI (n : Int)) {z : Int} (hz : in32 z) (hs : ¬ (0 ≤ z ∧ z < (n : Int))) {z9 : Int} (hzi : in32 z9) (hf : inR z9 0 24 = true) : CC G MX12_temperatureAfter [.ref m, .int (iI z), .int (iI z9)] h (fun o h' => o = .inl (some (.int (iI 0))) ∧ MO G h' m a (r_th r 1) ∧ FRp [m] h h') := by
  show RR G MX12_temperatureAfter 0 [(0, .ref m), (1, .int (iI z)), (2, .int (iI z9))] [] h (xm_R MX12_temperatureAfter).cells (xm_R MX12_temperatureAfter).slots (fun o h' => o = .inl (some (.int (iI 0))) ∧ MO G h' m a (r_th r 1) ∧ FRp [m] h h')
  refine r_aload_n dX12_temperatureAfter_0 0 rfl ?_
  refine r_aload_n dX12_temperatureAfter_1 0 rfl ?_
  refine r_iload_n dX12_temperatureAfter_2 1 rfl ?_
  refine p_callV (As := [.int (iI z)]) (b := m) (rest := [.ref m]) (w := (some (.int (iI (b2 false))))) (st' := [.int (iI (b2 false)), .ref m]) kv_X12_temperatureAfter_111 dX12_temperatureAfter_3 rfl rfl (Nat.le_of_ble_eq_true rfl) (Nat.le_of_ble_eq_true rfl) (x_rv hM.1 hM.2 rfl) rfl rfl (c_X12_isSheet_f hM hR hn hc hz hs) rfl (fun h1 e1 => ?_)
  rw [show h1 = h from e1]
  refine r_iload_n dX12_temperatureAfter_6 2 rfl ?_
  refine i_const (0) dX12_temperatureAfter_7 ?_
  refine i_bipush (24) (by decide) dX12_temperatureAfter_8 ?_
  refine p_callS (As := [.int (iI z9), .int (iI 0), .int (iI 24)]) (rest := [.int (iI (b2 false)), .ref m]) (w := (some (.int (iI (b2 true))))) (st' := [.int (iI (b2 true)), .int (iI (b2 false)), .ref m]) kv_X12_temperatureAfter_107 dX12_temperatureAfter_10 rfl rfl (Nat.le_of_ble_eq_true rfl) (Nat.le_of_ble_eq_true rfl) rfl rfl (c_X12_inRange_b hzi ⟨by decide, by decide⟩ ⟨by decide, by decide⟩ (b := true) hf) rfl (fun h2 e2 => ?_)
  rw [show h2 = h from e2]
  refine p_callV (As := [.int (iI (b2 false)), .int (iI (b2 true))]) (b := m) (rest := []) (w := (some (.int (iI 1)))) (st' := [.int (iI 1)]) kv_X12_temperatureAfter_155 dX12_temperatureAfter_13 rfl rfl (Nat.le_of_ble_eq_true rfl) (Nat.le_of_ble_eq_true rfl) (x_rv hM.1 hM.2 rfl) rfl rfl (c_X12_lacksBoth_ft hM) rfl (fun h3 e3 => ?_)
  obtain ⟨hM3, F3⟩ := e3
  have hR3 := hR.obj hM F3
  refine i_ifeq dX12_temperatureAfter_16 (tgt := 21) (by decide) ⟨by decide, by decide⟩ (fun c => absurd c (by decide)) (fun _ => ?_)
  refine i_const (0) dX12_temperatureAfter_19 ?_
  refine r_ireturn rfl rfl dX12_temperatureAfter_20 ?_
  exact ⟨rfl, hM3, F3⟩
set_option maxRecDepth 20000 in
set_option maxHeartbeats 1000000 in
theorem c_X12_temperatureAfter_nof {G : xG} {h : xH} {m : Nat} {a : MA} {r : MR} (hM : MO G h m a r) {g : Nat → Int32} (hR : AR G h r.1 1456 g) {n : Nat} (hn : n ≤ 6) (hc : g 3 = iI (n : Int)) {z : Int} (hz : in32 z) (hs : ¬ (0 ≤ z ∧ z < (n : Int))) {z9 : Int} (hzi : in32 z9) (hf : inR z9 0 24 = false) : CC G MX12_temperatureAfter [.ref m, .int (iI z), .int (iI z9)] h (fun o h' => o = .inl (some (.int (iI 0))) ∧ MO G h' m a (r_th r 1) ∧ FRp [m] h h') := by
  show RR G MX12_temperatureAfter 0 [(0, .ref m), (1, .int (iI z)), (2, .int (iI z9))] [] h (xm_R MX12_temperatureAfter).cells (xm_R MX12_temperatureAfter).slots (fun o h' => o = .inl (some (.int (iI 0))) ∧ MO G h' m a (r_th r 1) ∧ FRp [m] h h')
  refine r_aload_n dX12_temperatureAfter_0 0 rfl ?_
  refine r_aload_n dX12_temperatureAfter_1 0 rfl ?_
  refine r_iload_n dX12_temperatureAfter_2 1 rfl ?_
  refine p_callV (As := [.int (iI z)]) (b := m) (rest := [.ref m]) (w := (some (.int (iI (b2 false))))) (st' := [.int (iI (b2 false)), .ref m]) kv_X12_temperatureAfter_111 dX12_temperatureAfter_3 rfl rfl (Nat.le_of_ble_eq_true rfl) (Nat.le_of_ble_eq_true rfl) (x_rv hM.1 hM.2 rfl) rfl rfl (c_X12_isSheet_f hM hR hn hc hz hs) rfl (fun h1 e1 => ?_)
  rw [show h1 = h from e1]
  refine r_iload_n dX12_temperatureAfter_6 2 rfl ?_
  refine i_const (0) dX12_temperatureAfter_7 ?_
  refine i_bipush (24) (by decide) dX12_temperatureAfter_8 ?_
  refine p_callS (As := [.int (iI z9), .int (iI 0), .int (iI 24)]) (rest := [.int (iI (b2 false)), .ref m]) (w := (some (.int (iI (b2 false))))) (st' := [.int (iI (b2 false)), .int (iI (b2 false)), .ref m]) kv_X12_temperatureAfter_107 dX12_temperatureAfter_10 rfl rfl (Nat.le_of_ble_eq_true rfl) (Nat.le_of_ble_eq_true rfl) rfl rfl (c_X12_inRange_b hzi ⟨by decide, by decide⟩ ⟨by decide, by decide⟩ (b := false) hf) rfl (fun h2 e2 => ?_)
  rw [show h2 = h from e2]
  refine p_callV (As := [.int (iI (b2 false)), .int (iI (b2 false))]) (b := m) (rest := []) (w := (some (.int (iI 1)))) (st' := [.int (iI 1)]) kv_X12_temperatureAfter_155 dX12_temperatureAfter_13 rfl rfl (Nat.le_of_ble_eq_true rfl) (Nat.le_of_ble_eq_true rfl) (x_rv hM.1 hM.2 rfl) rfl rfl (c_X12_lacksBoth_ff hM) rfl (fun h3 e3 => ?_)
  obtain ⟨hM3, F3⟩ := e3
  have hR3 := hR.obj hM F3
  refine i_ifeq dX12_temperatureAfter_16 (tgt := 21) (by decide) ⟨by decide, by decide⟩ (fun c => absurd c (by decide)) (fun _ => ?_)
  refine i_const (0) dX12_temperatureAfter_19 ?_
  refine r_ireturn rfl rfl dX12_temperatureAfter_20 ?_
  exact ⟨rfl, hM3, F3⟩
theorem c_X12_temperatureAfter_no {G : xG} {h : xH} {m : Nat} {a : MA} {r : MR} (hM : MO G h m a r) {g : Nat → Int32} (hR : AR G h r.1 1456 g) {n : Nat} (hn : n ≤ 6) (hc : g 3 = iI (n : Int)) {z : Int} (hz : in32 z) (hs : ¬ (0 ≤ z ∧ z < (n : Int))) {z9 : Int} (hzi : in32 z9) : CC G MX12_temperatureAfter [.ref m, .int (iI z), .int (iI z9)] h (fun o h' => o = .inl (some (.int (iI 0))) ∧ MO G h' m a (r_th r 1) ∧ FRp [m] h h') := by
  cases hf : inR z9 0 24
  · exact c_X12_temperatureAfter_nof hM hR hn hc hz hs hzi hf
  · exact c_X12_temperatureAfter_not hM hR hn hc hz hs hzi hf
set_option maxRecDepth 20000 in
set_option maxHeartbeats 1000000 in
theorem c_X12_hoursToSafety_ok {G : xG} {h : xH} {m : Nat} {a : MA} {r : MR} (hM : MO G h m a r) {g : Nat → Int32} (hR : AR G h r.1 1456 g) {n : Nat} (hn : n ≤ 6) (hc : g 3 = iI (n : Int)) {i : Nat} (hi : i < n) {s : AS} (hw : SWr g (7 + 207 * i) s) (hW : WS s) {me : Int} (hme : g 1 = iI me) (hmb : 5 ≤ me ∧ me ≤ 35) : CC G MX12_hoursToSafety [.ref m, .int (iI ((i : Int)))] h (fun o h' => o = .inl (some (.int (iI (safeH me 40 s.2.2.1)))) ∧ MO G h' m a (r_th r 0) ∧ FRp [m] h h') := by
  obtain ⟨hl1, hnz, hh4, hw0, hw9⟩ := id hW
  have hl2 := hw.len
  have hg0 := hgt_nn s.1
  have hgl := hgt_ge s.1 hnz
  show RR G MX12_hoursToSafety 0 [(0, .ref m), (1, .int (iI ((i : Int))))] [] h (xm_R MX12_hoursToSafety).cells (xm_R MX12_hoursToSafety).slots (fun o h' => o = .inl (some (.int (iI (safeH me 40 s.2.2.1)))) ∧ MO G h' m a (r_th r 0) ∧ FRp [m] h h')
  refine r_aload_n dX12_hoursToSafety_0 0 rfl ?_
  refine r_aload_n dX12_hoursToSafety_1 0 rfl ?_
  refine r_iload_n dX12_hoursToSafety_2 1 rfl ?_
  refine p_callV (As := [.int (iI ((i : Int)))]) (b := m) (rest := [.ref m]) (w := (some (.int (iI (b2 true))))) (st' := [.int (iI (b2 true)), .ref m]) kv_X12_hoursToSafety_111 dX12_hoursToSafety_3 rfl rfl (Nat.le_of_ble_eq_true rfl) (Nat.le_of_ble_eq_true rfl) (x_rv hM.1 hM.2 rfl) rfl rfl (c_X12_isSheet_t hM hR hn hc hi) rfl (fun h1 e1 => ?_)
  rw [show h1 = h from e1]
  refine p_callV (As := [.int (iI (b2 true))]) (b := m) (rest := []) (w := (some (.int (iI 0)))) (st' := [.int (iI 0)]) kv_X12_hoursToSafety_82 dX12_hoursToSafety_6 rfl rfl (Nat.le_of_ble_eq_true rfl) (Nat.le_of_ble_eq_true rfl) (x_rv hM.1 hM.2 rfl) rfl rfl (c_X12_lacks_t hM) rfl (fun h2 e2 => ?_)
  obtain ⟨hM2, F2⟩ := e2
  have hR2 := hR.obj hM F2
  refine i_ifeq dX12_hoursToSafety_9 (tgt := 14) (by decide) ⟨by decide, by decide⟩ (fun _ => ?_) (fun c => absurd c (by decide))
  refine i_const (0) dX12_hoursToSafety_14 ?_
  refine r_istore_n (ls' := [(0, .ref m), (1, .int (iI ((i : Int)))), (2, .int (iI 0))]) dX12_hoursToSafety_15 (by decide) rfl ?_
  refine r_aload_n dX12_hoursToSafety_16 0 rfl ?_
  refine r_iload_n dX12_hoursToSafety_17 1 rfl ?_
  refine i_const (0) dX12_hoursToSafety_18 ?_
  refine p_callV (As := [.int (iI ((i : Int))), .int (iI 0)]) (b := m) (rest := []) (w := (some (.int (iI s.2.2.1)))) (st' := [.int (iI s.2.2.1)]) kv_X12_hoursToSafety_93 dX12_hoursToSafety_19 rfl rfl (Nat.le_of_ble_eq_true rfl) (Nat.le_of_ble_eq_true rfl) (x_rv hM2.1 hM2.2 rfl) rfl rfl (c_X12_of hM2 hR2 (i := i) (w := 0) (by omega) (by decide) hw.1) rfl (fun h3 e3 => ?_)
  rw [show h3 = h2 from e3]
  refine r_istore_n (ls' := [(0, .ref m), (1, .int (iI ((i : Int)))), (2, .int (iI 0)), (3, .int (iI s.2.2.1))]) dX12_hoursToSafety_22 (by decide) rfl ?_
  have L : ∀ (n9 : Nat) (w z : Int), 0 ≤ w ∧ w ≤ n9 → 0 ≤ z ∧ z + w ≤ 40 → RR G MX12_hoursToSafety 23 [(0, .ref m), (1, .int (iI ((i : Int)))), (2, .int (iI z)), (3, .int (iI w))] [] h2 (xm_R MX12_hoursToSafety).cells (xm_R MX12_hoursToSafety).slots (fun o h' => o = .inl (some (.int (iI (z + safeH me n9 w)))) ∧ MO G h' m a (r_th r 0) ∧ FRp [m] h h') := by
    intro n9
    induction n9 with
    | zero =>
      intro w z hw1 hz1
      refine r_iload_n dX12_hoursToSafety_23 3 rfl ?_
      refine r_aload_n dX12_hoursToSafety_24 0 rfl ?_
      refine m_g_rr (v := r.1) hM2 rfl kf_X12_25 dX12_hoursToSafety_25 ?_
      refine i_const (1) dX12_hoursToSafety_28 ?_
      refine m_ld (v := iI me) 1 rfl hme hR2 dX12_hoursToSafety_29 (by omega) (by decide) ?_
      refine i_icmple dX12_hoursToSafety_30 (tgt := 44) (by decide) (by unfold in32; omega) (by unfold in32; omega) (fun c30 => ?_) (fun c30 => ?_)
      · refine r_iload_n dX12_hoursToSafety_44 2 rfl ?_
        refine r_ireturn rfl rfl dX12_hoursToSafety_45 ?_
        have e : z + safeH me 0 w = z := by rw [safeH]; omega
        rw [e]
        exact ⟨rfl, hM2, F2⟩
      · refine r_iload_n dX12_hoursToSafety_33 3 rfl ?_
        refine p_callS (As := [.int (iI w)]) (rest := []) (w := (some (.int (iI (cooled w))))) (st' := [.int (iI (cooled w))]) kv_X12_hoursToSafety_194 dX12_hoursToSafety_34 rfl rfl (Nat.le_of_ble_eq_true rfl) (Nat.le_of_ble_eq_true rfl) rfl rfl (c_X12_cooled (by omega)) rfl (fun h51 e51 => ?_)
        rw [show h51 = h2 from e51]
        refine r_istore_n (ls' := [(0, .ref m), (1, .int (iI ((i : Int)))), (2, .int (iI z)), (3, .int (iI (cooled w)))]) dX12_hoursToSafety_37 (by decide) rfl ?_
        refine i_iinc (ls' := [(0, .ref m), (1, .int (iI ((i : Int)))), (2, .int (iI (z + 1))), (3, .int (iI (cooled w)))]) (1) (v := z + 1) dX12_hoursToSafety_38 2 rfl (by omega) (by decide) rfl ?_
        refine r_goto dX12_hoursToSafety_41 (tgt := 23) (by decide) ?_
        exfalso
        omega
    | succ n9 ih =>
      intro w z hw1 hz1
      refine r_iload_n dX12_hoursToSafety_23 3 rfl ?_
      refine r_aload_n dX12_hoursToSafety_24 0 rfl ?_
      refine m_g_rr (v := r.1) hM2 rfl kf_X12_25 dX12_hoursToSafety_25 ?_
      refine i_const (1) dX12_hoursToSafety_28 ?_
      refine m_ld (v := iI me) 1 rfl hme hR2 dX12_hoursToSafety_29 (by omega) (by decide) ?_
      refine i_icmple dX12_hoursToSafety_30 (tgt := 44) (by decide) (by unfold in32; omega) (by unfold in32; omega) (fun c30 => ?_) (fun c30 => ?_)
      · refine r_iload_n dX12_hoursToSafety_44 2 rfl ?_
        refine r_ireturn rfl rfl dX12_hoursToSafety_45 ?_
        have e : z + safeH me (n9 + 1) w = z := by rw [safeH, if_neg (by omega)]; omega
        rw [e]
        exact ⟨rfl, hM2, F2⟩
      · refine r_iload_n dX12_hoursToSafety_33 3 rfl ?_
        refine p_callS (As := [.int (iI w)]) (rest := []) (w := (some (.int (iI (cooled w))))) (st' := [.int (iI (cooled w))]) kv_X12_hoursToSafety_194 dX12_hoursToSafety_34 rfl rfl (Nat.le_of_ble_eq_true rfl) (Nat.le_of_ble_eq_true rfl) rfl rfl (c_X12_cooled (by omega)) rfl (fun h51 e51 => ?_)
        rw [show h51 = h2 from e51]
        refine r_istore_n (ls' := [(0, .ref m), (1, .int (iI ((i : Int)))), (2, .int (iI z)), (3, .int (iI (cooled w)))]) dX12_hoursToSafety_37 (by decide) rfl ?_
        refine i_iinc (ls' := [(0, .ref m), (1, .int (iI ((i : Int)))), (2, .int (iI (z + 1))), (3, .int (iI (cooled w)))]) (1) (v := z + 1) dX12_hoursToSafety_38 2 rfl (by omega) (by decide) rfl ?_
        refine r_goto dX12_hoursToSafety_41 (tgt := 23) (by decide) ?_
        have e2 : 0 ≤ cooled w ∧ cooled w ≤ w - 1 := by unfold cooled; split <;> omega
        have q2 := ih (cooled w) (z + 1) (by omega) (by omega)
        rw [show z + safeH me (n9 + 1) w = z + 1 + safeH me n9 (cooled w) by rw [safeH, if_pos (by omega)]; omega]
        exact q2
  have q2 := L 40 s.2.2.1 0 (by omega) (by omega)
  rw [Int.zero_add] at q2
  exact q2
set_option maxRecDepth 20000 in
set_option maxHeartbeats 1000000 in
theorem c_X12_hoursToSafety_no {G : xG} {h : xH} {m : Nat} {a : MA} {r : MR} (hM : MO G h m a r) {g : Nat → Int32} (hR : AR G h r.1 1456 g) {n : Nat} (hn : n ≤ 6) (hc : g 3 = iI (n : Int)) {z : Int} (hz : in32 z) (hs : ¬ (0 ≤ z ∧ z < (n : Int))) : CC G MX12_hoursToSafety [.ref m, .int (iI z)] h (fun o h' => o = .inl (some (.int (iI 0))) ∧ MO G h' m a (r_th r 1) ∧ FRp [m] h h') := by
  show RR G MX12_hoursToSafety 0 [(0, .ref m), (1, .int (iI z))] [] h (xm_R MX12_hoursToSafety).cells (xm_R MX12_hoursToSafety).slots (fun o h' => o = .inl (some (.int (iI 0))) ∧ MO G h' m a (r_th r 1) ∧ FRp [m] h h')
  refine r_aload_n dX12_hoursToSafety_0 0 rfl ?_
  refine r_aload_n dX12_hoursToSafety_1 0 rfl ?_
  refine r_iload_n dX12_hoursToSafety_2 1 rfl ?_
  refine p_callV (As := [.int (iI z)]) (b := m) (rest := [.ref m]) (w := (some (.int (iI (b2 false))))) (st' := [.int (iI (b2 false)), .ref m]) kv_X12_hoursToSafety_111 dX12_hoursToSafety_3 rfl rfl (Nat.le_of_ble_eq_true rfl) (Nat.le_of_ble_eq_true rfl) (x_rv hM.1 hM.2 rfl) rfl rfl (c_X12_isSheet_f hM hR hn hc hz hs) rfl (fun h1 e1 => ?_)
  rw [show h1 = h from e1]
  refine p_callV (As := [.int (iI (b2 false))]) (b := m) (rest := []) (w := (some (.int (iI 1)))) (st' := [.int (iI 1)]) kv_X12_hoursToSafety_82 dX12_hoursToSafety_6 rfl rfl (Nat.le_of_ble_eq_true rfl) (Nat.le_of_ble_eq_true rfl) (x_rv hM.1 hM.2 rfl) rfl rfl (c_X12_lacks_f hM) rfl (fun h2 e2 => ?_)
  obtain ⟨hM2, F2⟩ := e2
  have hR2 := hR.obj hM F2
  refine i_ifeq dX12_hoursToSafety_9 (tgt := 14) (by decide) ⟨by decide, by decide⟩ (fun c => absurd c (by decide)) (fun _ => ?_)
  refine i_const (0) dX12_hoursToSafety_12 ?_
  refine r_ireturn rfl rfl dX12_hoursToSafety_13 ?_
  exact ⟨rfl, hM2, F2⟩
set_option maxRecDepth 20000 in
set_option maxHeartbeats 1000000 in
theorem c_X12_countWarm {G : xG} {h : xH} {m : Nat} {a : MA} {r : MR} (hM : MO G h m a r) {g : Nat → Int32} (hR : AR G h r.1 1456 g) {B : AB} (hRW : RWc g 0 B) (hWs : ∀ s ∈ B.2, WS s) (hmb : 0 ≤ B.1.2.1 ∧ B.1.2.1 ≤ 40) : CC G MX12_countWarm [.ref m] h (qI (cnt (unsafeS B.1.2.1) B.2) h) := by
  have hB6 := hRW.2.1
  have L : ∀ i, i ≤ B.2.length → RR G MX12_countWarm 4 [(0, .ref m), (1, .int (iI (cnt (unsafeS B.1.2.1) (B.2.take i)))), (2, .int (iI ((i : Int))))] [] h (xm_R MX12_countWarm).cells (xm_R MX12_countWarm).slots (qI (cnt (unsafeS B.1.2.1) B.2) h) := by
    refine down (fun i hk ih => ?_)
    refine r_iload_n dX12_countWarm_4 2 rfl ?_
    refine r_aload_n dX12_countWarm_5 0 rfl ?_
    refine m_g_rr (v := r.1) hM rfl kf_X12_25 dX12_countWarm_6 ?_
    refine i_const (3) dX12_countWarm_9 ?_
    refine m_ld (v := iI ((B.2.length : Int))) 3 rfl hRW.1.2.2.2.1 hR dX12_countWarm_10 (by omega) (by decide) ?_
    refine i_icmpge dX12_countWarm_11 (tgt := 43) (by decide) (by unfold in32; omega) (by unfold in32; omega) (fun c11 => ?_) (fun c11 => ?_)
    · refine r_iload_n dX12_countWarm_43 1 rfl ?_
      refine r_ireturn rfl rfl dX12_countWarm_44 ?_
      rw [show i = B.2.length by omega, take_allS]
      exact ⟨rfl, rfl⟩
    · have hw := hRW.s (i := i) (by omega)
      have hWi := hWs _ (getD_memS (l := B.2) (i := i) (by omega))
      have hb1 := hWi.2.2.2
      refine r_iload_n dX12_countWarm_14 1 rfl ?_
      refine r_aload_n dX12_countWarm_15 0 rfl ?_
      refine r_iload_n dX12_countWarm_16 2 rfl ?_
      refine i_const (0) dX12_countWarm_17 ?_
      refine p_callV (As := [.int (iI ((i : Int))), .int (iI 0)]) (b := m) (rest := [.int (iI (cnt (unsafeS B.1.2.1) (B.2.take i)))]) (w := (some (.int (iI ((B.2.getD i dS).2.2.1))))) (st' := [.int (iI ((B.2.getD i dS).2.2.1)), .int (iI (cnt (unsafeS B.1.2.1) (B.2.take i)))]) kv_X12_countWarm_93 dX12_countWarm_18 rfl rfl (Nat.le_of_ble_eq_true rfl) (Nat.le_of_ble_eq_true rfl) (x_rv hM.1 hM.2 rfl) rfl rfl (c_X12_of hM hR (i := i) (w := 0) (by omega) (by decide) hw.1) rfl (fun h1 e1 => ?_)
      rw [show h1 = h from e1]
      refine r_aload_n dX12_countWarm_21 0 rfl ?_
      refine m_g_rr (v := r.1) hM rfl kf_X12_25 dX12_countWarm_22 ?_
      refine i_const (1) dX12_countWarm_25 ?_
      refine m_ld (v := iI B.1.2.1) 1 rfl hRW.1.2.1 hR dX12_countWarm_26 (by omega) (by decide) ?_
      refine i_icmple dX12_countWarm_27 (tgt := 34) (by decide) (by unfold in32; omega) (by unfold in32; omega) (fun c27 => ?_) (fun c27 => ?_)
      · refine i_const (0) dX12_countWarm_34 ?_
        refine i_add dX12_countWarm_35 ?_
        refine r_istore_n (ls' := [(0, .ref m), (1, .int (iI ((cnt (unsafeS B.1.2.1) (B.2.take i)) + 0))), (2, .int (iI ((i : Int))))]) dX12_countWarm_36 (by decide) rfl ?_
        refine i_iinc (ls' := [(0, .ref m), (1, .int (iI ((cnt (unsafeS B.1.2.1) (B.2.take i)) + 0))), (2, .int (iI ((i : Int) + 1)))]) (1) (v := (i : Int) + 1) dX12_countWarm_37 2 rfl (by omega) (by decide) rfl ?_
        refine r_goto dX12_countWarm_40 (tgt := 4) (by decide) ?_
        have q := ih (i + 1) (by omega) (by omega)
        rw [cnt_f (show i < B.2.length by omega) (decide_eq_false (by omega)), ← Int.add_zero (cnt (unsafeS B.1.2.1) (B.2.take i))] at q
        exact q
      · refine i_const (1) dX12_countWarm_30 ?_
        refine r_goto dX12_countWarm_31 (tgt := 35) (by decide) ?_
        refine i_add dX12_countWarm_35 ?_
        refine r_istore_n (ls' := [(0, .ref m), (1, .int (iI ((cnt (unsafeS B.1.2.1) (B.2.take i)) + 1))), (2, .int (iI ((i : Int))))]) dX12_countWarm_36 (by decide) rfl ?_
        refine i_iinc (ls' := [(0, .ref m), (1, .int (iI ((cnt (unsafeS B.1.2.1) (B.2.take i)) + 1))), (2, .int (iI ((i : Int) + 1)))]) (1) (v := (i : Int) + 1) dX12_countWarm_37 2 rfl (by omega) (by decide) rfl ?_
        refine r_goto dX12_countWarm_40 (tgt := 4) (by decide) ?_
        have q := ih (i + 1) (by omega) (by omega)
        rw [cnt_t (show i < B.2.length by omega) (decide_eq_true c27)] at q
        exact q
  show RR G MX12_countWarm 0 [(0, .ref m)] [] h (xm_R MX12_countWarm).cells (xm_R MX12_countWarm).slots (qI (cnt (unsafeS B.1.2.1) B.2) h)
  refine i_const (0) dX12_countWarm_0 ?_
  refine r_istore_n (ls' := [(0, .ref m), (1, .int (iI 0))]) dX12_countWarm_1 (by decide) rfl ?_
  refine i_const (0) dX12_countWarm_2 ?_
  refine r_istore_n (ls' := [(0, .ref m), (1, .int (iI 0)), (2, .int (iI 0))]) dX12_countWarm_3 (by decide) rfl ?_
  exact L 0 (by omega)
set_option maxRecDepth 20000 in
set_option maxHeartbeats 1000000 in
theorem c_X12_errorCode {G : xG} {h : xH} {m : Nat} {a : MA} {r : MR} (hM : MO G h m a r) : CC G MX12_errorCode [.ref m] h (fun o h' => o = .inl (some (.int (iI r.2.2.2.1))) ∧ MO G h' m a (r_th r 0) ∧ FRp [m] h h') := by
  show RR G MX12_errorCode 0 [(0, .ref m)] [] h (xm_R MX12_errorCode).cells (xm_R MX12_errorCode).slots (fun o h' => o = .inl (some (.int (iI r.2.2.2.1))) ∧ MO G h' m a (r_th r 0) ∧ FRp [m] h h')
  refine r_aload_n dX12_errorCode_0 0 rfl ?_
  refine i_const (0) dX12_errorCode_1 ?_
  refine m_p_th (v := 0) hM kf_X12_79 dX12_errorCode_2 (fun h1 hM1 F1 => ?_)
  refine r_aload_n dX12_errorCode_5 0 rfl ?_
  refine m_g_lc (v := r.2.2.2.1) hM1 rfl kf_X12_343 dX12_errorCode_6 ?_
  refine r_ireturn rfl rfl dX12_errorCode_9 ?_
  exact ⟨rfl, hM1, F1⟩
set_option maxRecDepth 20000 in
set_option maxHeartbeats 1000000 in
theorem c_X12_errorOffset {G : xG} {h : xH} {m : Nat} {a : MA} {r : MR} (hM : MO G h m a r) : CC G MX12_errorOffset [.ref m] h (fun o h' => o = .inl (some (.int (iI r.2.2.2.2.2.2.2.2.2.2.2.2.2.2.2.2.2.1))) ∧ MO G h' m a (r_th r 0) ∧ FRp [m] h h') := by
  show RR G MX12_errorOffset 0 [(0, .ref m)] [] h (xm_R MX12_errorOffset).cells (xm_R MX12_errorOffset).slots (fun o h' => o = .inl (some (.int (iI r.2.2.2.2.2.2.2.2.2.2.2.2.2.2.2.2.2.1))) ∧ MO G h' m a (r_th r 0) ∧ FRp [m] h h')
  refine r_aload_n dX12_errorOffset_0 0 rfl ?_
  refine i_const (0) dX12_errorOffset_1 ?_
  refine m_p_th (v := 0) hM kf_X12_79 dX12_errorOffset_2 (fun h1 hM1 F1 => ?_)
  refine r_aload_n dX12_errorOffset_5 0 rfl ?_
  refine m_g_ep (v := r.2.2.2.2.2.2.2.2.2.2.2.2.2.2.2.2.2.1) hM1 rfl kf_X12_34 dX12_errorOffset_6 ?_
  refine r_ireturn rfl rfl dX12_errorOffset_9 ?_
  exact ⟨rfl, hM1, F1⟩
set_option maxRecDepth 20000 in
set_option maxHeartbeats 1000000 in
theorem c_X12_undoableCount {G : xG} {h : xH} {m : Nat} {a : MA} {r : MR} (hM : MO G h m a r) : CC G MX12_undoableCount [.ref m] h (fun o h' => o = .inl (some (.int (iI r.2.1))) ∧ MO G h' m a (r_th r 0) ∧ FRp [m] h h') := by
  show RR G MX12_undoableCount 0 [(0, .ref m)] [] h (xm_R MX12_undoableCount).cells (xm_R MX12_undoableCount).slots (fun o h' => o = .inl (some (.int (iI r.2.1))) ∧ MO G h' m a (r_th r 0) ∧ FRp [m] h h')
  refine r_aload_n dX12_undoableCount_0 0 rfl ?_
  refine i_const (0) dX12_undoableCount_1 ?_
  refine m_p_th (v := 0) hM kf_X12_79 dX12_undoableCount_2 (fun h1 hM1 F1 => ?_)
  refine r_aload_n dX12_undoableCount_5 0 rfl ?_
  refine m_g_un (v := r.2.1) hM1 rfl kf_X12_224 dX12_undoableCount_6 ?_
  refine r_ireturn rfl rfl dX12_undoableCount_9 ?_
  exact ⟨rfl, hM1, F1⟩
set_option maxRecDepth 20000 in
set_option maxHeartbeats 1000000 in
theorem c_X12_thrown {G : xG} {h : xH} {m : Nat} {a : MA} {r : MR} (hM : MO G h m a r) : CC G MX12_thrown [.ref m] h (qI (r.2.2.1) h) := by
  show RR G MX12_thrown 0 [(0, .ref m)] [] h (xm_R MX12_thrown).cells (xm_R MX12_thrown).slots (qI (r.2.2.1) h)
  refine r_aload_n dX12_thrown_0 0 rfl ?_
  refine m_g_th (v := r.2.2.1) hM rfl kf_X12_79 dX12_thrown_1 ?_
  refine r_ireturn rfl rfl dX12_thrown_4 ?_
  exact ⟨rfl, rfl⟩
set_option maxRecDepth 20000 in
set_option maxHeartbeats 1000000 in
theorem c_X12_outputByte_ok {G : xG} {h : xH} {m : Nat} {a : MA} {r : MR} (hM : MO G h m a r) {go : Nat → Int32} (hO : AR G h a.2.2.2.2.2.1 1300 go) {no : Nat} (hno : no ≤ 1300) (hol : r.2.2.2.2.2.2.2.2.2.1 = (no : Int)) {z : Int} (hz : in32 z) (hf : 0 ≤ z ∧ z < (no : Int)) {v : Int32} (hv : go z.toNat = v) : CC G MX12_outputByte [.ref m, .int (iI z)] h (fun o h' => o = .inl (some (.int v)) ∧ MO G h' m a (r_th r 0) ∧ FRp [m] h h') := by
  show RR G MX12_outputByte 0 [(0, .ref m), (1, .int (iI z))] [] h (xm_R MX12_outputByte).cells (xm_R MX12_outputByte).slots (fun o h' => o = .inl (some (.int v)) ∧ MO G h' m a (r_th r 0) ∧ FRp [m] h h')
  refine r_aload_n dX12_outputByte_0 0 rfl ?_
  refine r_iload_n dX12_outputByte_1 1 rfl ?_
  refine i_const (0) dX12_outputByte_2 ?_
  refine r_aload_n dX12_outputByte_3 0 rfl ?_
  refine m_g_ol (v := (no : Int)) hM hol kf_X12_266 dX12_outputByte_4 ?_
  refine i_const (1) dX12_outputByte_7 ?_
  refine i_sub dX12_outputByte_8 ?_
  refine p_callS (As := [.int (iI z), .int (iI 0), .int (iI ((no : Int) - 1))]) (rest := [.ref m]) (w := (some (.int (iI (b2 true))))) (st' := [.int (iI (b2 true)), .ref m]) kv_X12_outputByte_107 dX12_outputByte_9 rfl rfl (Nat.le_of_ble_eq_true rfl) (Nat.le_of_ble_eq_true rfl) rfl rfl (c_X12_inRange_b hz ⟨by decide, by decide⟩ (by unfold in32; omega) (b := true) (by unfold inR; rw [decide_eq_true (by omega), decide_eq_true (by omega)]; rfl)) rfl (fun h1 e1 => ?_)
  rw [show h1 = h from e1]
  refine p_callV (As := [.int (iI (b2 true))]) (b := m) (rest := []) (w := (some (.int (iI 0)))) (st' := [.int (iI 0)]) kv_X12_outputByte_82 dX12_outputByte_12 rfl rfl (Nat.le_of_ble_eq_true rfl) (Nat.le_of_ble_eq_true rfl) (x_rv hM.1 hM.2 rfl) rfl rfl (c_X12_lacks_t hM) rfl (fun h2 e2 => ?_)
  obtain ⟨hM2, F2⟩ := e2
  have hO_2 := hO.obj hM F2
  refine i_ifeq dX12_outputByte_15 (tgt := 22) (by decide) ⟨by decide, by decide⟩ (fun _ => ?_) (fun c => absurd c (by decide))
  refine r_aload_n dX12_outputByte_22 0 rfl ?_
  refine m_g_ou (v := a.2.2.2.2.2.1) hM2 rfl kf_X12_28 dX12_outputByte_23 ?_
  refine r_iload_n dX12_outputByte_26 1 rfl ?_
  refine m_ld (v := v) z.toNat (by omega) hv hO_2 dX12_outputByte_27 (by omega) (by decide) ?_
  refine r_ireturn rfl rfl dX12_outputByte_28 ?_
  exact ⟨rfl, hM2, F2⟩
set_option maxRecDepth 20000 in
set_option maxHeartbeats 1000000 in
theorem c_X12_outputByte_no {G : xG} {h : xH} {m : Nat} {a : MA} {r : MR} (hM : MO G h m a r) {go : Nat → Int32} (hO : AR G h a.2.2.2.2.2.1 1300 go) {no : Nat} (hno : no ≤ 1300) (hol : r.2.2.2.2.2.2.2.2.2.1 = (no : Int)) {z : Int} (hz : in32 z) (hf : ¬ (0 ≤ z ∧ z < (no : Int))) : CC G MX12_outputByte [.ref m, .int (iI z)] h (fun o h' => o = .inl (some (.int (iI 0))) ∧ MO G h' m a (r_th r 1) ∧ FRp [m] h h') := by
  show RR G MX12_outputByte 0 [(0, .ref m), (1, .int (iI z))] [] h (xm_R MX12_outputByte).cells (xm_R MX12_outputByte).slots (fun o h' => o = .inl (some (.int (iI 0))) ∧ MO G h' m a (r_th r 1) ∧ FRp [m] h h')
  refine r_aload_n dX12_outputByte_0 0 rfl ?_
  refine r_iload_n dX12_outputByte_1 1 rfl ?_
  refine i_const (0) dX12_outputByte_2 ?_
  refine r_aload_n dX12_outputByte_3 0 rfl ?_
  refine m_g_ol (v := (no : Int)) hM hol kf_X12_266 dX12_outputByte_4 ?_
  refine i_const (1) dX12_outputByte_7 ?_
  refine i_sub dX12_outputByte_8 ?_
  refine p_callS (As := [.int (iI z), .int (iI 0), .int (iI ((no : Int) - 1))]) (rest := [.ref m]) (w := (some (.int (iI (b2 false))))) (st' := [.int (iI (b2 false)), .ref m]) kv_X12_outputByte_107 dX12_outputByte_9 rfl rfl (Nat.le_of_ble_eq_true rfl) (Nat.le_of_ble_eq_true rfl) rfl rfl (c_X12_inRange_b hz ⟨by decide, by decide⟩ (by unfold in32; omega) (b := false) (by unfold inR; simp; omega)) rfl (fun h1 e1 => ?_)
  rw [show h1 = h from e1]
  refine p_callV (As := [.int (iI (b2 false))]) (b := m) (rest := []) (w := (some (.int (iI 1)))) (st' := [.int (iI 1)]) kv_X12_outputByte_82 dX12_outputByte_12 rfl rfl (Nat.le_of_ble_eq_true rfl) (Nat.le_of_ble_eq_true rfl) (x_rv hM.1 hM.2 rfl) rfl rfl (c_X12_lacks_f hM) rfl (fun h2 e2 => ?_)
  obtain ⟨hM2, F2⟩ := e2
  have hO_2 := hO.obj hM F2
  refine i_ifeq dX12_outputByte_15 (tgt := 22) (by decide) ⟨by decide, by decide⟩ (fun c => absurd c (by decide)) (fun _ => ?_)
  refine i_const (0) dX12_outputByte_18 ?_
  refine r_goto dX12_outputByte_19 (tgt := 28) (by decide) ?_
  refine r_ireturn rfl rfl dX12_outputByte_28 ?_
  exact ⟨rfl, hM2, F2⟩
