/-! ===== the reference: what it keeps ===== -/
set_option maxRecDepth 20000 in
set_option maxHeartbeats 1000000 in
theorem c_X12_copy {G : xG} {h : xH} {q q' n n' : Nat} {f g : Nat → Int32} (hS : AR G h q n f) (hR : AR G h q' n' g) {sj dj : Nat} (h4 : 1456 * sj + 1456 ≤ n) (h5 : 1456 * dj + 1456 ≤ n') (h6 : n < 2 ^ 31) (h7 : n' < 2 ^ 31) : CC G MX12_copy [.ref q, .int (iI (sj : Int)), .ref q', .int (iI (dj : Int))] h (fun o h' => o = .inl none ∧ AR G h' q' n' (va_cpy f g (1456 * sj) (1456 * dj) 1456) ∧ FRp [q'] h h') := by
  show RR G MX12_copy 0 [(0, .ref q), (1, .int (iI ((sj : Int)))), (2, .ref q'), (3, .int (iI ((dj : Int))))] [] h (xm_R MX12_copy).cells (xm_R MX12_copy).slots (fun o h' => o = .inl none ∧ AR G h' q' n' (va_cpy f g (1456 * sj) (1456 * dj) 1456) ∧ FRp [q'] h h')
  refine r_aload_n dX12_copy_0 0 rfl ?_
  refine i_sipush (1456) (by decide) dX12_copy_1 ?_
  refine r_iload_n dX12_copy_4 1 rfl ?_
  refine i_mul dX12_copy_5 ?_
  refine r_aload_n dX12_copy_6 2 rfl ?_
  refine i_sipush (1456) (by decide) dX12_copy_7 ?_
  refine r_iload_n dX12_copy_10 3 rfl ?_
  refine i_mul dX12_copy_11 ?_
  refine i_sipush (1456) (by decide) dX12_copy_12 ?_
  refine m_cp (1456 * sj) (1456 * dj) 1456 (by omega) (by omega) rfl (kv_X12_copy_115 0 (by decide)) rfl dX12_copy_15 hS hR (by omega) (by omega) h6 h7 (fun hn hZ FZ => ?_)
  refine r_return rfl dX12_copy_18 ?_
  exact ⟨rfl, hZ, FZ⟩
theorem c_X12_copy_z {G : xG} {h : xH} {q q' n n' : Nat} {f g : Nat → Int32} (hS : AR G h q n f) (hR : AR G h q' n' g) {sj dj : Nat} {z y : Int} (hz : z = (sj : Int)) (hy : y = (dj : Int)) (h4 : 1456 * sj + 1456 ≤ n) (h5 : 1456 * dj + 1456 ≤ n') (h6 : n < 2 ^ 31) (h7 : n' < 2 ^ 31) : CC G MX12_copy [.ref q, .int (iI z), .ref q', .int (iI y)] h (fun o h' => o = .inl none ∧ AR G h' q' n' (va_cpy f g (1456 * sj) (1456 * dj) 1456) ∧ FRp [q'] h h') := by
  subst hz; subst hy; exact c_X12_copy hS hR h4 h5 h6 h7
theorem cpy_in {f g : Nat → Int32} {sj dj k : Nat} (hk : k < 1456) : va_cpy f g (1456 * sj) (1456 * dj) 1456 (1456 * dj + k) = f (1456 * sj + k) := by
  unfold va_cpy; rw [if_pos (by omega)]; exact congrArg f (by omega)
theorem cpy_out {f g : Nat → Int32} {sj dj k : Nat} (hk : k < 1456 * dj ∨ 1456 * dj + 1456 ≤ k) : va_cpy f g (1456 * sj) (1456 * dj) 1456 k = g k := by
  unfold va_cpy; rw [if_neg (by omega)]
set_option maxRecDepth 20000 in
set_option maxHeartbeats 1000000 in
theorem c_X12_keep {G : xG} {h : xH} {m : Nat} {a : MA} {r : MR} (hM : MO G h m a r) {gN gK : Nat → Int32} (hN : AR G h a.1 1456 gN) (hK : AR G h a.2.2.1 1456 gK) : CC G MX12_keep [.ref m] h (fun o h' => o = .inl none ∧ MO G h' m a r ∧ AR G h' a.2.2.1 1456 (va_cpy gN gK (1456 * 0) (1456 * 0) 1456) ∧ FRp [a.2.2.1] h h') := by
  show RR G MX12_keep 0 [(0, .ref m)] [] h (xm_R MX12_keep).cells (xm_R MX12_keep).slots (fun o h' => o = .inl none ∧ MO G h' m a r ∧ AR G h' a.2.2.1 1456 (va_cpy gN gK (1456 * 0) (1456 * 0) 1456) ∧ FRp [a.2.2.1] h h')
  refine r_aload_n dX12_keep_0 0 rfl ?_
  refine m_g_nw (v := a.1) hM rfl kf_X12_9 dX12_keep_1 ?_
  refine i_const (0) dX12_keep_4 ?_
  refine r_aload_n dX12_keep_5 0 rfl ?_
  refine m_g_kp (v := a.2.2.1) hM rfl kf_X12_16 dX12_keep_6 ?_
  refine i_const (0) dX12_keep_9 ?_
  refine p_callS (As := [.ref a.1, .int (iI 0), .ref a.2.2.1, .int (iI 0)]) (rest := []) (w := none) (st' := []) kv_X12_keep_220 dX12_keep_10 rfl rfl (Nat.le_of_ble_eq_true rfl) (Nat.le_of_ble_eq_true rfl) rfl rfl (c_X12_copy_z hN hK (sj := 0) (dj := 0) rfl rfl (by omega) (by omega) (by decide) (by decide)) rfl (fun h1 e1 => ?_)
  obtain ⟨hK1, F1⟩ := e1
  have hM1 := hM.row hK F1
  refine r_return rfl dX12_keep_13 ?_
  exact ⟨rfl, hM1, hK1, F1⟩
set_option maxRecDepth 20000 in
set_option maxHeartbeats 1000000 in
theorem c_X12_record_lt {G : xG} {h : xH} {m : Nat} {a : MA} {r : MR} (hM : MO G h m a r) {gH gK : Nat → Int32} (hH : AR G h a.2.2.2.2.1 11648 gH) (hK : AR G h a.2.2.1 1456 gK) {n9 : Nat} (hn : n9 < 8) (hun : r.2.1 = (n9 : Int)) : CC G MX12_record [.ref m] h (fun o h' => o = .inl none ∧ ∃ g', MO G h' m a (r_un r ((n9 : Int) + 1)) ∧ AR G h' a.2.2.2.2.1 11648 g' ∧ (∀ k, k < n9 → ∀ q, q < 1456 → g' (1456 * k + q) = gH (1456 * k + q)) ∧ (∀ q, q < 1456 → g' (1456 * n9 + q) = gK q) ∧ FRp [m, a.2.2.2.2.1] h h') := by
  have T48 : ∀ (gX : Nat → Nat → Int32) (n9 : Nat), n9 < 8 → ∀ (h1 : xH) (g1 : Nat → Int32), MO G h1 m a (r_un r (n9 : Int)) → AR G h1 a.2.2.2.2.1 11648 g1 → AR G h1 a.2.2.1 1456 gK → (∀ k, k < n9 → ∀ q, q < 1456 → g1 (1456 * k + q) = gX k q) → FRp [m, a.2.2.2.2.1] h h1 → RR G MX12_record 48 [(0, .ref m)] [] h1 (xm_R MX12_record).cells (xm_R MX12_record).slots (fun o h' => o = .inl none ∧ ∃ g', MO G h' m a (r_un r ((n9 : Int) + 1)) ∧ AR G h' a.2.2.2.2.1 11648 g' ∧ (∀ k, k < n9 → ∀ q, q < 1456 → g' (1456 * k + q) = gX k q) ∧ (∀ q, q < 1456 → g' (1456 * n9 + q) = gK q) ∧ FRp [m, a.2.2.2.2.1] h h') := by
    intro gX n9 hn8 h1 g1 hM1 hH1 hK1 hc FH1
    refine r_aload_n dX12_record_48 0 rfl ?_
    refine m_g_kp (v := a.2.2.1) hM1 rfl kf_X12_16 dX12_record_49 ?_
    refine i_const (0) dX12_record_52 ?_
    refine r_aload_n dX12_record_53 0 rfl ?_
    refine m_g_hy (v := a.2.2.2.2.1) hM1 rfl kf_X12_22 dX12_record_54 ?_
    refine r_aload_n dX12_record_57 0 rfl ?_
    refine m_g_un (v := (n9 : Int)) hM1 rfl kf_X12_224 dX12_record_58 ?_
    refine p_callS (As := [.ref a.2.2.1, .int (iI 0), .ref a.2.2.2.2.1, .int (iI ((n9 : Int)))]) (rest := []) (w := none) (st' := []) kv_X12_record_220 dX12_record_61 rfl rfl (Nat.le_of_ble_eq_true rfl) (Nat.le_of_ble_eq_true rfl) rfl rfl (c_X12_copy_z hK1 hH1 (sj := 0) (dj := n9) rfl rfl (by omega) (by omega) (by decide) (by decide)) rfl (fun h11 e11 => ?_)
    obtain ⟨hH11, F11⟩ := e11
    have hM11 := hM1.row hH1 F11
    have FH11 : FRp [m, a.2.2.2.2.1] h h11 := FH1.tr (FRr F11)
    refine r_aload_n dX12_record_64 0 rfl ?_
    refine r_dup dX12_record_65 rfl ?_
    refine m_g_un (v := (n9 : Int)) hM11 rfl kf_X12_224 dX12_record_66 ?_
    refine i_const (1) dX12_record_69 ?_
    refine i_add dX12_record_70 ?_
    refine m_p_un (v := (n9 : Int) + 1) hM11 kf_X12_224 dX12_record_71 (fun h12 hM12 F12 => ?_)
    refine r_return rfl dX12_record_74 ?_
    exact ⟨rfl, _, hM12, hH11.obj hM11 F12, fun k hk q hq => (cpy_out (by omega)).trans (hc k hk q hq), fun q hq => (cpy_in hq).trans (by rw [Nat.mul_zero, Nat.zero_add]), FH11.tr (FRm F12)⟩
  show RR G MX12_record 0 [(0, .ref m)] [] h (xm_R MX12_record).cells (xm_R MX12_record).slots (fun o h' => o = .inl none ∧ ∃ g', MO G h' m a (r_un r ((n9 : Int) + 1)) ∧ AR G h' a.2.2.2.2.1 11648 g' ∧ (∀ k, k < n9 → ∀ q, q < 1456 → g' (1456 * k + q) = gH (1456 * k + q)) ∧ (∀ q, q < 1456 → g' (1456 * n9 + q) = gK q) ∧ FRp [m, a.2.2.2.2.1] h h')
  refine r_aload_n dX12_record_0 0 rfl ?_
  refine m_g_un (v := (n9 : Int)) hM hun kf_X12_224 dX12_record_1 ?_
  refine i_bipush (8) (by decide) dX12_record_4 ?_
  refine i_icmpne dX12_record_6 (tgt := 48) (by decide) (by unfold in32; omega) ⟨by decide, by decide⟩ (fun _ => ?_) (fun c => absurd c (by omega))
  have q := T48 (fun k q => gH (1456 * k + q)) n9 hn h gH (by rw [← hun]; exact hM) hH hK (fun k hk q hq => rfl) FRp.rf
  exact q
set_option maxRecDepth 20000 in
set_option maxHeartbeats 1000000 in
theorem c_X12_record_8 {G : xG} {h : xH} {m : Nat} {a : MA} {r : MR} (hM : MO G h m a r) {gH gK : Nat → Int32} (hH : AR G h a.2.2.2.2.1 11648 gH) (hK : AR G h a.2.2.1 1456 gK) (hun : r.2.1 = 8) : CC G MX12_record [.ref m] h (fun o h' => o = .inl none ∧ ∃ g', MO G h' m a (r_un r 8) ∧ AR G h' a.2.2.2.2.1 11648 g' ∧ (∀ k, k < 7 → ∀ q, q < 1456 → g' (1456 * k + q) = gH (1456 * (k + 1) + q)) ∧ (∀ q, q < 1456 → g' (1456 * 7 + q) = gK q) ∧ FRp [m, a.2.2.2.2.1] h h') := by
  have T48 : ∀ (gX : Nat → Nat → Int32) (n9 : Nat), n9 < 8 → ∀ (h1 : xH) (g1 : Nat → Int32), MO G h1 m a (r_un r (n9 : Int)) → AR G h1 a.2.2.2.2.1 11648 g1 → AR G h1 a.2.2.1 1456 gK → (∀ k, k < n9 → ∀ q, q < 1456 → g1 (1456 * k + q) = gX k q) → FRp [m, a.2.2.2.2.1] h h1 → RR G MX12_record 48 [(0, .ref m)] [] h1 (xm_R MX12_record).cells (xm_R MX12_record).slots (fun o h' => o = .inl none ∧ ∃ g', MO G h' m a (r_un r ((n9 : Int) + 1)) ∧ AR G h' a.2.2.2.2.1 11648 g' ∧ (∀ k, k < n9 → ∀ q, q < 1456 → g' (1456 * k + q) = gX k q) ∧ (∀ q, q < 1456 → g' (1456 * n9 + q) = gK q) ∧ FRp [m, a.2.2.2.2.1] h h') := by
    intro gX n9 hn8 h1 g1 hM1 hH1 hK1 hc FH1
    refine r_aload_n dX12_record_48 0 rfl ?_
    refine m_g_kp (v := a.2.2.1) hM1 rfl kf_X12_16 dX12_record_49 ?_
    refine i_const (0) dX12_record_52 ?_
    refine r_aload_n dX12_record_53 0 rfl ?_
    refine m_g_hy (v := a.2.2.2.2.1) hM1 rfl kf_X12_22 dX12_record_54 ?_
    refine r_aload_n dX12_record_57 0 rfl ?_
    refine m_g_un (v := (n9 : Int)) hM1 rfl kf_X12_224 dX12_record_58 ?_
    refine p_callS (As := [.ref a.2.2.1, .int (iI 0), .ref a.2.2.2.2.1, .int (iI ((n9 : Int)))]) (rest := []) (w := none) (st' := []) kv_X12_record_220 dX12_record_61 rfl rfl (Nat.le_of_ble_eq_true rfl) (Nat.le_of_ble_eq_true rfl) rfl rfl (c_X12_copy_z hK1 hH1 (sj := 0) (dj := n9) rfl rfl (by omega) (by omega) (by decide) (by decide)) rfl (fun h11 e11 => ?_)
    obtain ⟨hH11, F11⟩ := e11
    have hM11 := hM1.row hH1 F11
    have FH11 : FRp [m, a.2.2.2.2.1] h h11 := FH1.tr (FRr F11)
    refine r_aload_n dX12_record_64 0 rfl ?_
    refine r_dup dX12_record_65 rfl ?_
    refine m_g_un (v := (n9 : Int)) hM11 rfl kf_X12_224 dX12_record_66 ?_
    refine i_const (1) dX12_record_69 ?_
    refine i_add dX12_record_70 ?_
    refine m_p_un (v := (n9 : Int) + 1) hM11 kf_X12_224 dX12_record_71 (fun h12 hM12 F12 => ?_)
    refine r_return rfl dX12_record_74 ?_
    exact ⟨rfl, _, hM12, hH11.obj hM11 F12, fun k hk q hq => (cpy_out (by omega)).trans (hc k hk q hq), fun q hq => (cpy_in hq).trans (by rw [Nat.mul_zero, Nat.zero_add]), FH11.tr (FRm F12)⟩
  have L : ∀ s9, s9 ≤ 8 → 1 ≤ s9 → ∀ (h2 : xH) (g2 : Nat → Int32), MO G h2 m a r → AR G h2 a.2.2.2.2.1 11648 g2 → AR G h2 a.2.2.1 1456 gK → (∀ k q, k + 1 < s9 → q < 1456 → g2 (1456 * k + q) = gH (1456 * (k + 1) + q)) → (∀ k q, s9 ≤ k → k < 8 → q < 1456 → g2 (1456 * k + q) = gH (1456 * k + q)) → FRp [m, a.2.2.2.2.1] h h2 → RR G MX12_record 11 [(0, .ref m), (1, .int (iI ((s9 : Int))))] [] h2 (xm_R MX12_record).cells (xm_R MX12_record).slots (fun o h' => o = .inl none ∧ ∃ g', MO G h' m a (r_un r 8) ∧ AR G h' a.2.2.2.2.1 11648 g' ∧ (∀ k, k < 7 → ∀ q, q < 1456 → g' (1456 * k + q) = gH (1456 * (k + 1) + q)) ∧ (∀ q, q < 1456 → g' (1456 * 7 + q) = gK q) ∧ FRp [m, a.2.2.2.2.1] h h') := by
    refine down (fun s9 hs9 ih => ?_)
    intro hs1 h2 g2 hM2 hH2 hK2 hc1 hc2 FH2
    refine r_iload_n dX12_record_11 1 rfl ?_
    refine i_bipush (8) (by decide) dX12_record_12 ?_
    refine i_icmpge dX12_record_14 (tgt := 38) (by decide) (by unfold in32; omega) ⟨by decide, by decide⟩ (fun c14 => ?_) (fun c14 => ?_)
    · refine r_aload_n dX12_record_38 0 rfl ?_
      refine r_dup dX12_record_39 rfl ?_
      refine m_g_un (v := 8) hM2 hun kf_X12_224 dX12_record_40 ?_
      refine i_const (1) dX12_record_43 ?_
      refine i_sub dX12_record_44 ?_
      refine m_p_un (v := 8 - 1) hM2 kf_X12_224 dX12_record_45 (fun h31 hM31 F31 => ?_)
      refine rr_take 1 rfl ?_
      have hs8 : s9 = 8 := by omega
      have q := T48 (fun k q => gH (1456 * (k + 1) + q)) 7 (by omega) h31 g2 hM31 (hH2.obj hM2 F31) (hK2.obj hM2 F31) (fun k hk q hq => hc1 k q (by omega) hq) (FH2.tr (FRm F31))
      exact q
    · refine r_aload_n dX12_record_17 0 rfl ?_
      refine m_g_hy (v := a.2.2.2.2.1) hM2 rfl kf_X12_22 dX12_record_18 ?_
      refine r_iload_n dX12_record_21 1 rfl ?_
      refine r_aload_n dX12_record_22 0 rfl ?_
      refine m_g_hy (v := a.2.2.2.2.1) hM2 rfl kf_X12_22 dX12_record_23 ?_
      refine r_iload_n dX12_record_26 1 rfl ?_
      refine i_const (1) dX12_record_27 ?_
      refine i_sub dX12_record_28 ?_
      refine p_callS (As := [.ref a.2.2.2.2.1, .int (iI ((s9 : Int))), .ref a.2.2.2.2.1, .int (iI ((s9 : Int) - 1))]) (rest := []) (w := none) (st' := []) kv_X12_record_220 dX12_record_29 rfl rfl (Nat.le_of_ble_eq_true rfl) (Nat.le_of_ble_eq_true rfl) rfl rfl (c_X12_copy_z hH2 hH2 (sj := s9) (dj := s9 - 1) rfl (by omega) (by omega) (by omega) (by decide) (by decide)) rfl (fun h32 e32 => ?_)
      obtain ⟨hH32, F32⟩ := e32
      have hM32 := hM2.row hH2 F32
      have FH32 : FRp [m, a.2.2.2.2.1] h h32 := FH2.tr (FRr F32)
      have hK32 := hK2.fr F32 (by simpa using ne_sz hK2.2 hH2.2 (by decide))
      refine i_iinc (ls' := [(0, .ref m), (1, .int (iI ((s9 : Int) + 1)))]) (1) (v := (s9 : Int) + 1) dX12_record_32 1 rfl (by omega) (by decide) rfl ?_
      refine r_goto dX12_record_35 (tgt := 11) (by decide) ?_
      refine ih (s9 + 1) (by omega) (by omega) (by omega) h32 _ hM32 hH32 hK32 (fun k q hk hq => ?_) (fun k q hk hk8 hq => (cpy_out (by omega)).trans (hc2 k q (by omega) hk8 hq)) FH32
      by_cases c : k = s9 - 1
      · rw [c]
        exact (cpy_in hq).trans ((hc2 s9 q (by omega) (by omega) hq).trans (congrArg gH (by omega)))
      · exact (cpy_out (by omega)).trans (hc1 k q (by omega) hq)
  show RR G MX12_record 0 [(0, .ref m)] [] h (xm_R MX12_record).cells (xm_R MX12_record).slots (fun o h' => o = .inl none ∧ ∃ g', MO G h' m a (r_un r 8) ∧ AR G h' a.2.2.2.2.1 11648 g' ∧ (∀ k, k < 7 → ∀ q, q < 1456 → g' (1456 * k + q) = gH (1456 * (k + 1) + q)) ∧ (∀ q, q < 1456 → g' (1456 * 7 + q) = gK q) ∧ FRp [m, a.2.2.2.2.1] h h')
  refine r_aload_n dX12_record_0 0 rfl ?_
  refine m_g_un (v := 8) hM hun kf_X12_224 dX12_record_1 ?_
  refine i_bipush (8) (by decide) dX12_record_4 ?_
  refine i_icmpne dX12_record_6 (tgt := 48) (by decide) ⟨by decide, by decide⟩ ⟨by decide, by decide⟩ (fun c => absurd c (by omega)) (fun _ => ?_)
  refine i_const (1) dX12_record_9 ?_
  refine r_istore_n (ls' := [(0, .ref m), (1, .int (iI 1))]) dX12_record_10 (by decide) rfl ?_
  exact L 1 (by omega) (by omega) h gH hM hH hK (fun k q hk hq => absurd hk (by omega)) (fun k q hk hk8 hq => rfl) FRp.rf
