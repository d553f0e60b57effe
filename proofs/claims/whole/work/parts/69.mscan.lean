/-! ===== the reference: its tokens ===== -/
def bAt (T : List Int) (q : Nat) : Int := if q < T.length then T.getD q 0 else -1
def letAt (T : List Int) (q : Nat) : Bool := decide (q < T.length) && isLetB (T.getD q 0)
def digAt (T : List Int) (q : Nat) : Bool := decide (q < T.length) && isDigB (T.getD q 0)
def tkM (k : Nat) : Int := if k = 4 then 0 else if k = 0 then 1 else if k = 1 then 2 else 3
def scR (r : MR) (T : List Int) (p : Nat) : MR := r_tk (r_bg (r_nx r ((tokAt T p).2.2 : Int)) ((tokAt T p).2.1 : Int)) (tkM (tokAt T p).1)
theorem bAt_b {T : List Int} (hb : BYT T) (q : Nat) : -1 ≤ bAt T q ∧ bAt T q ≤ 255 := by
  unfold bAt
  split
  · have := hb q (by assumption); omega
  · omega
theorem bAt_lt {T : List Int} {q : Nat} (h : bAt T q ≠ -1) : q < T.length ∧ bAt T q = T.getD q 0 := by
  unfold bAt at h ⊢
  split at h
  · rename_i a; exact ⟨a, if_pos a⟩
  · exact absurd rfl h
set_option maxRecDepth 20000 in
set_option maxHeartbeats 1000000 in
theorem c_X12_byteAt {G : xG} {h : xH} {m : Nat} {a : MA} {r : MR} (hM : MO G h m a r) {gi : Nat → Int32} {T : List Int} (hA : AR G h a.2.2.2.2.2.2.1 500 gi) (hl5 : T.length ≤ 500) (hg : ∀ k, k < T.length → gi k = iI (T.getD k 0)) (hb : BYT T) (hli : r.2.2.2.2.2.2.2.2.2.2.2.1 = (T.length : Int)) {q : Nat} (hq : q ≤ T.length) : CC G MX12_byteAt [.ref m, .int (iI ((q : Int)))] h (qI (bAt T q) h) := by
  show RR G MX12_byteAt 0 [(0, .ref m), (1, .int (iI ((q : Int))))] [] h (xm_R MX12_byteAt).cells (xm_R MX12_byteAt).slots (qI (bAt T q) h)
  refine r_iload_n dX12_byteAt_0 1 rfl ?_
  refine r_aload_n dX12_byteAt_1 0 rfl ?_
  refine m_g_li (v := (T.length : Int)) hM hli kf_X12_282 dX12_byteAt_2 ?_
  refine i_icmpge dX12_byteAt_5 (tgt := 17) (by decide) (by unfold in32; omega) (by unfold in32; omega) (fun c5 => ?_) (fun c5 => ?_)
  · refine i_const (-1) dX12_byteAt_17 ?_
    refine r_ireturn rfl rfl dX12_byteAt_18 ?_
    have e : bAt T q = (-1) := by unfold bAt; rw [if_neg (by omega)]
    rw [e]
    exact ⟨rfl, rfl⟩
  · refine r_aload_n dX12_byteAt_8 0 rfl ?_
    refine m_g_bu (v := a.2.2.2.2.2.2.1) hM rfl kf_X12_31 dX12_byteAt_9 ?_
    refine r_iload_n dX12_byteAt_12 1 rfl ?_
    refine m_ld (v := iI (T.getD q 0)) q rfl (hg q (by omega)) hA dX12_byteAt_13 (by omega) (by decide) ?_
    refine r_goto dX12_byteAt_14 (tgt := 18) (by decide) ?_
    refine r_ireturn rfl rfl dX12_byteAt_18 ?_
    have e : bAt T q = T.getD q 0 := by unfold bAt; rw [if_pos (by omega)]
    rw [e]
    exact ⟨rfl, rfl⟩
set_option maxRecDepth 20000 in
set_option maxHeartbeats 1000000 in
theorem c_X12_isLetter {G : xG} {h : xH} {m : Nat} {a : MA} {r : MR} (hM : MO G h m a r) {gi : Nat → Int32} {T : List Int} (hA : AR G h a.2.2.2.2.2.2.1 500 gi) (hl5 : T.length ≤ 500) (hg : ∀ k, k < T.length → gi k = iI (T.getD k 0)) (hb : BYT T) (hli : r.2.2.2.2.2.2.2.2.2.2.2.1 = (T.length : Int)) {q : Nat} (hq : q ≤ T.length) : CC G MX12_isLetter [.ref m, .int (iI ((q : Int)))] h (qI (b2 (letAt T q)) h) := by
  have hbb := bAt_b hb q
  show RR G MX12_isLetter 0 [(0, .ref m), (1, .int (iI ((q : Int))))] [] h (xm_R MX12_isLetter).cells (xm_R MX12_isLetter).slots (qI (b2 (letAt T q)) h)
  refine r_aload_n dX12_isLetter_0 0 rfl ?_
  refine r_iload_n dX12_isLetter_1 1 rfl ?_
  refine p_callV (As := [.int (iI ((q : Int)))]) (b := m) (rest := []) (w := (some (.int (iI (bAt T q))))) (st' := [.int (iI (bAt T q))]) kv_X12_isLetter_285 dX12_isLetter_2 rfl rfl (Nat.le_of_ble_eq_true rfl) (Nat.le_of_ble_eq_true rfl) (x_rv hM.1 hM.2 rfl) rfl rfl (c_X12_byteAt hM hA hl5 hg hb hli hq) rfl (fun h1 e1 => ?_)
  rw [show h1 = h from e1]
  refine i_bipush (97) (by decide) dX12_isLetter_5 ?_
  refine i_icmplt dX12_isLetter_7 (tgt := 24) (by decide) (by unfold in32; omega) ⟨by decide, by decide⟩ (fun c7 => ?_) (fun c7 => ?_)
  · refine i_const (0) dX12_isLetter_24 ?_
    refine r_ireturn rfl (b2_nar false) dX12_isLetter_25 ?_
    have e : letAt T q = false := by
      unfold letAt isLetB
      by_cases hx : q < T.length
      · have hy : bAt T q = T.getD q 0 := if_pos hx
        rw [← hy]
        simp
        omega
      · rw [decide_eq_false hx]; rfl
    rw [e]
    exact ⟨rfl, rfl⟩
  · refine r_aload_n dX12_isLetter_10 0 rfl ?_
    refine r_iload_n dX12_isLetter_11 1 rfl ?_
    refine p_callV (As := [.int (iI ((q : Int)))]) (b := m) (rest := []) (w := (some (.int (iI (bAt T q))))) (st' := [.int (iI (bAt T q))]) kv_X12_isLetter_285 dX12_isLetter_12 rfl rfl (Nat.le_of_ble_eq_true rfl) (Nat.le_of_ble_eq_true rfl) (x_rv hM.1 hM.2 rfl) rfl rfl (c_X12_byteAt hM hA hl5 hg hb hli hq) rfl (fun h2 e2 => ?_)
    rw [show h2 = h from e2]
    refine i_bipush (122) (by decide) dX12_isLetter_15 ?_
    refine i_icmpgt dX12_isLetter_17 (tgt := 24) (by decide) (by unfold in32; omega) ⟨by decide, by decide⟩ (fun c17 => ?_) (fun c17 => ?_)
    · refine i_const (0) dX12_isLetter_24 ?_
      refine r_ireturn rfl (b2_nar false) dX12_isLetter_25 ?_
      have e : letAt T q = false := by
        unfold letAt isLetB
        by_cases hx : q < T.length
        · have hy : bAt T q = T.getD q 0 := if_pos hx
          rw [← hy]
          simp
          omega
        · rw [decide_eq_false hx]; rfl
      rw [e]
      exact ⟨rfl, rfl⟩
    · refine i_const (1) dX12_isLetter_20 ?_
      refine r_goto dX12_isLetter_21 (tgt := 25) (by decide) ?_
      refine r_ireturn rfl (b2_nar true) dX12_isLetter_25 ?_
      have hx := bAt_lt (T := T) (q := q) (by omega)
      have e : letAt T q = true := by unfold letAt isLetB; rw [decide_eq_true hx.1, decide_eq_true (by omega), decide_eq_true (by omega)]; rfl
      rw [e]
      exact ⟨rfl, rfl⟩
set_option maxRecDepth 20000 in
set_option maxHeartbeats 1000000 in
theorem c_X12_isDigit {G : xG} {h : xH} {m : Nat} {a : MA} {r : MR} (hM : MO G h m a r) {gi : Nat → Int32} {T : List Int} (hA : AR G h a.2.2.2.2.2.2.1 500 gi) (hl5 : T.length ≤ 500) (hg : ∀ k, k < T.length → gi k = iI (T.getD k 0)) (hb : BYT T) (hli : r.2.2.2.2.2.2.2.2.2.2.2.1 = (T.length : Int)) {q : Nat} (hq : q ≤ T.length) : CC G MX12_isDigit [.ref m, .int (iI ((q : Int)))] h (qI (b2 (digAt T q)) h) := by
  have hbb := bAt_b hb q
  show RR G MX12_isDigit 0 [(0, .ref m), (1, .int (iI ((q : Int))))] [] h (xm_R MX12_isDigit).cells (xm_R MX12_isDigit).slots (qI (b2 (digAt T q)) h)
  refine r_aload_n dX12_isDigit_0 0 rfl ?_
  refine r_iload_n dX12_isDigit_1 1 rfl ?_
  refine p_callV (As := [.int (iI ((q : Int)))]) (b := m) (rest := []) (w := (some (.int (iI (bAt T q))))) (st' := [.int (iI (bAt T q))]) kv_X12_isDigit_285 dX12_isDigit_2 rfl rfl (Nat.le_of_ble_eq_true rfl) (Nat.le_of_ble_eq_true rfl) (x_rv hM.1 hM.2 rfl) rfl rfl (c_X12_byteAt hM hA hl5 hg hb hli hq) rfl (fun h1 e1 => ?_)
  rw [show h1 = h from e1]
  refine i_bipush (48) (by decide) dX12_isDigit_5 ?_
  refine i_icmplt dX12_isDigit_7 (tgt := 24) (by decide) (by unfold in32; omega) ⟨by decide, by decide⟩ (fun c7 => ?_) (fun c7 => ?_)
  · refine i_const (0) dX12_isDigit_24 ?_
    refine r_ireturn rfl (b2_nar false) dX12_isDigit_25 ?_
    have e : digAt T q = false := by
      unfold digAt isDigB
      by_cases hx : q < T.length
      · have hy : bAt T q = T.getD q 0 := if_pos hx
        rw [← hy]
        simp
        omega
      · rw [decide_eq_false hx]; rfl
    rw [e]
    exact ⟨rfl, rfl⟩
  · refine r_aload_n dX12_isDigit_10 0 rfl ?_
    refine r_iload_n dX12_isDigit_11 1 rfl ?_
    refine p_callV (As := [.int (iI ((q : Int)))]) (b := m) (rest := []) (w := (some (.int (iI (bAt T q))))) (st' := [.int (iI (bAt T q))]) kv_X12_isDigit_285 dX12_isDigit_12 rfl rfl (Nat.le_of_ble_eq_true rfl) (Nat.le_of_ble_eq_true rfl) (x_rv hM.1 hM.2 rfl) rfl rfl (c_X12_byteAt hM hA hl5 hg hb hli hq) rfl (fun h2 e2 => ?_)
    rw [show h2 = h from e2]
    refine i_bipush (57) (by decide) dX12_isDigit_15 ?_
    refine i_icmpgt dX12_isDigit_17 (tgt := 24) (by decide) (by unfold in32; omega) ⟨by decide, by decide⟩ (fun c17 => ?_) (fun c17 => ?_)
    · refine i_const (0) dX12_isDigit_24 ?_
      refine r_ireturn rfl (b2_nar false) dX12_isDigit_25 ?_
      have e : digAt T q = false := by
        unfold digAt isDigB
        by_cases hx : q < T.length
        · have hy : bAt T q = T.getD q 0 := if_pos hx
          rw [← hy]
          simp
          omega
        · rw [decide_eq_false hx]; rfl
      rw [e]
      exact ⟨rfl, rfl⟩
    · refine i_const (1) dX12_isDigit_20 ?_
      refine r_goto dX12_isDigit_21 (tgt := 25) (by decide) ?_
      refine r_ireturn rfl (b2_nar true) dX12_isDigit_25 ?_
      have hx := bAt_lt (T := T) (q := q) (by omega)
      have e : digAt T q = true := by unfold digAt isDigB; rw [decide_eq_true hx.1, decide_eq_true (by omega), decide_eq_true (by omega)]; rfl
      rw [e]
      exact ⟨rfl, rfl⟩
set_option maxRecDepth 20000 in
set_option maxHeartbeats 1000000 in
theorem c_X12_scan {G : xG} {h : xH} {m : Nat} {a : MA} {r : MR} (hM : MO G h m a r) {gi : Nat → Int32} {T : List Int} (hA : AR G h a.2.2.2.2.2.2.1 500 gi) (hl5 : T.length ≤ 500) (hg : ∀ k, k < T.length → gi k = iI (T.getD k 0)) (hb : BYT T) (hli : r.2.2.2.2.2.2.2.2.2.2.2.1 = (T.length : Int)) {p : Nat} (hp : p ≤ T.length) (hnx : r.2.2.2.2.2.2.2.2.2.2.2.2.1 = (p : Int)) : CC G MX12_scan [.ref m] h (fun o h' => o = .inl none ∧ MO G h' m a (scR r T p) ∧ FRp [m] h h') := by
  obtain ⟨S, hS⟩ : ∃ S, endR isSepB T p = S := ⟨_, rfl⟩
  have hSb := endR_b isSepB T p
  rw [hS] at hSb
  have L77 : ∀ E, tokAt T p = (0, S, E) → ∀ q, q ≤ T.length → ∀ (h1 : xH), MO G h1 m a (r_nx (r_bg (r_nx r (S : Int)) (S : Int)) (q : Int)) → AR G h1 a.2.2.2.2.2.2.1 500 gi → endR isLetB T q = E → FRp [m] h h1 → RR G MX12_scan 77 [(0, .ref m)] [] h1 (xm_R MX12_scan).cells (xm_R MX12_scan).slots (fun o h' => o = .inl none ∧ MO G h' m a (scR r T p) ∧ FRp [m] h h') := by
    intro E hT
    refine down (fun q hq ih => ?_)
    intro h1 hM1 hA1 he hF1
    refine r_aload_n dX12_scan_77 0 rfl ?_
    refine r_aload_n dX12_scan_78 0 rfl ?_
    refine m_g_nx (v := (q : Int)) hM1 rfl kf_X12_288 dX12_scan_79 ?_
    refine p_callV (As := [.int (iI ((q : Int)))]) (b := m) (rest := []) (w := (some (.int (iI (b2 (letAt T q)))))) (st' := [.int (iI (b2 (letAt T q)))]) kv_X12_scan_297 dX12_scan_82 rfl rfl (Nat.le_of_ble_eq_true rfl) (Nat.le_of_ble_eq_true rfl) (x_rv hM1.1 hM1.2 rfl) rfl rfl (c_X12_isLetter hM1 hA1 hl5 hg hb hli (q := q) (by omega)) rfl (fun h11 e11 => ?_)
    rw [show h11 = h1 from e11]
    refine i_ifeqb dX12_scan_85 (tgt := 101) (by decide) (fun c85 => ?_) (fun c85 => ?_)
    · refine r_aload_n dX12_scan_101 0 rfl ?_
      refine i_const (1) dX12_scan_102 ?_
      refine m_p_tk (v := 1) hM1 kf_X12_294 dX12_scan_103 (fun h12 hM12 F12 => ?_)
      have hA1_12 := hA1.obj hM1 F12
      refine r_goto dX12_scan_106 (tgt := 167) (by decide) ?_
      refine r_return rfl dX12_scan_167 ?_
      have hq0 : E = q := by
        rw [← he]
        by_cases hx : q < T.length
        · exact endR_f (by have z := c85; unfold letAt at z; rw [decide_eq_true hx] at z; simpa using z)
        · exact endR_n (by omega)
      have er : scR r T p = (r_tk (r_nx (r_bg (r_nx r (S : Int)) (S : Int)) (q : Int)) 1) := by unfold scR; rw [hT, hq0]; rfl
      rw [er]
      exact ⟨rfl, hM12, (hF1.tr F12)⟩
    · refine r_aload_n dX12_scan_88 0 rfl ?_
      refine r_dup dX12_scan_89 rfl ?_
      refine m_g_nx (v := (q : Int)) hM1 rfl kf_X12_288 dX12_scan_90 ?_
      refine i_const (1) dX12_scan_93 ?_
      refine i_add dX12_scan_94 ?_
      refine m_p_nx (v := (q : Int) + 1) hM1 kf_X12_288 dX12_scan_95 (fun h13 hM13 F13 => ?_)
      have hA1_13 := hA1.obj hM1 F13
      refine r_goto dX12_scan_98 (tgt := 77) (by decide) ?_
      have hx : q < T.length ∧ isLetB (T.getD q 0) = true := by have z := c85; unfold letAt at z; simpa using z
      exact ih (q + 1) (by omega) (by omega) h13 hM13 hA1_13 (by rw [← he, endR_t hx.1 hx.2]) ((hF1.tr F13))
  have L120 : ∀ E, tokAt T p = (1, S, E) → ∀ q, q ≤ T.length → ∀ (h1 : xH), MO G h1 m a (r_nx (r_bg (r_nx r (S : Int)) (S : Int)) (q : Int)) → AR G h1 a.2.2.2.2.2.2.1 500 gi → endR isDigB T q = E → FRp [m] h h1 → RR G MX12_scan 120 [(0, .ref m)] [] h1 (xm_R MX12_scan).cells (xm_R MX12_scan).slots (fun o h' => o = .inl none ∧ MO G h' m a (scR r T p) ∧ FRp [m] h h') := by
    intro E hT
    refine down (fun q hq ih => ?_)
    intro h1 hM1 hA1 he hF1
    refine r_aload_n dX12_scan_120 0 rfl ?_
    refine r_aload_n dX12_scan_121 0 rfl ?_
    refine m_g_nx (v := (q : Int)) hM1 rfl kf_X12_288 dX12_scan_122 ?_
    refine p_callV (As := [.int (iI ((q : Int)))]) (b := m) (rest := []) (w := (some (.int (iI (b2 (digAt T q)))))) (st' := [.int (iI (b2 (digAt T q)))]) kv_X12_scan_300 dX12_scan_125 rfl rfl (Nat.le_of_ble_eq_true rfl) (Nat.le_of_ble_eq_true rfl) (x_rv hM1.1 hM1.2 rfl) rfl rfl (c_X12_isDigit hM1 hA1 hl5 hg hb hli (q := q) (by omega)) rfl (fun h11 e11 => ?_)
    rw [show h11 = h1 from e11]
    refine i_ifeqb dX12_scan_128 (tgt := 144) (by decide) (fun c128 => ?_) (fun c128 => ?_)
    · refine r_aload_n dX12_scan_144 0 rfl ?_
      refine i_const (2) dX12_scan_145 ?_
      refine m_p_tk (v := 2) hM1 kf_X12_294 dX12_scan_146 (fun h12 hM12 F12 => ?_)
      have hA1_12 := hA1.obj hM1 F12
      refine r_goto dX12_scan_149 (tgt := 167) (by decide) ?_
      refine r_return rfl dX12_scan_167 ?_
      have hq0 : E = q := by
        rw [← he]
        by_cases hx : q < T.length
        · exact endR_f (by have z := c128; unfold digAt at z; rw [decide_eq_true hx] at z; simpa using z)
        · exact endR_n (by omega)
      have er : scR r T p = (r_tk (r_nx (r_bg (r_nx r (S : Int)) (S : Int)) (q : Int)) 2) := by unfold scR; rw [hT, hq0]; rfl
      rw [er]
      exact ⟨rfl, hM12, (hF1.tr F12)⟩
    · refine r_aload_n dX12_scan_131 0 rfl ?_
      refine r_dup dX12_scan_132 rfl ?_
      refine m_g_nx (v := (q : Int)) hM1 rfl kf_X12_288 dX12_scan_133 ?_
      refine i_const (1) dX12_scan_136 ?_
      refine i_add dX12_scan_137 ?_
      refine m_p_nx (v := (q : Int) + 1) hM1 kf_X12_288 dX12_scan_138 (fun h13 hM13 F13 => ?_)
      have hA1_13 := hA1.obj hM1 F13
      refine r_goto dX12_scan_141 (tgt := 120) (by decide) ?_
      have hx : q < T.length ∧ isDigB (T.getD q 0) = true := by have z := c128; unfold digAt at z; simpa using z
      exact ih (q + 1) (by omega) (by omega) h13 hM13 hA1_13 (by rw [← he, endR_t hx.1 hx.2]) ((hF1.tr F13))
  have L39 : ∀ (h1 : xH), MO G h1 m a (r_nx r (S : Int)) → AR G h1 a.2.2.2.2.2.2.1 500 gi → FRp [m] h h1 → RR G MX12_scan 39 [(0, .ref m)] [] h1 (xm_R MX12_scan).cells (xm_R MX12_scan).slots (fun o h' => o = .inl none ∧ MO G h' m a (scR r T p) ∧ FRp [m] h h') := by
    intro h1 hM1 hA1 hF1
    refine r_aload_n dX12_scan_39 0 rfl ?_
    refine r_aload_n dX12_scan_40 0 rfl ?_
    refine m_g_nx (v := (S : Int)) hM1 rfl kf_X12_288 dX12_scan_41 ?_
    refine m_p_bg (v := (S : Int)) hM1 kf_X12_291 dX12_scan_44 (fun h31 hM31 F31 => ?_)
    have hA1_31 := hA1.obj hM1 F31
    refine r_aload_n dX12_scan_47 0 rfl ?_
    refine m_g_nx (v := (S : Int)) hM31 rfl kf_X12_288 dX12_scan_48 ?_
    refine r_aload_n dX12_scan_51 0 rfl ?_
    refine m_g_li (v := (T.length : Int)) hM31 hli kf_X12_282 dX12_scan_52 ?_
    refine i_icmplt dX12_scan_55 (tgt := 66) (by decide) (by unfold in32; omega) (by unfold in32; omega) (fun c55 => ?_) (fun c55 => ?_)
    · refine r_aload_n dX12_scan_66 0 rfl ?_
      refine r_aload_n dX12_scan_67 0 rfl ?_
      refine m_g_nx (v := (S : Int)) hM31 rfl kf_X12_288 dX12_scan_68 ?_
      refine p_callV (As := [.int (iI ((S : Int)))]) (b := m) (rest := []) (w := (some (.int (iI (b2 (letAt T S)))))) (st' := [.int (iI (b2 (letAt T S)))]) kv_X12_scan_297 dX12_scan_71 rfl rfl (Nat.le_of_ble_eq_true rfl) (Nat.le_of_ble_eq_true rfl) (x_rv hM31.1 hM31.2 rfl) rfl rfl (c_X12_isLetter hM31 hA1_31 hl5 hg hb hli (q := S) (by omega)) rfl (fun h32 e32 => ?_)
      rw [show h32 = h31 from e32]
      refine i_ifeqb dX12_scan_74 (tgt := 109) (by decide) (fun c74 => ?_) (fun c74 => ?_)
      · refine r_aload_n dX12_scan_109 0 rfl ?_
        refine r_aload_n dX12_scan_110 0 rfl ?_
        refine m_g_nx (v := (S : Int)) hM31 rfl kf_X12_288 dX12_scan_111 ?_
        refine p_callV (As := [.int (iI ((S : Int)))]) (b := m) (rest := []) (w := (some (.int (iI (b2 (digAt T S)))))) (st' := [.int (iI (b2 (digAt T S)))]) kv_X12_scan_300 dX12_scan_114 rfl rfl (Nat.le_of_ble_eq_true rfl) (Nat.le_of_ble_eq_true rfl) (x_rv hM31.1 hM31.2 rfl) rfl rfl (c_X12_isDigit hM31 hA1_31 hl5 hg hb hli (q := S) (by omega)) rfl (fun h33 e33 => ?_)
        rw [show h33 = h31 from e33]
        refine i_ifeqb dX12_scan_117 (tgt := 152) (by decide) (fun c117 => ?_) (fun c117 => ?_)
        · refine r_aload_n dX12_scan_152 0 rfl ?_
          refine r_dup dX12_scan_153 rfl ?_
          refine m_g_nx (v := (S : Int)) hM31 rfl kf_X12_288 dX12_scan_154 ?_
          refine i_const (1) dX12_scan_157 ?_
          refine i_add dX12_scan_158 ?_
          refine m_p_nx (v := (S : Int) + 1) hM31 kf_X12_288 dX12_scan_159 (fun h34 hM34 F34 => ?_)
          have hA1_34 := hA1_31.obj hM31 F34
          refine r_aload_n dX12_scan_162 0 rfl ?_
          refine i_const (3) dX12_scan_163 ?_
          refine m_p_tk (v := 3) hM34 kf_X12_294 dX12_scan_164 (fun h35 hM35 F35 => ?_)
          have hA1_35 := hA1_34.obj hM34 F35
          refine r_return rfl dX12_scan_167 ?_
          have hx : isLetB (T.getD S 0) = false := by have z := c74; unfold letAt at z; rw [decide_eq_true (show S < T.length by omega)] at z; simpa using z
          have hy : isDigB (T.getD S 0) = false := by have z := c117; unfold digAt at z; rw [decide_eq_true (show S < T.length by omega)] at z; simpa using z
          by_cases hz : T.getD S 0 = 59
          · have et : tokAt T p = (2, S, S + 1) := by unfold tokAt tokS; rw [hS, if_neg (by omega), if_neg (by rw [hx]; decide), if_neg (by rw [hy]; decide), if_pos hz]
            have er : scR r T p = (r_tk (r_nx (r_bg (r_nx r (S : Int)) (S : Int)) ((S : Int) + 1)) 3) := by unfold scR; rw [et]; rfl
            rw [er]
            exact ⟨rfl, hM35, (((hF1.tr F31).tr F34).tr F35)⟩
          · have et : tokAt T p = (3, S, S + 1) := by unfold tokAt tokS; rw [hS, if_neg (by omega), if_neg (by rw [hx]; decide), if_neg (by rw [hy]; decide), if_neg hz]
            have er : scR r T p = (r_tk (r_nx (r_bg (r_nx r (S : Int)) (S : Int)) ((S : Int) + 1)) 3) := by unfold scR; rw [et]; rfl
            rw [er]
            exact ⟨rfl, hM35, (((hF1.tr F31).tr F34).tr F35)⟩
        · have hx : isLetB (T.getD S 0) = false := by have z := c74; unfold letAt at z; rw [decide_eq_true (show S < T.length by omega)] at z; simpa using z
          have hy : isDigB (T.getD S 0) = true := by have z := c117; unfold digAt at z; rw [decide_eq_true (show S < T.length by omega)] at z; simpa using z
          exact L120 (endR isDigB T S) (by unfold tokAt tokS; rw [hS, if_neg (by omega), if_neg (by rw [hx]; decide), if_pos hy, endR_t (by omega) hy]) S (by omega) h31 hM31 hA1_31 rfl ((hF1.tr F31))
      · have hx : isLetB (T.getD S 0) = true := by have z := c74; unfold letAt at z; rw [decide_eq_true (show S < T.length by omega)] at z; simpa using z
        exact L77 (endR isLetB T S) (by unfold tokAt tokS; rw [hS, if_neg (by omega), if_pos hx, endR_t (by omega) hx]) S (by omega) h31 hM31 hA1_31 rfl ((hF1.tr F31))
    · refine r_aload_n dX12_scan_58 0 rfl ?_
      refine i_const (0) dX12_scan_59 ?_
      refine m_p_tk (v := 0) hM31 kf_X12_294 dX12_scan_60 (fun h36 hM36 F36 => ?_)
      have hA1_36 := hA1_31.obj hM31 F36
      refine r_goto dX12_scan_63 (tgt := 167) (by decide) ?_
      refine r_return rfl dX12_scan_167 ?_
      have et : tokAt T p = (4, S, S) := by unfold tokAt tokS; rw [hS, if_pos (by omega)]
      have er : scR r T p = (r_tk (r_bg (r_nx r (S : Int)) (S : Int)) 0) := by unfold scR; rw [et]; rfl
      rw [er]
      exact ⟨rfl, hM36, ((hF1.tr F31).tr F36)⟩
  have L0 : ∀ q, q ≤ T.length → ∀ (h1 : xH), MO G h1 m a (r_nx r (q : Int)) → AR G h1 a.2.2.2.2.2.2.1 500 gi → endR isSepB T q = S → FRp [m] h h1 → RR G MX12_scan 0 [(0, .ref m)] [] h1 (xm_R MX12_scan).cells (xm_R MX12_scan).slots (fun o h' => o = .inl none ∧ MO G h' m a (scR r T p) ∧ FRp [m] h h') := by
    refine down (fun q hq ih => ?_)
    intro h1 hM1 hA1 he hF1
    have hbb := bAt_b hb q
    refine r_aload_n dX12_scan_0 0 rfl ?_
    refine r_aload_n dX12_scan_1 0 rfl ?_
    refine m_g_nx (v := (q : Int)) hM1 rfl kf_X12_288 dX12_scan_2 ?_
    refine p_callV (As := [.int (iI ((q : Int)))]) (b := m) (rest := []) (w := (some (.int (iI (bAt T q))))) (st' := [.int (iI (bAt T q))]) kv_X12_scan_285 dX12_scan_5 rfl rfl (Nat.le_of_ble_eq_true rfl) (Nat.le_of_ble_eq_true rfl) (x_rv hM1.1 hM1.2 rfl) rfl rfl (c_X12_byteAt hM1 hA1 hl5 hg hb hli (q := q) (by omega)) rfl (fun h51 e51 => ?_)
    rw [show h51 = h1 from e51]
    refine i_bipush (32) (by decide) dX12_scan_8 ?_
    refine i_icmpeq dX12_scan_10 (tgt := 26) (by decide) (by unfold in32; omega) ⟨by decide, by decide⟩ (fun c10 => ?_) (fun c10 => ?_)
    · refine r_aload_n dX12_scan_26 0 rfl ?_
      refine r_dup dX12_scan_27 rfl ?_
      refine m_g_nx (v := (q : Int)) hM1 rfl kf_X12_288 dX12_scan_28 ?_
      refine i_const (1) dX12_scan_31 ?_
      refine i_add dX12_scan_32 ?_
      refine m_p_nx (v := (q : Int) + 1) hM1 kf_X12_288 dX12_scan_33 (fun h52 hM52 F52 => ?_)
      have hA1_52 := hA1.obj hM1 F52
      refine r_goto dX12_scan_36 (tgt := 0) (by decide) ?_
      have hx := bAt_lt (T := T) (q := q) (by omega)
      have hz : isSepB (T.getD q 0) = true := by unfold isSepB; rw [← hx.2]; simp; omega
      exact ih (q + 1) (by omega) (by omega) h52 hM52 hA1_52 (by rw [← he, endR_t hx.1 hz]) ((hF1.tr F52))
    · refine r_aload_n dX12_scan_13 0 rfl ?_
      refine r_aload_n dX12_scan_14 0 rfl ?_
      refine m_g_nx (v := (q : Int)) hM1 rfl kf_X12_288 dX12_scan_15 ?_
      refine p_callV (As := [.int (iI ((q : Int)))]) (b := m) (rest := []) (w := (some (.int (iI (bAt T q))))) (st' := [.int (iI (bAt T q))]) kv_X12_scan_285 dX12_scan_18 rfl rfl (Nat.le_of_ble_eq_true rfl) (Nat.le_of_ble_eq_true rfl) (x_rv hM1.1 hM1.2 rfl) rfl rfl (c_X12_byteAt hM1 hA1 hl5 hg hb hli (q := q) (by omega)) rfl (fun h53 e53 => ?_)
      rw [show h53 = h1 from e53]
      refine i_bipush (10) (by decide) dX12_scan_21 ?_
      refine i_icmpne dX12_scan_23 (tgt := 39) (by decide) (by unfold in32; omega) ⟨by decide, by decide⟩ (fun c23 => ?_) (fun c23 => ?_)
      · have hq0 : S = q := by
          rw [← he]
          by_cases hx : q < T.length
          · exact endR_f (by unfold isSepB; have hy : bAt T q = T.getD q 0 := if_pos hx; rw [← hy]; simp; omega)
          · exact endR_n (by omega)
        rw [← hq0] at hM1
        exact L39 h1 hM1 hA1 hF1
      · refine r_aload_n dX12_scan_26 0 rfl ?_
        refine r_dup dX12_scan_27 rfl ?_
        refine m_g_nx (v := (q : Int)) hM1 rfl kf_X12_288 dX12_scan_28 ?_
        refine i_const (1) dX12_scan_31 ?_
        refine i_add dX12_scan_32 ?_
        refine m_p_nx (v := (q : Int) + 1) hM1 kf_X12_288 dX12_scan_33 (fun h54 hM54 F54 => ?_)
        have hA1_54 := hA1.obj hM1 F54
        refine r_goto dX12_scan_36 (tgt := 0) (by decide) ?_
        have hx := bAt_lt (T := T) (q := q) (by omega)
        have hz : isSepB (T.getD q 0) = true := by unfold isSepB; rw [← hx.2]; simp; omega
        exact ih (q + 1) (by omega) (by omega) h54 hM54 hA1_54 (by rw [← he, endR_t hx.1 hz]) ((hF1.tr F54))
  exact L0 p hp h (by rw [← hnx]; exact hM) hA hS FRp.rf
