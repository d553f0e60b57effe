/-! ===== the reference: rolling ===== -/
theorem rollR_br (f lo : Int) (l : List Int) (k : Nat) (hk : k ≤ l.length) : (rollR f lo l k).2.1 = sumF (brF f lo) (l.take k) := by
  induction k with
  | zero => simp [rollR, sumF]
  | succ k ih =>
    rw [sumF_s (by omega), ← ih (by omega)]
    unfold brF
    by_cases c : rt f lo (l.getD k 0) = 0
    · rw [rollR_t c, if_pos c]
    · rw [rollR_f c, if_neg c, Int.add_zero]
theorem rt_t {f lo x : Int} (h : x < 0) (hl : 0 ≤ lo) : rt f lo x = (sz x - min lo (-x)) / f := by
  unfold rt isB sz
  rw [decide_eq_true h, if_pos rfl, if_pos h, show max 0 (-x - lo) = -x - min lo (-x) by omega]
theorem rt_f {f lo x : Int} (h : 0 ≤ x) : rt f lo x = max 1 ((sz x - 0) / f) := by
  unfold rt isB
  rw [decide_eq_false (by omega), if_neg (by decide), Int.sub_zero]
theorem rsg_t {f lo x : Int} (h : x < 0) : rsg f lo x = - rt f lo x := by unfold rsg isB; rw [decide_eq_true h, if_pos rfl]
theorem rsg_f {f lo x : Int} (h : 0 ≤ x) : rsg f lo x = rt f lo x := by unfold rsg isB; rw [decide_eq_false (by omega), if_neg (by decide)]
theorem esc_t {lo x : Int} (h : x < 0) : escF lo x = min lo (-x) := by unfold escF isB sz; rw [decide_eq_true h, if_pos rfl, if_pos h]
theorem esc_f {lo x : Int} (h : 0 ≤ x) : escF lo x = 0 := by unfold escF isB; rw [decide_eq_false (by omega), if_neg (by decide)]
theorem sz_t {x : Int} (h : x < 0) : sz x = -x := by unfold sz; rw [if_pos h]
theorem sz_f {x : Int} (h : 0 ≤ x) : sz x = x := by unfold sz; rw [if_neg (by omega)]
theorem div_b {a f : Int} (ha : 0 ≤ a) (hf : 2 ≤ f ∧ f ≤ 4) : 0 ≤ a / f ∧ a / f ≤ a := ⟨Int.ediv_nonneg ha (by omega), Int.ediv_le_self f ha⟩
set_option maxRecDepth 20000 in
set_option maxHeartbeats 1000000 in
theorem c_X12_escapes {G : xG} {h : xH} {m : Nat} {a : MA} {r : MR} (hM : MO G h m a r) {g : Nat → Int32} (hR : AR G h r.1 1456 g) {i : Nat} (hi : i ≤ 6) {s : AS} (hw : SWr g (7 + 207 * i) s) {me : Int} (hme : g 1 = iI me) (hmb : 0 ≤ me ∧ me ≤ 40) (hb : 0 ≤ s.2.2.1 ∧ s.2.2.1 ≤ 40) : CC G MX12_escapes [.ref m, .int (iI ((i : Int)))] h (qI (loss s me) h) := by
  show RR G MX12_escapes 0 [(0, .ref m), (1, .int (iI ((i : Int))))] [] h (xm_R MX12_escapes).cells (xm_R MX12_escapes).slots (qI (loss s me) h)
  refine r_aload_n dX12_escapes_0 0 rfl ?_
  refine r_iload_n dX12_escapes_1 1 rfl ?_
  refine i_const (2) dX12_escapes_2 ?_
  refine p_callV (As := [.int (iI ((i : Int))), .int (iI 2)]) (b := m) (rest := []) (w := (some (.int (iI (b2 s.2.2.2.2.2.1))))) (st' := [.int (iI (b2 s.2.2.2.2.2.1))]) kv_X12_escapes_124 dX12_escapes_3 rfl rfl (Nat.le_of_ble_eq_true rfl) (Nat.le_of_ble_eq_true rfl) (x_rv hM.1 hM.2 rfl) rfl rfl (c_X12_is hM hR (i := i) (w := 2) (by omega) (by decide) hw.2.2.1) rfl (fun h1 e1 => ?_)
  rw [show h1 = h from e1]
  refine i_ifeqb dX12_escapes_6 (tgt := 13) (by decide) (fun c6 => ?_) (fun c6 => ?_)
  · refine i_const (0) dX12_escapes_13 ?_
    refine r_aload_n dX12_escapes_14 0 rfl ?_
    refine r_iload_n dX12_escapes_15 1 rfl ?_
    refine i_const (0) dX12_escapes_16 ?_
    refine p_callV (As := [.int (iI ((i : Int))), .int (iI 0)]) (b := m) (rest := [.int (iI 0)]) (w := (some (.int (iI s.2.2.1)))) (st' := [.int (iI s.2.2.1), .int (iI 0)]) kv_X12_escapes_93 dX12_escapes_17 rfl rfl (Nat.le_of_ble_eq_true rfl) (Nat.le_of_ble_eq_true rfl) (x_rv hM.1 hM.2 rfl) rfl rfl (c_X12_of hM hR (i := i) (w := 0) (by omega) (by decide) hw.1) rfl (fun h2 e2 => ?_)
    rw [show h2 = h from e2]
    refine r_aload_n dX12_escapes_20 0 rfl ?_
    refine m_g_rr (v := r.1) hM rfl kf_X12_25 dX12_escapes_21 ?_
    refine i_const (1) dX12_escapes_24 ?_
    refine m_ld 1 rfl hme hR dX12_escapes_25 (by omega) (by decide) ?_
    refine i_sub dX12_escapes_26 ?_
    refine p_callS (As := [.int (iI 0), .int (iI (s.2.2.1 - me))]) (rest := []) (w := (some (.int (iI (max 0 (s.2.2.1 - me)))))) (st' := [.int (iI (max 0 (s.2.2.1 - me)))]) kv_X12_escapes_179 dX12_escapes_27 rfl rfl (Nat.le_of_ble_eq_true rfl) (Nat.le_of_ble_eq_true rfl) rfl rfl (c_X12_most ⟨by decide, by decide⟩ (by unfold in32; omega)) rfl (fun h3 e3 => ?_)
    rw [show h3 = h from e3]
    refine r_ireturn rfl rfl dX12_escapes_30 ?_
    have e : loss s me = max 0 (s.2.2.1 - me) := by unfold loss; rw [if_neg (by rw [c6]; decide)]
    rw [e]
    exact ⟨rfl, rfl⟩
  · refine i_const (0) dX12_escapes_9 ?_
    refine r_goto dX12_escapes_10 (tgt := 30) (by decide) ?_
    refine r_ireturn rfl rfl dX12_escapes_30 ?_
    have e : loss s me = 0 := by unfold loss; rw [if_pos c6]
    rw [e]
    exact ⟨rfl, rfl⟩
set_option maxRecDepth 20000 in
set_option maxHeartbeats 1000000 in
theorem c_X12_rollOut {G : xG} {h : xH} {m : Nat} {a : MA} {r : MR} (hM : MO G h m a r) {g : Nat → Int32} (hR : AR G h r.1 1456 g) {i : Nat} (hi : i < 6) {s : AS} (hw : SWr g (7 + 207 * i) s) (hW : WS s) {s6 : AS} (hw6 : SWr g (7 + 207 * 6) s6) {me : Int} (hme : g 1 = iI me) (hmb : 0 ≤ me ∧ me ≤ 40) {lo : Int} (hlo : lo = loss s me) (hlb : 0 ≤ lo ∧ lo ≤ 40) {f : Int} (hf : 2 ≤ f ∧ f ≤ 4) : CC G MX12_rollOut [.ref m, .int (iI (i : Int)), .int (iI f)] h (fun o h' => o = .inl none ∧ MO G h' m a (r_jz (r_bz (r_lz r (sumF (escF lo) (s.1.take s.1.length))) (rollR f lo s.1 s.1.length).2.1) (rollR f lo s.1 s.1.length).2.2.1) ∧ ∃ g', AR G h' r.1 1456 g' ∧ SWr g' (7 + 207 * 6) ((rollR f lo s.1 s.1.length).1, s6.2) ∧ EQo 6 g g' ∧ FRp [m, r.1] h h') := by
  obtain ⟨h1, hnz, h4, hw0, hw9⟩ := hW
  have hl2 := hw.len
  have roll_in : ∀ k, k ≤ s.1.length → ∀ q, q < (rollR f lo s.1 k).1.length → in32 ((rollR f lo s.1 k).1.getD q 0) := fun k hk q hq => by
    have a0 := rollR_ok (l := s.1) hf hlb.1 k hk
    have a1 := sz_le hq
    have a2 := sumF_rt hf hlb.1 (s.1.take k)
    have a3 := hgt_tk s.1 k
    have a4 : (s.1.take k).length ≤ k := List.length_take_le _ _
    have a5 := sz_ge ((rollR f lo s.1 k).1.getD q 0)
    have a6 := a0.1
    unfold in32
    omega
  have L : ∀ k, k ≤ s.1.length → ∀ (h2 : xH) (g2 : Nat → Int32), MO G h2 m a (r_jz (r_bz (r_lz r (sumF (escF lo) (s.1.take k))) (rollR f lo s.1 k).2.1) (rollR f lo s.1 k).2.2.1) → AR G h2 r.1 1456 g2 → SWr g2 (7 + 207 * 6) ((rollR f lo s.1 k).1, s6.2) → EQo 6 g g2 → FRp [m, r.1] h h2 → RR G MX12_rollOut 36 [(0, .ref m), (1, .int (iI ((i : Int)))), (2, .int (iI f)), (3, .int (iI lo)), (4, .int (iI (b2 (rollR f lo s.1 k).2.2.2))), (5, .int (iI ((k : Int))))] [] h2 (xm_R MX12_rollOut).cells (xm_R MX12_rollOut).slots (fun o h' => o = .inl none ∧ MO G h' m a (r_jz (r_bz (r_lz r (sumF (escF lo) (s.1.take s.1.length))) (rollR f lo s.1 s.1.length).2.1) (rollR f lo s.1 s.1.length).2.2.1) ∧ ∃ g', AR G h' r.1 1456 g' ∧ SWr g' (7 + 207 * 6) ((rollR f lo s.1 s.1.length).1, s6.2) ∧ EQo 6 g g' ∧ FRp [m, r.1] h h') := by
    refine down (fun k hk ih => ?_)
    intro h2 g2 hM2 hR2 hw6 hE2 hF2
    have hwi := hw.oth hE2 (by omega)
    refine r_iload dX12_rollOut_36 5 rfl ?_
    refine r_aload_n dX12_rollOut_38 0 rfl ?_
    refine r_iload_n dX12_rollOut_39 1 rfl ?_
    refine i_bipush (6) (by decide) dX12_rollOut_40 ?_
    refine p_callV (As := [.int (iI ((i : Int))), .int (iI 6)]) (b := m) (rest := [.int (iI ((k : Int)))]) (w := (some (.int (iI ((s.1.length : Int)))))) (st' := [.int (iI ((s.1.length : Int))), .int (iI ((k : Int)))]) kv_X12_rollOut_93 dX12_rollOut_42 rfl rfl (Nat.le_of_ble_eq_true rfl) (Nat.le_of_ble_eq_true rfl) (x_rv hM2.1 hM2.2 rfl) rfl rfl (c_X12_of hM2 hR2 (i := i) (w := 6) (by omega) (by decide) hwi.2.2.2.2.2.2.1) rfl (fun h21 e21 => ?_)
    rw [show h21 = h2 from e21]
    refine i_icmpge dX12_rollOut_45 (tgt := 158) (by decide) (by unfold in32; omega) (by unfold in32; omega) (fun c45 => ?_) (fun c45 => ?_)
    · refine r_return rfl dX12_rollOut_158 ?_
      have hk : k = s.1.length := by omega
      rw [hk] at hM2 hw6
      exact ⟨rfl, hM2, g2, hR2, hw6, hE2, hF2⟩
    · have hin : ∀ q, q < (rollR f lo s.1 k).1.length → in32 ((rollR f lo s.1 k).1.getD q 0) := roll_in k (by omega)
      refine r_aload_n dX12_rollOut_48 0 rfl ?_
      refine r_iload_n dX12_rollOut_49 1 rfl ?_
      refine r_iload dX12_rollOut_50 5 rfl ?_
      refine p_callV (As := [.int (iI ((i : Int))), .int (iI ((k : Int)))]) (b := m) (rest := []) (w := (some (.int (iI (s.1.getD k 0))))) (st' := [.int (iI (s.1.getD k 0))]) kv_X12_rollOut_97 dX12_rollOut_52 rfl rfl (Nat.le_of_ble_eq_true rfl) (Nat.le_of_ble_eq_true rfl) (x_rv hM2.1 hM2.2 rfl) rfl rfl (c_X12_layer_z hM2 hR2 (i := i) (k := k) (by omega) rfl hwi (by omega)) rfl (fun h22 e22 => ?_)
      rw [show h22 = h2 from e22]
      refine r_istore (ls' := [(0, .ref m), (1, .int (iI ((i : Int)))), (2, .int (iI f)), (3, .int (iI lo)), (4, .int (iI (b2 (rollR f lo s.1 k).2.2.2))), (5, .int (iI ((k : Int)))), (6, .int (iI (s.1.getD k 0)))]) dX12_rollOut_55 (by decide) rfl ?_
      have hlx := lay_b (l := s.1) h4 (k := k) (by omega)
      refine r_iload dX12_rollOut_57 6 rfl ?_
      refine i_ifge dX12_rollOut_59 (tgt := 72) (by decide) (by unfold in32; omega) (fun c59 => ?_) (fun c59 => ?_)
      · refine i_const (0) dX12_rollOut_72 ?_
        refine r_istore (ls' := [(0, .ref m), (1, .int (iI ((i : Int)))), (2, .int (iI f)), (3, .int (iI lo)), (4, .int (iI (b2 (rollR f lo s.1 k).2.2.2))), (5, .int (iI ((k : Int)))), (6, .int (iI (s.1.getD k 0))), (7, .int (iI 0))]) dX12_rollOut_73 (by decide) rfl ?_
        have hsz : sz (s.1.getD k 0) = (s.1.getD k 0) := sz_f c59
        have hdb := div_b (a := sz (s.1.getD k 0) - 0) (f := f) (by omega) hf
        refine r_iload dX12_rollOut_75 6 rfl ?_
        refine p_callS (As := [.int (iI (s.1.getD k 0))]) (rest := []) (w := (some (.int (iI (sz (s.1.getD k 0)))))) (st' := [.int (iI (sz (s.1.getD k 0)))]) kv_X12_rollOut_121 dX12_rollOut_77 rfl rfl (Nat.le_of_ble_eq_true rfl) (Nat.le_of_ble_eq_true rfl) rfl rfl (c_X12_sizeOf (by unfold in32; omega)) rfl (fun h23 e23 => ?_)
        rw [show h23 = h2 from e23]
        refine r_iload dX12_rollOut_80 7 rfl ?_
        refine i_sub dX12_rollOut_82 ?_
        refine r_iload_n dX12_rollOut_83 2 rfl ?_
        refine i_div dX12_rollOut_84 (by unfold in32; omega) (by unfold in32; omega) (by omega) (by omega) ?_
        refine r_istore (ls' := [(0, .ref m), (1, .int (iI ((i : Int)))), (2, .int (iI f)), (3, .int (iI lo)), (4, .int (iI (b2 (rollR f lo s.1 k).2.2.2))), (5, .int (iI ((k : Int)))), (6, .int (iI (s.1.getD k 0))), (7, .int (iI 0)), (8, .int (iI (((sz (s.1.getD k 0)) - 0) / f)))]) dX12_rollOut_85 (by decide) rfl ?_
        refine r_aload_n dX12_rollOut_87 0 rfl ?_
        refine r_dup dX12_rollOut_88 rfl ?_
        refine m_g_lz (v := (sumF (escF lo) (s.1.take k))) hM2 rfl kf_X12_185 dX12_rollOut_89 ?_
        refine r_iload dX12_rollOut_92 7 rfl ?_
        refine i_add dX12_rollOut_94 ?_
        refine m_p_lz (v := (sumF (escF lo) (s.1.take k)) + 0) hM2 kf_X12_185 dX12_rollOut_95 (fun h24 hM24 F24 => ?_)
        have hR24 := hR2.obj hM2 F24
        have hF24 := hF2.tr (FRm F24)
        refine r_iload dX12_rollOut_98 6 rfl ?_
        refine i_ifge dX12_rollOut_100 (tgt := 124) (by decide) (by unfold in32; omega) (fun _ => ?_) (fun c => absurd c (by omega))
        refine r_aload_n dX12_rollOut_124 0 rfl ?_
        refine i_bipush (6) (by decide) dX12_rollOut_125 ?_
        refine r_iload dX12_rollOut_127 6 rfl ?_
        refine i_ifge dX12_rollOut_129 (tgt := 138) (by decide) (by unfold in32; omega) (fun _ => ?_) (fun c => absurd c (by omega))
        refine i_const (1) dX12_rollOut_138 ?_
        refine r_iload dX12_rollOut_139 8 rfl ?_
        refine p_callS (As := [.int (iI 1), .int (iI (((sz (s.1.getD k 0)) - 0) / f))]) (rest := [.int (iI 6), .ref m]) (w := (some (.int (iI (max 1 (((sz (s.1.getD k 0)) - 0) / f)))))) (st' := [.int (iI (max 1 (((sz (s.1.getD k 0)) - 0) / f))), .int (iI 6), .ref m]) kv_X12_rollOut_179 dX12_rollOut_141 rfl rfl (Nat.le_of_ble_eq_true rfl) (Nat.le_of_ble_eq_true rfl) rfl rfl (c_X12_most ⟨by decide, by decide⟩ (by unfold in32; omega)) rfl (fun h25 e25 => ?_)
        rw [show h25 = h24 from e25]
        refine r_iload dX12_rollOut_144 4 rfl ?_
        have hne : rt f lo (s.1.getD k 0) ≠ 0 := by rw [rt_f c59]; omega
        have es := rollR_f hne
        have ex : rsg f lo (s.1.getD k 0) = max 1 (((sz (s.1.getD k 0)) - 0) / f) := by rw [rsg_f c59, rt_f c59]
        rw [ex] at es
        have hrk := rollR_ok (l := s.1) hf hlb.1 k (by omega)
        have hln := rollR_len f lo s.1 k
        have hrb := rt_le hf hlb.1 (hnz _ (getD_mem (l := s.1) (i := k) (by omega)))
        have hs9 := sumF_rt hf hlb.1 (s.1.take k)
        have htk := hgt_tk s.1 k
        have hx0 : max 1 (((sz (s.1.getD k 0)) - 0) / f) ≠ 0 := by have q := (rsg_sz (x := (s.1.getD k 0)) hf hlb.1 hne).2; rw [ex] at q; intro z; rw [z] at q; exact hne q.symm
        refine p_callV (As := [.int (iI 6), .int (iI (max 1 (((sz (s.1.getD k 0)) - 0) / f))), .int (iI (b2 (rollR f lo s.1 k).2.2.2))]) (b := m) (rest := []) (w := none) (st' := []) kv_X12_rollOut_171 dX12_rollOut_146 rfl rfl (Nat.le_of_ble_eq_true rfl) (Nat.le_of_ble_eq_true rfl) (x_rv hM24.1 hM24.2 rfl) rfl rfl (c_X12_putLayer hM24 hR24 (i := 6) (by omega) hw6 hrk.2 (fun q hq => hin q hq) (x := max 1 (((sz (s.1.getD k 0)) - 0) / f)) hx0 (by unfold in32; omega) (mt := (rollR f lo s.1 k).2.2.2) (Or.inl (show (rollR f lo s.1 k).1.length < 200 by omega))) rfl (fun h26 e26 => ?_)
        obtain ⟨hM26, g26, hR26, hw26, E26, X26⟩ := e26
        have hF26 := hF24.tr (X26)
        refine i_const (0) dX12_rollOut_149 ?_
        refine r_istore (ls' := [(0, .ref m), (1, .int (iI ((i : Int)))), (2, .int (iI f)), (3, .int (iI lo)), (4, .int (iI 0)), (5, .int (iI ((k : Int)))), (6, .int (iI (s.1.getD k 0))), (7, .int (iI 0)), (8, .int (iI (((sz (s.1.getD k 0)) - 0) / f)))]) dX12_rollOut_150 (by decide) rfl ?_
        refine i_iinc (ls' := [(0, .ref m), (1, .int (iI ((i : Int)))), (2, .int (iI f)), (3, .int (iI lo)), (4, .int (iI 0)), (5, .int (iI ((k : Int) + 1))), (6, .int (iI (s.1.getD k 0))), (7, .int (iI 0)), (8, .int (iI (((sz (s.1.getD k 0)) - 0) / f)))]) (1) (v := (k : Int) + 1) dX12_rollOut_152 5 rfl (by omega) (by decide) rfl ?_
        refine r_goto dX12_rollOut_155 (tgt := 36) (by decide) ?_
        refine rr_take 6 rfl ?_
        have q := ih (k + 1) (by omega) (by omega) h26 g26
        rw [es, sumF_s (by omega), esc_f c59] at q
        exact q hM26 hR26 hw26 (hE2.tr E26) hF26
      · refine r_iload_n dX12_rollOut_62 3 rfl ?_
        refine r_iload dX12_rollOut_63 6 rfl ?_
        refine i_neg dX12_rollOut_65 ?_
        refine p_callS (As := [.int (iI lo), .int (iI (-(s.1.getD k 0)))]) (rest := []) (w := (some (.int (iI (min lo (-(s.1.getD k 0))))))) (st' := [.int (iI (min lo (-(s.1.getD k 0))))]) kv_X12_rollOut_165 dX12_rollOut_66 rfl rfl (Nat.le_of_ble_eq_true rfl) (Nat.le_of_ble_eq_true rfl) rfl rfl (c_X12_least (by unfold in32; omega) (by unfold in32; omega)) rfl (fun h27 e27 => ?_)
        rw [show h27 = h2 from e27]
        refine r_goto dX12_rollOut_69 (tgt := 73) (by decide) ?_
        refine r_istore (ls' := [(0, .ref m), (1, .int (iI ((i : Int)))), (2, .int (iI f)), (3, .int (iI lo)), (4, .int (iI (b2 (rollR f lo s.1 k).2.2.2))), (5, .int (iI ((k : Int)))), (6, .int (iI (s.1.getD k 0))), (7, .int (iI (min lo (-(s.1.getD k 0)))))]) dX12_rollOut_73 (by decide) rfl ?_
        have hsz : sz (s.1.getD k 0) = -(s.1.getD k 0) := sz_t c59
        have hdb := div_b (a := sz (s.1.getD k 0) - (min lo (-(s.1.getD k 0)))) (f := f) (by omega) hf
        refine r_iload dX12_rollOut_75 6 rfl ?_
        refine p_callS (As := [.int (iI (s.1.getD k 0))]) (rest := []) (w := (some (.int (iI (sz (s.1.getD k 0)))))) (st' := [.int (iI (sz (s.1.getD k 0)))]) kv_X12_rollOut_121 dX12_rollOut_77 rfl rfl (Nat.le_of_ble_eq_true rfl) (Nat.le_of_ble_eq_true rfl) rfl rfl (c_X12_sizeOf (by unfold in32; omega)) rfl (fun h28 e28 => ?_)
        rw [show h28 = h2 from e28]
        refine r_iload dX12_rollOut_80 7 rfl ?_
        refine i_sub dX12_rollOut_82 ?_
        refine r_iload_n dX12_rollOut_83 2 rfl ?_
        refine i_div dX12_rollOut_84 (by unfold in32; omega) (by unfold in32; omega) (by omega) (by omega) ?_
        refine r_istore (ls' := [(0, .ref m), (1, .int (iI ((i : Int)))), (2, .int (iI f)), (3, .int (iI lo)), (4, .int (iI (b2 (rollR f lo s.1 k).2.2.2))), (5, .int (iI ((k : Int)))), (6, .int (iI (s.1.getD k 0))), (7, .int (iI (min lo (-(s.1.getD k 0))))), (8, .int (iI (((sz (s.1.getD k 0)) - (min lo (-(s.1.getD k 0)))) / f)))]) dX12_rollOut_85 (by decide) rfl ?_
        refine r_aload_n dX12_rollOut_87 0 rfl ?_
        refine r_dup dX12_rollOut_88 rfl ?_
        refine m_g_lz (v := (sumF (escF lo) (s.1.take k))) hM2 rfl kf_X12_185 dX12_rollOut_89 ?_
        refine r_iload dX12_rollOut_92 7 rfl ?_
        refine i_add dX12_rollOut_94 ?_
        refine m_p_lz (v := (sumF (escF lo) (s.1.take k)) + (min lo (-(s.1.getD k 0)))) hM2 kf_X12_185 dX12_rollOut_95 (fun h29 hM29 F29 => ?_)
        have hR29 := hR2.obj hM2 F29
        have hF29 := hF2.tr (FRm F29)
        refine r_iload dX12_rollOut_98 6 rfl ?_
        refine i_ifge dX12_rollOut_100 (tgt := 124) (by decide) (by unfold in32; omega) (fun c => absurd c (by omega)) (fun _ => ?_)
        refine r_iload dX12_rollOut_103 8 rfl ?_
        refine i_ifne dX12_rollOut_105 (tgt := 124) (by decide) (by unfold in32; omega) (fun c105 => ?_) (fun c105 => ?_)
        · refine r_aload_n dX12_rollOut_124 0 rfl ?_
          refine i_bipush (6) (by decide) dX12_rollOut_125 ?_
          refine r_iload dX12_rollOut_127 6 rfl ?_
          refine i_ifge dX12_rollOut_129 (tgt := 138) (by decide) (by unfold in32; omega) (fun c => absurd c (by omega)) (fun _ => ?_)
          refine r_iload dX12_rollOut_132 8 rfl ?_
          refine i_neg dX12_rollOut_134 ?_
          refine r_goto dX12_rollOut_135 (tgt := 144) (by decide) ?_
          refine r_iload dX12_rollOut_144 4 rfl ?_
          have hne : rt f lo (s.1.getD k 0) ≠ 0 := by rw [rt_t c59 hlb.1]; exact c105
          have es := rollR_f hne
          have ex : rsg f lo (s.1.getD k 0) = -(((sz (s.1.getD k 0)) - (min lo (-(s.1.getD k 0)))) / f) := by rw [rsg_t c59, rt_t c59 hlb.1]
          rw [ex] at es
          have hrk := rollR_ok (l := s.1) hf hlb.1 k (by omega)
          have hln := rollR_len f lo s.1 k
          have hrb := rt_le hf hlb.1 (hnz _ (getD_mem (l := s.1) (i := k) (by omega)))
          have hs9 := sumF_rt hf hlb.1 (s.1.take k)
          have htk := hgt_tk s.1 k
          have hx0 : -(((sz (s.1.getD k 0)) - (min lo (-(s.1.getD k 0)))) / f) ≠ 0 := by have q := (rsg_sz (x := (s.1.getD k 0)) hf hlb.1 hne).2; rw [ex] at q; intro z; rw [z] at q; exact hne q.symm
          refine p_callV (As := [.int (iI 6), .int (iI (-(((sz (s.1.getD k 0)) - (min lo (-(s.1.getD k 0)))) / f))), .int (iI (b2 (rollR f lo s.1 k).2.2.2))]) (b := m) (rest := []) (w := none) (st' := []) kv_X12_rollOut_171 dX12_rollOut_146 rfl rfl (Nat.le_of_ble_eq_true rfl) (Nat.le_of_ble_eq_true rfl) (x_rv hM29.1 hM29.2 rfl) rfl rfl (c_X12_putLayer hM29 hR29 (i := 6) (by omega) hw6 hrk.2 (fun q hq => hin q hq) (x := -(((sz (s.1.getD k 0)) - (min lo (-(s.1.getD k 0)))) / f)) hx0 (by unfold in32; omega) (mt := (rollR f lo s.1 k).2.2.2) (Or.inl (show (rollR f lo s.1 k).1.length < 200 by omega))) rfl (fun h30 e30 => ?_)
          obtain ⟨hM30, g30, hR30, hw30, E30, X30⟩ := e30
          have hF30 := hF29.tr (X30)
          refine i_const (0) dX12_rollOut_149 ?_
          refine r_istore (ls' := [(0, .ref m), (1, .int (iI ((i : Int)))), (2, .int (iI f)), (3, .int (iI lo)), (4, .int (iI 0)), (5, .int (iI ((k : Int)))), (6, .int (iI (s.1.getD k 0))), (7, .int (iI (min lo (-(s.1.getD k 0))))), (8, .int (iI (((sz (s.1.getD k 0)) - (min lo (-(s.1.getD k 0)))) / f)))]) dX12_rollOut_150 (by decide) rfl ?_
          refine i_iinc (ls' := [(0, .ref m), (1, .int (iI ((i : Int)))), (2, .int (iI f)), (3, .int (iI lo)), (4, .int (iI 0)), (5, .int (iI ((k : Int) + 1))), (6, .int (iI (s.1.getD k 0))), (7, .int (iI (min lo (-(s.1.getD k 0))))), (8, .int (iI (((sz (s.1.getD k 0)) - (min lo (-(s.1.getD k 0)))) / f)))]) (1) (v := (k : Int) + 1) dX12_rollOut_152 5 rfl (by omega) (by decide) rfl ?_
          refine r_goto dX12_rollOut_155 (tgt := 36) (by decide) ?_
          refine rr_take 6 rfl ?_
          have q := ih (k + 1) (by omega) (by omega) h30 g30
          rw [es, sumF_s (by omega), esc_t c59] at q
          exact q hM30 hR30 hw30 (hE2.tr E30) hF30
        · refine r_aload_n dX12_rollOut_108 0 rfl ?_
          refine r_dup dX12_rollOut_109 rfl ?_
          refine m_g_bz (v := (rollR f lo s.1 k).2.1) hM29 rfl kf_X12_188 dX12_rollOut_110 ?_
          refine i_const (1) dX12_rollOut_113 ?_
          refine i_add dX12_rollOut_114 ?_
          refine m_p_bz (v := ((rollR f lo s.1 k).2.1) + 1) hM29 kf_X12_188 dX12_rollOut_115 (fun h31 hM31 F31 => ?_)
          have hR31 := hR29.obj hM29 F31
          have hF31 := hF29.tr (FRm F31)
          refine i_const (1) dX12_rollOut_118 ?_
          refine r_istore (ls' := [(0, .ref m), (1, .int (iI ((i : Int)))), (2, .int (iI f)), (3, .int (iI lo)), (4, .int (iI 1)), (5, .int (iI ((k : Int)))), (6, .int (iI (s.1.getD k 0))), (7, .int (iI (min lo (-(s.1.getD k 0))))), (8, .int (iI (((sz (s.1.getD k 0)) - (min lo (-(s.1.getD k 0)))) / f)))]) dX12_rollOut_119 (by decide) rfl ?_
          refine r_goto dX12_rollOut_121 (tgt := 152) (by decide) ?_
          refine i_iinc (ls' := [(0, .ref m), (1, .int (iI ((i : Int)))), (2, .int (iI f)), (3, .int (iI lo)), (4, .int (iI 1)), (5, .int (iI ((k : Int) + 1))), (6, .int (iI (s.1.getD k 0))), (7, .int (iI (min lo (-(s.1.getD k 0))))), (8, .int (iI (((sz (s.1.getD k 0)) - (min lo (-(s.1.getD k 0)))) / f)))]) (1) (v := (k : Int) + 1) dX12_rollOut_152 5 rfl (by omega) (by decide) rfl ?_
          refine r_goto dX12_rollOut_155 (tgt := 36) (by decide) ?_
          refine rr_take 6 rfl ?_
          have hze : rt f lo (s.1.getD k 0) = 0 := by rw [rt_t c59 hlb.1]; exact c105
          have es := rollR_t (l := s.1) hze
          have q := ih (k + 1) (by omega) (by omega) h31 g2
          rw [es, sumF_s (by omega), esc_t c59] at q
          exact q hM31 hR31 hw6 hE2 hF31
  show RR G MX12_rollOut 0 [(0, .ref m), (1, .int (iI ((i : Int)))), (2, .int (iI f))] [] h (xm_R MX12_rollOut).cells (xm_R MX12_rollOut).slots (fun o h' => o = .inl none ∧ MO G h' m a (r_jz (r_bz (r_lz r (sumF (escF lo) (s.1.take s.1.length))) (rollR f lo s.1 s.1.length).2.1) (rollR f lo s.1 s.1.length).2.2.1) ∧ ∃ g', AR G h' r.1 1456 g' ∧ SWr g' (7 + 207 * 6) ((rollR f lo s.1 s.1.length).1, s6.2) ∧ EQo 6 g g' ∧ FRp [m, r.1] h h')
  refine r_aload_n dX12_rollOut_0 0 rfl ?_
  refine r_iload_n dX12_rollOut_1 1 rfl ?_
  refine p_callV (As := [.int (iI ((i : Int)))]) (b := m) (rest := []) (w := (some (.int (iI (loss s me))))) (st' := [.int (iI (loss s me))]) kv_X12_rollOut_182 dX12_rollOut_2 rfl rfl (Nat.le_of_ble_eq_true rfl) (Nat.le_of_ble_eq_true rfl) (x_rv hM.1 hM.2 rfl) rfl rfl (c_X12_escapes hM hR (by omega) hw hme hmb ⟨hw0, hw9⟩) rfl (fun h61 e61 => ?_)
  rw [show h61 = h from e61]
  refine r_istore_n (ls' := [(0, .ref m), (1, .int (iI ((i : Int)))), (2, .int (iI f)), (3, .int (iI (loss s me)))]) dX12_rollOut_5 (by decide) rfl ?_
  rw [← hlo]
  refine i_const (0) dX12_rollOut_6 ?_
  refine r_istore (ls' := [(0, .ref m), (1, .int (iI ((i : Int)))), (2, .int (iI f)), (3, .int (iI lo)), (4, .int (iI 0))]) dX12_rollOut_7 (by decide) rfl ?_
  refine r_aload_n dX12_rollOut_9 0 rfl ?_
  refine i_const (0) dX12_rollOut_10 ?_
  refine m_p_lz (v := 0) hM kf_X12_185 dX12_rollOut_11 (fun h62 hM62 F62 => ?_)
  have hR62 := hR.obj hM F62
  have hF62 : FRp [m, r.1] h h62 := FRm F62
  refine r_aload_n dX12_rollOut_14 0 rfl ?_
  refine i_const (0) dX12_rollOut_15 ?_
  refine m_p_bz (v := 0) hM62 kf_X12_188 dX12_rollOut_16 (fun h63 hM63 F63 => ?_)
  have hR63 := hR62.obj hM62 F63
  have hF63 := hF62.tr (FRm F63)
  refine r_aload_n dX12_rollOut_19 0 rfl ?_
  refine i_const (0) dX12_rollOut_20 ?_
  refine m_p_jz (v := 0) hM63 kf_X12_104 dX12_rollOut_21 (fun h64 hM64 F64 => ?_)
  have hR64 := hR63.obj hM63 F64
  have hF64 := hF63.tr (FRm F64)
  refine r_aload_n dX12_rollOut_24 0 rfl ?_
  refine i_bipush (6) (by decide) dX12_rollOut_25 ?_
  refine i_bipush (6) (by decide) dX12_rollOut_27 ?_
  refine i_const (0) dX12_rollOut_29 ?_
  refine p_callV (As := [.int (iI 6), .int (iI 6), .int (iI 0)]) (b := m) (rest := []) (w := none) (st' := []) kv_X12_rollOut_90 dX12_rollOut_30 rfl rfl (Nat.le_of_ble_eq_true rfl) (Nat.le_of_ble_eq_true rfl) (x_rv hM64.1 hM64.2 rfl) rfl rfl (c_X12_lay_6 hM64 hR64 (i := 6) (by omega) hw6) rfl (fun h65 e65 => ?_)
  obtain ⟨g65, hR65, hw65, E65, F65⟩ := e65
  have hM65 := hM64.row hR64 F65
  have hF65 := hF64.tr (FRr F65)
  have hw_65 := hw.oth E65 (by omega)
  refine i_const (0) dX12_rollOut_33 ?_
  refine r_istore (ls' := [(0, .ref m), (1, .int (iI ((i : Int)))), (2, .int (iI f)), (3, .int (iI lo)), (4, .int (iI 0)), (5, .int (iI 0))]) dX12_rollOut_34 (by decide) rfl ?_
  exact L 0 (by omega) h65 g65 hM65 hR65 hw65 E65 hF65
