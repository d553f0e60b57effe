/-! ===== the reference: stacking ===== -/
def shL (L : List AS) (j t q : Nat) : AS := if q < j then L.getD q dS else if q + 1 < t then L.getD (q + 1) dS else L.getD q dS
theorem shL_0 (L : List AS) (j q : Nat) : shL L j (j + 1) q = L.getD q dS := by
  unfold shL
  by_cases a : q < j
  · rw [if_pos a]
  · rw [if_neg a, if_neg (by omega)]
theorem shL_er {L : List AS} {j q : Nat} (hj : j < L.length) (hq : q + 1 < L.length) : shL L j L.length q = (L.eraseIdx j).getD q dS := by
  unfold shL
  simp only [List.getD_eq_getElem?_getD, List.getElem?_eraseIdx]
  by_cases a : q < j
  · simp [a]
  · simp [a, hq]
def SHF (g : Nat → Int32) (L : List AS) (j t : Nat) : Prop := ∀ q, q < L.length → SWr g (7 + 207 * q) (shL L j t q)
theorem SHF.step {g g' : Nat → Int32} {L : List AS} {j t : Nat} (h : SHF g L j t) (hj : j < t) (ht : t < L.length) (hs : SWr g' (7 + 207 * (t - 1)) (L.getD t dS)) (e : EQo (t - 1) g g') : SHF g' L j (t + 1) := fun q hq => by
  by_cases a : q = t - 1
  · have z : shL L j (t + 1) q = L.getD t dS := by unfold shL; rw [if_neg (by omega), if_pos (by omega), show q + 1 = t by omega]
    rw [z, a]; exact hs
  · have z : shL L j (t + 1) q = shL L j t q := by
      unfold shL
      by_cases b : q < j
      · rw [if_pos b, if_pos b]
      · rw [if_neg b, if_neg b]
        by_cases c : q + 1 < t
        · rw [if_pos c, if_pos (by omega)]
        · rw [if_neg c, if_neg (by omega)]
    rw [z]; exact (h q hq).oth e (fun y => a y.symm)
theorem SHF.src {g : Nat → Int32} {L : List AS} {j t : Nat} (h : SHF g L j t) (hj : j < t) (ht : t < L.length) : SWr g (7 + 207 * t) (L.getD t dS) := by
  have z := h t ht
  rw [show shL L j t t = L.getD t dS by unfold shL; rw [if_neg (by omega), if_neg (by omega)]] at z
  exact z
theorem RWf.er {g0 g2 g3 : Nat → Int32} {B : AB} (h : RWf g0 0 B) {j : Nat} (hj : j < B.2.length) (hd : ∀ q, q < 7 → g2 q = g0 q) (hS : SHF g2 B.2 j B.2.length) {s6 : AS} (h6 : SWr g2 (7 + 207 * 6) s6) (e2 : ∀ q, q ≠ 3 → g3 q = g2 q) (e3 : g3 3 = iI ((B.2.length : Int) - 1)) : RWf g3 0 (B.1, B.2.eraseIdx j) := by
  have hb := h.1.2.1
  have hl : (B.2.eraseIdx j).length = B.2.length - 1 := by rw [List.length_eraseIdx, if_pos hj]
  obtain ⟨⟨h0, h1, h2, h3, h4, h5, h9⟩, h7, h8⟩ := id h.1
  refine ⟨⟨⟨(e2 0 (by omega)).trans ((hd 0 (by omega)).trans h0), (e2 1 (by omega)).trans ((hd 1 (by omega)).trans h1), (e2 2 (by omega)).trans ((hd 2 (by omega)).trans h2), e3.trans (by rw [hl]; congr 1; omega), (e2 4 (by omega)).trans ((hd 4 (by omega)).trans h4), (e2 5 (by omega)).trans ((hd 5 (by omega)).trans h5), (e2 6 (by omega)).trans ((hd 6 (by omega)).trans h9)⟩, by show (B.2.eraseIdx j).length ≤ 6; omega, fun i hi => ?_⟩, s6, (h6.eq (fun k q1 q2 => e2 k (by omega)) : SWr g3 (7 + 207 * 6) s6)⟩
  have hi : i < (B.2.eraseIdx j).length := hi
  rw [show 0 + 7 + 207 * i = 7 + 207 * i by omega]
  show SWr g3 (7 + 207 * i) ((B.2.eraseIdx j).getD i dS)
  rw [← shL_er hj (by omega)]
  exact (hS i (by omega)).eq (fun k q1 q2 => e2 k (by omega))
set_option maxRecDepth 20000 in
set_option maxHeartbeats 1000000 in
theorem c_X12_most_raw {G : xG} {h : xH} {x y : Int32} : CC G MX12_most [.int x, .int y] h (fun o h' => o = .inl (some (.int (if x < y then y else x))) ∧ h' = h) := by
  show RR G MX12_most 0 [(0, .int x), (1, .int y)] [] h (xm_R MX12_most).cells (xm_R MX12_most).slots (fun o h' => o = .inl (some (.int (if x < y then y else x))) ∧ h' = h)
  refine r_iload_n dX12_most_0 0 rfl ?_
  refine r_iload_n dX12_most_1 1 rfl ?_
  refine r_icmple dX12_most_2 (tgt := 9) (by decide) (fun c2 => ?_) (fun c2 => ?_)
  · refine r_iload_n dX12_most_9 1 rfl ?_
    refine r_ireturn rfl rfl dX12_most_10 ?_
    have e : (if x < y then y else x) = y := by split; rfl; exact Int32.le_antisymm c2 (Int32.not_lt.mp (by assumption))
    rw [e]
    exact ⟨rfl, rfl⟩
  · refine r_iload_n dX12_most_5 0 rfl ?_
    refine r_goto dX12_most_6 (tgt := 10) (by decide) ?_
    refine r_ireturn rfl rfl dX12_most_10 ?_
    have e : (if x < y then y else x) = x := by rw [if_neg (show ¬ x < y from fun z => Int32.lt_irrefl (Int32.lt_trans z (Int32.not_le.mp c2)))]
    rw [e]
    exact ⟨rfl, rfl⟩
set_option maxRecDepth 20000 in
set_option maxHeartbeats 1000000 in
theorem c_X12_doStack_n1a {G : xG} {h : xH} {m : Nat} {a : MA} {r : MR} (hM : MO G h m a r) {g : Nat → Int32} (hR : AR G h r.1 1456 g) {n : Nat} (hn : n ≤ 6) (hc : g 3 = iI (n : Int)) {z : Int} (hz : in32 z) (hs : ¬ (0 ≤ z ∧ z < (n : Int))) {q : Int} : CC G MX12_doStack [.ref m, .int (iI z), .int (iI q)] h (qI 1 h) := by
  show RR G MX12_doStack 0 [(0, .ref m), (1, .int (iI z)), (2, .int (iI q))] [] h (xm_R MX12_doStack).cells (xm_R MX12_doStack).slots (qI 1 h)
  refine r_aload_n dX12_doStack_0 0 rfl ?_
  refine r_iload_n dX12_doStack_1 1 rfl ?_
  refine p_callV (As := [.int (iI z)]) (b := m) (rest := []) (w := (some (.int (iI (b2 false))))) (st' := [.int (iI (b2 false))]) kv_X12_doStack_111 dX12_doStack_2 rfl rfl (Nat.le_of_ble_eq_true rfl) (Nat.le_of_ble_eq_true rfl) (x_rv hM.1 hM.2 rfl) rfl rfl (c_X12_isSheet_f hM hR hn hc hz hs) rfl (fun h1 e1 => ?_)
  rw [show h1 = h from e1]
  refine i_ifeqb dX12_doStack_5 (tgt := 16) (by decide) (fun _ => ?_) (fun c => absurd c (by decide))
  refine i_const (1) dX12_doStack_16 ?_
  refine r_ireturn rfl rfl dX12_doStack_17 ?_
  exact ⟨rfl, rfl⟩
set_option maxRecDepth 20000 in
set_option maxHeartbeats 1000000 in
theorem c_X12_doStack_n1b {G : xG} {h : xH} {m : Nat} {a : MA} {r : MR} (hM : MO G h m a r) {g : Nat → Int32} (hR : AR G h r.1 1456 g) {n : Nat} (hn : n ≤ 6) (hc : g 3 = iI (n : Int)) {i : Nat} (hi : i < n) {z : Int} (hz : in32 z) (hs : ¬ (0 ≤ z ∧ z < (n : Int))) : CC G MX12_doStack [.ref m, .int (iI ((i : Int))), .int (iI z)] h (qI 1 h) := by
  show RR G MX12_doStack 0 [(0, .ref m), (1, .int (iI ((i : Int)))), (2, .int (iI z))] [] h (xm_R MX12_doStack).cells (xm_R MX12_doStack).slots (qI 1 h)
  refine r_aload_n dX12_doStack_0 0 rfl ?_
  refine r_iload_n dX12_doStack_1 1 rfl ?_
  refine p_callV (As := [.int (iI ((i : Int)))]) (b := m) (rest := []) (w := (some (.int (iI (b2 true))))) (st' := [.int (iI (b2 true))]) kv_X12_doStack_111 dX12_doStack_2 rfl rfl (Nat.le_of_ble_eq_true rfl) (Nat.le_of_ble_eq_true rfl) (x_rv hM.1 hM.2 rfl) rfl rfl (c_X12_isSheet_t hM hR hn hc hi) rfl (fun h1 e1 => ?_)
  rw [show h1 = h from e1]
  refine i_ifeqb dX12_doStack_5 (tgt := 16) (by decide) (fun c => absurd c (by decide)) (fun _ => ?_)
  refine r_aload_n dX12_doStack_8 0 rfl ?_
  refine r_iload_n dX12_doStack_9 2 rfl ?_
  refine p_callV (As := [.int (iI z)]) (b := m) (rest := []) (w := (some (.int (iI (b2 false))))) (st' := [.int (iI (b2 false))]) kv_X12_doStack_111 dX12_doStack_10 rfl rfl (Nat.le_of_ble_eq_true rfl) (Nat.le_of_ble_eq_true rfl) (x_rv hM.1 hM.2 rfl) rfl rfl (c_X12_isSheet_f hM hR hn hc hz hs) rfl (fun h2 e2 => ?_)
  rw [show h2 = h from e2]
  refine i_ifneb dX12_doStack_13 (tgt := 18) (by decide) (fun c => absurd c (by decide)) (fun _ => ?_)
  refine i_const (1) dX12_doStack_16 ?_
  refine r_ireturn rfl rfl dX12_doStack_17 ?_
  exact ⟨rfl, rfl⟩
set_option maxRecDepth 20000 in
set_option maxHeartbeats 1000000 in
theorem c_X12_doStack_n2 {G : xG} {h : xH} {m : Nat} {a : MA} {r : MR} (hM : MO G h m a r) {g : Nat → Int32} (hR : AR G h r.1 1456 g) {n : Nat} (hn : n ≤ 6) (hc : g 3 = iI (n : Int)) {i : Nat} (hi : i < n) : CC G MX12_doStack [.ref m, .int (iI ((i : Int))), .int (iI ((i : Int)))] h (qI 2 h) := by
  show RR G MX12_doStack 0 [(0, .ref m), (1, .int (iI ((i : Int)))), (2, .int (iI ((i : Int))))] [] h (xm_R MX12_doStack).cells (xm_R MX12_doStack).slots (qI 2 h)
  refine r_aload_n dX12_doStack_0 0 rfl ?_
  refine r_iload_n dX12_doStack_1 1 rfl ?_
  refine p_callV (As := [.int (iI ((i : Int)))]) (b := m) (rest := []) (w := (some (.int (iI (b2 true))))) (st' := [.int (iI (b2 true))]) kv_X12_doStack_111 dX12_doStack_2 rfl rfl (Nat.le_of_ble_eq_true rfl) (Nat.le_of_ble_eq_true rfl) (x_rv hM.1 hM.2 rfl) rfl rfl (c_X12_isSheet_t hM hR hn hc hi) rfl (fun h1 e1 => ?_)
  rw [show h1 = h from e1]
  refine i_ifeqb dX12_doStack_5 (tgt := 16) (by decide) (fun c => absurd c (by decide)) (fun _ => ?_)
  refine r_aload_n dX12_doStack_8 0 rfl ?_
  refine r_iload_n dX12_doStack_9 2 rfl ?_
  refine p_callV (As := [.int (iI ((i : Int)))]) (b := m) (rest := []) (w := (some (.int (iI (b2 true))))) (st' := [.int (iI (b2 true))]) kv_X12_doStack_111 dX12_doStack_10 rfl rfl (Nat.le_of_ble_eq_true rfl) (Nat.le_of_ble_eq_true rfl) (x_rv hM.1 hM.2 rfl) rfl rfl (c_X12_isSheet_t hM hR hn hc hi) rfl (fun h2 e2 => ?_)
  rw [show h2 = h from e2]
  refine i_ifneb dX12_doStack_13 (tgt := 18) (by decide) (fun _ => ?_) (fun c => absurd c (by decide))
  refine r_iload_n dX12_doStack_18 1 rfl ?_
  refine r_iload_n dX12_doStack_19 2 rfl ?_
  refine i_icmpne dX12_doStack_20 (tgt := 25) (by decide) (by unfold in32; omega) (by unfold in32; omega) (fun c => absurd rfl c) (fun _ => ?_)
  refine i_const (2) dX12_doStack_23 ?_
  refine r_ireturn rfl rfl dX12_doStack_24 ?_
  exact ⟨rfl, rfl⟩
theorem rStS {s s9 : AS} : rStackS s s9 = 0 ↔ s.2.2.2.2.2.2 = false ∧ s9.2.2.2.2.2.2 = false ∧ tooM s s9 = false := by
  unfold rStackS tooM
  cases a : s.2.2.2.2.2.2 <;> cases b : s9.2.2.2.2.2.2 <;> simp
  by_cases c : 200 < (s.1.length : Int) + (s9.1.length : Int) - (if jW s s9 then 1 else 0)
  · rw [if_pos c]; simp; intro z; omega
  · rw [if_neg c]
    by_cases d : 4000 < hgt s.1 + hgt s9.1
    · rw [if_pos d]; simp; intro _; exact d
    · rw [if_neg d]; simp; omega
set_option maxRecDepth 20000 in
set_option maxHeartbeats 1000000 in
theorem c_X12_doStack_n3 {G : xG} {h : xH} {m : Nat} {a : MA} {r : MR} (hM : MO G h m a r) {g : Nat → Int32} (hR : AR G h r.1 1456 g) {B : AB} (hRW : RWf g 0 B) (hWB : WB B) {i : Nat} (hi : i < B.2.length) {j : Nat} (hj : j < B.2.length) (hij : i ≠ j) (h0 : rStackS (B.2.getD i dS) (B.2.getD j dS) ≠ 0) : CC G MX12_doStack [.ref m, .int (iI ((i : Int))), .int (iI ((j : Int)))] h (qI 3 h) := by
  have hn := hRW.1.2.1
  have hc := hRW.1.1.2.2.2.1
  have hw := hRW.1.s hi
  have hwJ := hRW.1.s hj
  have hW := WS.get hWB.1 hi
  have hW9 := WS.get hWB.1 hj
  obtain ⟨s6, hwS⟩ := hRW.2
  have hwS : SWr g (7 + 207 * 6) s6 := hwS
  obtain ⟨hms, hro, hme, hfl, hho⟩ := id hWB
  obtain ⟨s, hs⟩ : ∃ s, s = (B.2.getD i dS) := ⟨_, rfl⟩
  obtain ⟨s9, hs9⟩ : ∃ s9, s9 = (B.2.getD j dS) := ⟨_, rfl⟩
  rw [← hs] at hw hW
  rw [← hs9] at hwJ hW9
  obtain ⟨hl1, hnz, hh4, hw0, hw9⟩ := id hW
  have hl2 := hw.len
  have hg0 := hgt_nn s.1
  have hgl := hgt_ge s.1 hnz
  obtain ⟨kl1, knz, kh4, kw0, kw9⟩ := id hW9
  have kl2 := hwJ.len
  have kg0 := hgt_nn s9.1
  rw [← hs, ← hs9] at h0
  show RR G MX12_doStack 0 [(0, .ref m), (1, .int (iI ((i : Int)))), (2, .int (iI ((j : Int))))] [] h (xm_R MX12_doStack).cells (xm_R MX12_doStack).slots (qI 3 h)
  refine r_aload_n dX12_doStack_0 0 rfl ?_
  refine r_iload_n dX12_doStack_1 1 rfl ?_
  refine p_callV (As := [.int (iI ((i : Int)))]) (b := m) (rest := []) (w := (some (.int (iI (b2 true))))) (st' := [.int (iI (b2 true))]) kv_X12_doStack_111 dX12_doStack_2 rfl rfl (Nat.le_of_ble_eq_true rfl) (Nat.le_of_ble_eq_true rfl) (x_rv hM.1 hM.2 rfl) rfl rfl (c_X12_isSheet_t hM hR hn hc hi) rfl (fun h1 e1 => ?_)
  rw [show h1 = h from e1]
  refine i_ifeqb dX12_doStack_5 (tgt := 16) (by decide) (fun c => absurd c (by decide)) (fun _ => ?_)
  refine r_aload_n dX12_doStack_8 0 rfl ?_
  refine r_iload_n dX12_doStack_9 2 rfl ?_
  refine p_callV (As := [.int (iI ((j : Int)))]) (b := m) (rest := []) (w := (some (.int (iI (b2 true))))) (st' := [.int (iI (b2 true))]) kv_X12_doStack_111 dX12_doStack_10 rfl rfl (Nat.le_of_ble_eq_true rfl) (Nat.le_of_ble_eq_true rfl) (x_rv hM.1 hM.2 rfl) rfl rfl (c_X12_isSheet_t hM hR hn hc hj) rfl (fun h2 e2 => ?_)
  rw [show h2 = h from e2]
  refine i_ifneb dX12_doStack_13 (tgt := 18) (by decide) (fun _ => ?_) (fun c => absurd c (by decide))
  refine r_iload_n dX12_doStack_18 1 rfl ?_
  refine r_iload_n dX12_doStack_19 2 rfl ?_
  refine i_icmpne dX12_doStack_20 (tgt := 25) (by decide) (by unfold in32; omega) (by unfold in32; omega) (fun _ => ?_) (fun c => absurd c (by omega))
  refine r_aload_n dX12_doStack_25 0 rfl ?_
  refine r_iload_n dX12_doStack_26 1 rfl ?_
  refine i_const (3) dX12_doStack_27 ?_
  refine p_callV (As := [.int (iI ((i : Int))), .int (iI 3)]) (b := m) (rest := []) (w := (some (.int (iI (b2 s.2.2.2.2.2.2))))) (st' := [.int (iI (b2 s.2.2.2.2.2.2))]) kv_X12_doStack_124 dX12_doStack_28 rfl rfl (Nat.le_of_ble_eq_true rfl) (Nat.le_of_ble_eq_true rfl) (x_rv hM.1 hM.2 rfl) rfl rfl (c_X12_is hM hR (i := i) (w := 3) (by omega) (by decide) hw.2.2.2.1) rfl (fun h3 e3 => ?_)
  rw [show h3 = h from e3]
  refine i_ifneb dX12_doStack_31 (tgt := 52) (by decide) (fun c31 => ?_) (fun c31 => ?_)
  · refine i_const (3) dX12_doStack_52 ?_
    refine r_ireturn rfl rfl dX12_doStack_53 ?_
    exact ⟨rfl, rfl⟩
  · refine r_aload_n dX12_doStack_34 0 rfl ?_
    refine r_iload_n dX12_doStack_35 2 rfl ?_
    refine i_const (3) dX12_doStack_36 ?_
    refine p_callV (As := [.int (iI ((j : Int))), .int (iI 3)]) (b := m) (rest := []) (w := (some (.int (iI (b2 s9.2.2.2.2.2.2))))) (st' := [.int (iI (b2 s9.2.2.2.2.2.2))]) kv_X12_doStack_124 dX12_doStack_37 rfl rfl (Nat.le_of_ble_eq_true rfl) (Nat.le_of_ble_eq_true rfl) (x_rv hM.1 hM.2 rfl) rfl rfl (c_X12_is hM hR (i := j) (w := 3) (by omega) (by decide) hwJ.2.2.2.1) rfl (fun h4 e4 => ?_)
    rw [show h4 = h from e4]
    refine i_ifneb dX12_doStack_40 (tgt := 52) (by decide) (fun c40 => ?_) (fun c40 => ?_)
    · refine i_const (3) dX12_doStack_52 ?_
      refine r_ireturn rfl rfl dX12_doStack_53 ?_
      exact ⟨rfl, rfl⟩
    · refine r_aload_n dX12_doStack_43 0 rfl ?_
      refine r_iload_n dX12_doStack_44 1 rfl ?_
      refine r_iload_n dX12_doStack_45 2 rfl ?_
      refine p_callV (As := [.int (iI ((i : Int))), .int (iI ((j : Int)))]) (b := m) (rest := []) (w := (some (.int (iI (b2 (tooM s s9)))))) (st' := [.int (iI (b2 (tooM s s9)))]) kv_X12_doStack_217 dX12_doStack_46 rfl rfl (Nat.le_of_ble_eq_true rfl) (Nat.le_of_ble_eq_true rfl) (x_rv hM.1 hM.2 rfl) rfl rfl (c_X12_areTooMuch hM hR (by omega) (by omega) hw hwJ hW hW9) rfl (fun h5 e5 => ?_)
      rw [show h5 = h from e5]
      refine i_ifeqb dX12_doStack_49 (tgt := 54) (by decide) (fun c49 => ?_) (fun c49 => ?_)
      · exact absurd (rStS.mpr ⟨c31, c40, c49⟩) h0
      · refine i_const (3) dX12_doStack_52 ?_
        refine r_ireturn rfl rfl dX12_doStack_53 ?_
        exact ⟨rfl, rfl⟩
theorem c_X12_copySheet_z {G : xG} {h : xH} {m : Nat} {a : MA} {r : MR} (hM : MO G h m a r) {g : Nat → Int32} (hR : AR G h r.1 1456 g) {i j : Nat} (hi : i ≤ 6) (hj : j ≤ 6) {z : Int} (hz : z = (j : Int)) {s : AS} (hw : SWr g (7 + 207 * i) s) : CC G MX12_copySheet [.ref m, .int (iI (i : Int)), .int (iI z)] h (fun o h' => o = .inl none ∧ ∃ g', AR G h' r.1 1456 g' ∧ SWr g' (7 + 207 * j) s ∧ EQo j g g' ∧ FRp [r.1] h h') := by
  subst hz; exact c_X12_copySheet hM hR hi hj hw
set_option maxRecDepth 20000 in
set_option maxHeartbeats 1000000 in
theorem c_X12_doStack_ok {G : xG} {h : xH} {m : Nat} {a : MA} {r : MR} (hM : MO G h m a r) {g : Nat → Int32} (hR : AR G h r.1 1456 g) {B : AB} (hRW : RWf g 0 B) (hWB : WB B) {i : Nat} (hi : i < B.2.length) {j : Nat} (hj : j < B.2.length) (hij : i ≠ j) (h0 : rStackS (B.2.getD i dS) (B.2.getD j dS) = 0) : CC G MX12_doStack [.ref m, .int (iI ((i : Int))), .int (iI ((j : Int)))] h (fun o h' => o = .inl (some (.int (iI 0))) ∧ DOk G h h' m a r (aStack B i j) ((carryS (B.2.getD i dS) (B.2.getD j dS)).1.length : Int)) := by
  have hn := hRW.1.2.1
  have hc := hRW.1.1.2.2.2.1
  have hw := hRW.1.s hi
  have hwJ := hRW.1.s hj
  have hW := WS.get hWB.1 hi
  have hW9 := WS.get hWB.1 hj
  obtain ⟨s6, hwS⟩ := hRW.2
  have hwS : SWr g (7 + 207 * 6) s6 := hwS
  obtain ⟨hms, hro, hme, hfl, hho⟩ := id hWB
  obtain ⟨s, hs⟩ : ∃ s, s = (B.2.getD i dS) := ⟨_, rfl⟩
  obtain ⟨s9, hs9⟩ : ∃ s9, s9 = (B.2.getD j dS) := ⟨_, rfl⟩
  rw [← hs] at hw hW
  rw [← hs9] at hwJ hW9
  obtain ⟨hl1, hnz, hh4, hw0, hw9⟩ := id hW
  have hl2 := hw.len
  have hg0 := hgt_nn s.1
  have hgl := hgt_ge s.1 hnz
  obtain ⟨kl1, knz, kh4, kw0, kw9⟩ := id hW9
  have kl2 := hwJ.len
  have kg0 := hgt_nn s9.1
  have hf := rStS.mp (show rStackS s s9 = 0 by rw [hs, hs9]; exact h0)
  have hsok := stack_ok hW hW9 (show rStackS s s9 = 0 by rw [hs, hs9]; exact h0)
  have hLL : ∀ mt, mt = (!s.2.2.2.2.1) → ∀ (h5 : xH) (g5 : Nat → Int32), True := fun _ _ _ _ => trivial
  rw [show aStack B i j = (B.1, (B.2.set i (carryS s s9)).eraseIdx j) by rw [hs, hs9]; rfl, ← hs, ← hs9]
  have L : ∀ mt, mt = (!s.2.2.2.2.1) → ∀ k, k ≤ s9.1.length → ∀ (h1 : xH) (g1 : Nat → Int32), MO G h1 m a (r_jz r (putA s.1 (s9.1.take k) mt).2) → AR G h1 r.1 1456 g1 → SWr g1 (7 + 207 * i) ((putA s.1 (s9.1.take k) mt).1, s.2) → SWr g1 (7 + 207 * j) s9 → SWr g1 (7 + 207 * 6) s6 → EQo i g g1 → FRp [m, r.1] h h1 → RR G MX12_doStack 77 [(0, .ref m), (1, .int (iI ((i : Int)))), (2, .int (iI ((j : Int)))), (3, .int (iI (b2 mt))), (4, .int (iI ((k : Int))))] [] h1 (xm_R MX12_doStack).cells (xm_R MX12_doStack).slots (fun o h' => o = .inl (some (.int (iI 0))) ∧ DOk G h h' m a r (B.1, (B.2.set i (carryS s s9)).eraseIdx j) ((carryS s s9).1.length : Int)) := by
    intro mt hmt
    have hroom : (putA s.1 s9.1 mt).1.length ≤ 200 := by rw [hmt]; exact hsok.1
    have put_in : ∀ k, (∀ y ∈ (putA s.1 (s9.1.take k) mt).1, y ≠ 0) ∧ (∀ q, q < (putA s.1 (s9.1.take k) mt).1.length → in32 ((putA s.1 (s9.1.take k) mt).1.getD q 0)) := fun k => by
      refine ⟨putA_nz hnz (fun y hy => knz y (List.mem_of_mem_take hy)), fun q hq => ?_⟩
      have a1 := sz_le hq
      have a2 : hgt (putA s.1 (s9.1.take k) mt).1 = hgt s.1 + hgt (s9.1.take k) := putA_hgt _ _ _
      have a4 := hgt_tk s9.1 k
      have a5 := sz_ge ((putA s.1 (s9.1.take k) mt).1.getD q 0)
      unfold in32
      omega
    refine down (fun k hk ih => ?_)
    intro h1 g1 hM1 hR1 hw1 hwJ1 hwS1 hE1 hF1
    refine r_iload dX12_doStack_77 4 rfl ?_
    refine r_aload_n dX12_doStack_79 0 rfl ?_
    refine r_iload_n dX12_doStack_80 2 rfl ?_
    refine i_bipush (6) (by decide) dX12_doStack_81 ?_
    refine p_callV (As := [.int (iI ((j : Int))), .int (iI 6)]) (b := m) (rest := [.int (iI ((k : Int)))]) (w := (some (.int (iI ((s9.1.length : Int)))))) (st' := [.int (iI ((s9.1.length : Int))), .int (iI ((k : Int)))]) kv_X12_doStack_93 dX12_doStack_83 rfl rfl (Nat.le_of_ble_eq_true rfl) (Nat.le_of_ble_eq_true rfl) (x_rv hM1.1 hM1.2 rfl) rfl rfl (c_X12_of hM1 hR1 (i := j) (w := 6) (by omega) (by decide) hwJ1.2.2.2.2.2.2.1) rfl (fun h21 e21 => ?_)
    rw [show h21 = h1 from e21]
    refine i_icmpge dX12_doStack_86 (tgt := 121) (by decide) (by unfold in32; omega) (by unfold in32; omega) (fun c86 => ?_) (fun c86 => ?_)
    · have hk9 : k = s9.1.length := by omega
      rw [hk9, take_all] at hM1 hw1
      refine r_aload_n dX12_doStack_121 0 rfl ?_
      refine r_iload_n dX12_doStack_122 1 rfl ?_
      refine i_const (5) dX12_doStack_123 ?_
      refine r_aload_n dX12_doStack_124 0 rfl ?_
      refine r_iload_n dX12_doStack_125 1 rfl ?_
      refine i_const (5) dX12_doStack_126 ?_
      refine p_callV (As := [.int (iI ((i : Int))), .int (iI 5)]) (b := m) (rest := [.int (iI 5), .int (iI ((i : Int))), .ref m]) (w := (some (.int (iI s.2.1)))) (st' := [.int (iI s.2.1), .int (iI 5), .int (iI ((i : Int))), .ref m]) kv_X12_doStack_93 dX12_doStack_127 rfl rfl (Nat.le_of_ble_eq_true rfl) (Nat.le_of_ble_eq_true rfl) (x_rv hM1.1 hM1.2 rfl) rfl rfl (c_X12_of hM1 hR1 (i := i) (w := 5) (by omega) (by decide) hw1.2.2.2.2.2.1) rfl (fun h22 e22 => ?_)
      rw [show h22 = h1 from e22]
      refine r_aload_n dX12_doStack_130 0 rfl ?_
      refine r_iload_n dX12_doStack_131 2 rfl ?_
      refine i_const (5) dX12_doStack_132 ?_
      refine p_callV (As := [.int (iI ((j : Int))), .int (iI 5)]) (b := m) (rest := [.int (iI s.2.1), .int (iI 5), .int (iI ((i : Int))), .ref m]) (w := (some (.int (iI s9.2.1)))) (st' := [.int (iI s9.2.1), .int (iI s.2.1), .int (iI 5), .int (iI ((i : Int))), .ref m]) kv_X12_doStack_93 dX12_doStack_133 rfl rfl (Nat.le_of_ble_eq_true rfl) (Nat.le_of_ble_eq_true rfl) (x_rv hM1.1 hM1.2 rfl) rfl rfl (c_X12_of hM1 hR1 (i := j) (w := 5) (by omega) (by decide) hwJ1.2.2.2.2.2.1) rfl (fun h23 e23 => ?_)
      rw [show h23 = h1 from e23]
      refine i_add dX12_doStack_136 ?_
      refine r_aload_n dX12_doStack_137 0 rfl ?_
      refine m_g_jz (v := (putA s.1 s9.1 mt).2) hM1 rfl kf_X12_104 dX12_doStack_138 ?_
      refine i_sub dX12_doStack_141 ?_
      refine p_callV (As := [.int (iI ((i : Int))), .int (iI 5), .int (iI ((s.2.1 + s9.2.1) - ((putA s.1 s9.1 mt).2)))]) (b := m) (rest := []) (w := none) (st' := []) kv_X12_doStack_90 dX12_doStack_142 rfl rfl (Nat.le_of_ble_eq_true rfl) (Nat.le_of_ble_eq_true rfl) (x_rv hM1.1 hM1.2 rfl) rfl rfl (c_X12_lay_5 hM1 hR1 (i := i) (by omega) hw1 (v := (s.2.1 + s9.2.1) - ((putA s.1 s9.1 mt).2))) rfl (fun h24 e24 => ?_)
      obtain ⟨g24, hR24, hw24, E24, F24⟩ := e24
      have hM24 := hM1.row hR1 F24
      have hF24 := hF1.tr (FRr F24)
      have hwJ1_24 := hwJ1.oth E24 (by omega)
      have hwS1_24 := hwS1.oth E24 (by omega)
      refine r_aload_n dX12_doStack_145 0 rfl ?_
      refine r_iload_n dX12_doStack_146 1 rfl ?_
      refine i_const (1) dX12_doStack_147 ?_
      refine r_aload_n dX12_doStack_148 0 rfl ?_
      refine r_iload_n dX12_doStack_149 2 rfl ?_
      refine i_const (1) dX12_doStack_150 ?_
      refine p_callV (As := [.int (iI ((j : Int))), .int (iI 1)]) (b := m) (rest := [.int (iI 1), .int (iI ((i : Int))), .ref m]) (w := (some (.int (iI (b2 s9.2.2.2.2.1))))) (st' := [.int (iI (b2 s9.2.2.2.2.1)), .int (iI 1), .int (iI ((i : Int))), .ref m]) kv_X12_doStack_93 dX12_doStack_151 rfl rfl (Nat.le_of_ble_eq_true rfl) (Nat.le_of_ble_eq_true rfl) (x_rv hM24.1 hM24.2 rfl) rfl rfl (c_X12_of hM24 hR24 (i := j) (w := 1) (by omega) (by decide) hwJ1_24.2.1) rfl (fun h25 e25 => ?_)
      rw [show h25 = h24 from e25]
      refine p_callV (As := [.int (iI ((i : Int))), .int (iI 1), .int (iI (b2 s9.2.2.2.2.1))]) (b := m) (rest := []) (w := none) (st' := []) kv_X12_doStack_90 dX12_doStack_154 rfl rfl (Nat.le_of_ble_eq_true rfl) (Nat.le_of_ble_eq_true rfl) (x_rv hM24.1 hM24.2 rfl) rfl rfl (c_X12_lay_1 hM24 hR24 (i := i) (by omega) hw24 (v := s9.2.2.2.2.1)) rfl (fun h26 e26 => ?_)
      obtain ⟨g26, hR26, hw26, E26, F26⟩ := e26
      have hM26 := hM24.row hR24 F26
      have hF26 := hF24.tr (FRr F26)
      have hwJ1_26 := hwJ1_24.oth E26 (by omega)
      have hwS1_26 := hwS1_24.oth E26 (by omega)
      have Eq26 := E24.tr E26
      refine r_aload_n dX12_doStack_157 0 rfl ?_
      refine r_iload_n dX12_doStack_158 1 rfl ?_
      refine i_const (2) dX12_doStack_159 ?_
      refine i_const (0) dX12_doStack_160 ?_
      refine p_callV (As := [.int (iI ((i : Int))), .int (iI 2), .int (iI 0)]) (b := m) (rest := []) (w := none) (st' := []) kv_X12_doStack_90 dX12_doStack_161 rfl rfl (Nat.le_of_ble_eq_true rfl) (Nat.le_of_ble_eq_true rfl) (x_rv hM26.1 hM26.2 rfl) rfl rfl (c_X12_lay_2 hM26 hR26 (i := i) (by omega) hw26 (v := false)) rfl (fun h27 e27 => ?_)
      obtain ⟨g27, hR27, hw27, E27, F27⟩ := e27
      have hM27 := hM26.row hR26 F27
      have hF27 := hF26.tr (FRr F27)
      have hwJ1_27 := hwJ1_26.oth E27 (by omega)
      have hwS1_27 := hwS1_26.oth E27 (by omega)
      have Eq27 := Eq26.tr E27
      refine r_aload_n dX12_doStack_164 0 rfl ?_
      refine r_iload_n dX12_doStack_165 1 rfl ?_
      refine i_const (0) dX12_doStack_166 ?_
      refine r_aload_n dX12_doStack_167 0 rfl ?_
      refine r_iload_n dX12_doStack_168 1 rfl ?_
      refine i_const (0) dX12_doStack_169 ?_
      refine p_callV (As := [.int (iI ((i : Int))), .int (iI 0)]) (b := m) (rest := [.int (iI 0), .int (iI ((i : Int))), .ref m]) (w := (some (.int (iI s.2.2.1)))) (st' := [.int (iI s.2.2.1), .int (iI 0), .int (iI ((i : Int))), .ref m]) kv_X12_doStack_93 dX12_doStack_170 rfl rfl (Nat.le_of_ble_eq_true rfl) (Nat.le_of_ble_eq_true rfl) (x_rv hM27.1 hM27.2 rfl) rfl rfl (c_X12_of hM27 hR27 (i := i) (w := 0) (by omega) (by decide) hw27.1) rfl (fun h28 e28 => ?_)
      rw [show h28 = h27 from e28]
      refine r_aload_n dX12_doStack_173 0 rfl ?_
      refine r_iload_n dX12_doStack_174 2 rfl ?_
      refine i_const (0) dX12_doStack_175 ?_
      refine p_callV (As := [.int (iI ((j : Int))), .int (iI 0)]) (b := m) (rest := [.int (iI s.2.2.1), .int (iI 0), .int (iI ((i : Int))), .ref m]) (w := (some (.int (iI s9.2.2.1)))) (st' := [.int (iI s9.2.2.1), .int (iI s.2.2.1), .int (iI 0), .int (iI ((i : Int))), .ref m]) kv_X12_doStack_93 dX12_doStack_176 rfl rfl (Nat.le_of_ble_eq_true rfl) (Nat.le_of_ble_eq_true rfl) (x_rv hM27.1 hM27.2 rfl) rfl rfl (c_X12_of hM27 hR27 (i := j) (w := 0) (by omega) (by decide) hwJ1_27.1) rfl (fun h29 e29 => ?_)
      rw [show h29 = h27 from e29]
      refine p_callS (As := [.int (iI s.2.2.1), .int (iI s9.2.2.1)]) (rest := [.int (iI 0), .int (iI ((i : Int))), .ref m]) (w := (some (.int (iI (max s.2.2.1 s9.2.2.1))))) (st' := [.int (iI (max s.2.2.1 s9.2.2.1)), .int (iI 0), .int (iI ((i : Int))), .ref m]) kv_X12_doStack_179 dX12_doStack_179 rfl rfl (Nat.le_of_ble_eq_true rfl) (Nat.le_of_ble_eq_true rfl) rfl rfl (c_X12_most (by unfold in32; omega) (by unfold in32; omega)) rfl (fun h30 e30 => ?_)
      rw [show h30 = h27 from e30]
      refine p_callV (As := [.int (iI ((i : Int))), .int (iI 0), .int (iI (max s.2.2.1 s9.2.2.1))]) (b := m) (rest := []) (w := none) (st' := []) kv_X12_doStack_90 dX12_doStack_182 rfl rfl (Nat.le_of_ble_eq_true rfl) (Nat.le_of_ble_eq_true rfl) (x_rv hM27.1 hM27.2 rfl) rfl rfl (c_X12_lay_0 hM27 hR27 (i := i) (by omega) hw27 (v := max s.2.2.1 s9.2.2.1)) rfl (fun h31 e31 => ?_)
      obtain ⟨g31, hR31, hw31, E31, F31⟩ := e31
      have hM31 := hM27.row hR27 F31
      have hF31 := hF27.tr (FRr F31)
      have hwJ1_31 := hwJ1_27.oth E31 (by omega)
      have hwS1_31 := hwS1_27.oth E31 (by omega)
      have Eq31 := Eq27.tr E31
      refine r_aload_n dX12_doStack_185 0 rfl ?_
      refine r_iload_n dX12_doStack_186 1 rfl ?_
      refine i_const (4) dX12_doStack_187 ?_
      refine r_aload_n dX12_doStack_188 0 rfl ?_
      refine r_iload_n dX12_doStack_189 1 rfl ?_
      refine i_const (4) dX12_doStack_190 ?_
      refine p_callV (As := [.int (iI ((i : Int))), .int (iI 4)]) (b := m) (rest := [.int (iI 4), .int (iI ((i : Int))), .ref m]) (w := (some (.int s.2.2.2.1))) (st' := [.int s.2.2.2.1, .int (iI 4), .int (iI ((i : Int))), .ref m]) kv_X12_doStack_93 dX12_doStack_191 rfl rfl (Nat.le_of_ble_eq_true rfl) (Nat.le_of_ble_eq_true rfl) (x_rv hM31.1 hM31.2 rfl) rfl rfl (c_X12_of hM31 hR31 (i := i) (w := 4) (by omega) (by decide) hw31.2.2.2.2.1) rfl (fun h32 e32 => ?_)
      rw [show h32 = h31 from e32]
      refine r_aload_n dX12_doStack_194 0 rfl ?_
      refine r_iload_n dX12_doStack_195 2 rfl ?_
      refine i_const (4) dX12_doStack_196 ?_
      refine p_callV (As := [.int (iI ((j : Int))), .int (iI 4)]) (b := m) (rest := [.int s.2.2.2.1, .int (iI 4), .int (iI ((i : Int))), .ref m]) (w := (some (.int s9.2.2.2.1))) (st' := [.int s9.2.2.2.1, .int s.2.2.2.1, .int (iI 4), .int (iI ((i : Int))), .ref m]) kv_X12_doStack_93 dX12_doStack_197 rfl rfl (Nat.le_of_ble_eq_true rfl) (Nat.le_of_ble_eq_true rfl) (x_rv hM31.1 hM31.2 rfl) rfl rfl (c_X12_of hM31 hR31 (i := j) (w := 4) (by omega) (by decide) hwJ1_31.2.2.2.2.1) rfl (fun h33 e33 => ?_)
      rw [show h33 = h31 from e33]
      refine p_callS (As := [.int s.2.2.2.1, .int s9.2.2.2.1]) (rest := [.int (iI 4), .int (iI ((i : Int))), .ref m]) (w := (some (.int (if s.2.2.2.1 < s9.2.2.2.1 then s9.2.2.2.1 else s.2.2.2.1)))) (st' := [.int (if s.2.2.2.1 < s9.2.2.2.1 then s9.2.2.2.1 else s.2.2.2.1), .int (iI 4), .int (iI ((i : Int))), .ref m]) kv_X12_doStack_179 dX12_doStack_200 rfl rfl (Nat.le_of_ble_eq_true rfl) (Nat.le_of_ble_eq_true rfl) rfl rfl (c_X12_most_raw) rfl (fun h34 e34 => ?_)
      rw [show h34 = h31 from e34]
      refine p_callV (As := [.int (iI ((i : Int))), .int (iI 4), .int (if s.2.2.2.1 < s9.2.2.2.1 then s9.2.2.2.1 else s.2.2.2.1)]) (b := m) (rest := []) (w := none) (st' := []) kv_X12_doStack_90 dX12_doStack_203 rfl rfl (Nat.le_of_ble_eq_true rfl) (Nat.le_of_ble_eq_true rfl) (x_rv hM31.1 hM31.2 rfl) rfl rfl (c_X12_lay_4 hM31 hR31 (i := i) (by omega) hw31 (v := if s.2.2.2.1 < s9.2.2.2.1 then s9.2.2.2.1 else s.2.2.2.1)) rfl (fun h35 e35 => ?_)
      obtain ⟨g35, hR35, hw35, E35, F35⟩ := e35
      have hM35 := hM31.row hR31 F35
      have hF35 := hF31.tr (FRr F35)
      have hwJ1_35 := hwJ1_31.oth E35 (by omega)
      have hwS1_35 := hwS1_31.oth E35 (by omega)
      have Eq35 := Eq31.tr E35
      refine r_aload_n dX12_doStack_206 0 rfl ?_
      refine r_aload_n dX12_doStack_207 0 rfl ?_
      refine r_iload_n dX12_doStack_208 1 rfl ?_
      refine i_bipush (6) (by decide) dX12_doStack_209 ?_
      refine p_callV (As := [.int (iI ((i : Int))), .int (iI 6)]) (b := m) (rest := [.ref m]) (w := (some (.int (iI ((((putA s.1 s9.1 mt).1).length : Int)))))) (st' := [.int (iI ((((putA s.1 s9.1 mt).1).length : Int))), .ref m]) kv_X12_doStack_93 dX12_doStack_211 rfl rfl (Nat.le_of_ble_eq_true rfl) (Nat.le_of_ble_eq_true rfl) (x_rv hM35.1 hM35.2 rfl) rfl rfl (c_X12_of hM35 hR35 (i := i) (w := 6) (by omega) (by decide) hw35.2.2.2.2.2.2.1) rfl (fun h36 e36 => ?_)
      rw [show h36 = h35 from e36]
      refine m_p_re (v := (((putA s.1 s9.1 mt).1).length : Int)) hM35 kf_X12_204 dX12_doStack_214 (fun h37 hM37 F37 => ?_)
      have hR37 := hR35.obj hM35 F37
      have hF37 := hF35.tr (FRm F37)
      refine r_iload_n dX12_doStack_217 2 rfl ?_
      refine i_const (1) dX12_doStack_218 ?_
      refine i_add dX12_doStack_219 ?_
      refine r_istore (ls' := [(0, .ref m), (1, .int (iI ((i : Int)))), (2, .int (iI ((j : Int)))), (3, .int (iI (b2 mt))), (4, .int (iI ((j : Int) + 1)))]) dX12_doStack_220 (by decide) rfl ?_
      have eb : carryS s s9 = (((putA s.1 s9.1 mt).1), ((s.2.1 + s9.2.1) - ((putA s.1 s9.1 mt).2)), (max s.2.2.1 s9.2.2.1), (if s.2.2.2.1 < s9.2.2.2.1 then s9.2.2.2.1 else s.2.2.2.1), s9.2.2.2.2.1, false, s.2.2.2.2.2.2) := by
        unfold carryS
        rw [← hmt]
        rw [show s.2.1 + (s9.2.1 - (putA s.1 s9.1 mt).2) = s.2.1 + s9.2.1 - (putA s.1 s9.1 mt).2 by omega]
      have hRA := hRW.set (i := i) hi hw35 (hE1.tr Eq35)
      rw [← eb] at hRA
      have hlx : (B.2.set i (carryS s s9)).length = B.2.length := List.length_set
      have L2 : ∀ t, t ≤ (B.2.set i (carryS s s9)).length → j + 1 ≤ t → ∀ (h2 : xH) (g2 : Nat → Int32), MO G h2 m a (r_re (r_jz r (putA s.1 s9.1 mt).2) (((putA s.1 s9.1 mt).1).length : Int)) → AR G h2 r.1 1456 g2 → (∀ q, q < 7 → g2 q = g35 q) → SHF g2 (B.2.set i (carryS s s9)) j t → SWr g2 (7 + 207 * 6) s6 → FRp [m, r.1] h h2 → RR G MX12_doStack 222 [(0, .ref m), (1, .int (iI ((i : Int)))), (2, .int (iI ((j : Int)))), (3, .int (iI (b2 mt))), (4, .int (iI ((t : Int))))] [] h2 (xm_R MX12_doStack).cells (xm_R MX12_doStack).slots (fun o h' => o = .inl (some (.int (iI 0))) ∧ DOk G h h' m a r (B.1, (B.2.set i (carryS s s9)).eraseIdx j) ((carryS s s9).1.length : Int)) := by
        refine down (fun t ht9 ih2 => ?_)
        intro hjt h2 g2 hM2 hR2 hH2 hS2 h62 hF2
        refine r_iload dX12_doStack_222 4 rfl ?_
        refine r_aload_n dX12_doStack_224 0 rfl ?_
        refine m_g_rr (v := r.1) hM2 rfl kf_X12_25 dX12_doStack_225 ?_
        refine i_const (3) dX12_doStack_228 ?_
        refine m_ld (v := iI (((B.2.set i (carryS s s9)).length : Int))) 3 rfl ((hH2 3 (by omega)).trans hRA.1.1.2.2.2.1) hR2 dX12_doStack_229 (by omega) (by decide) ?_
        refine i_icmpge dX12_doStack_230 (tgt := 249) (by decide) (by unfold in32; omega) (by unfold in32; omega) (fun c230 => ?_) (fun c230 => ?_)
        · refine r_aload_n dX12_doStack_249 0 rfl ?_
          refine m_g_rr (v := r.1) hM2 rfl kf_X12_25 dX12_doStack_250 ?_
          refine i_const (3) dX12_doStack_253 ?_
          refine r_dup2 dX12_doStack_254 rfl rfl ?_
          refine m_ld (v := iI (((B.2.set i (carryS s s9)).length : Int))) 3 rfl ((hH2 3 (by omega)).trans hRA.1.1.2.2.2.1) hR2 dX12_doStack_255 (by omega) (by decide) ?_
          refine i_const (1) dX12_doStack_256 ?_
          refine i_sub dX12_doStack_257 ?_
          refine m_st 3 rfl hR2 dX12_doStack_258 (by omega) (by decide) (fun h101 hR101 F101 => ?_)
          have hM101 := hM2.row hR2 F101
          have hF101 := hF2.tr (FRr F101)
          obtain ⟨g101, hg101⟩ : ∃ y, y = (upd g2 3 (iI (((B.2.set i (carryS s s9)).length : Int) - 1))) := ⟨_, rfl⟩
          rw [← hg101] at hR101
          rw [show t = (B.2.set i (carryS s s9)).length by omega] at hS2
          have hRW101 := hRA.er (g3 := g101) (j := j) (show j < (B.2.set i (carryS s s9)).length by omega) hH2 hS2 h62 (fun q hq => by rw [hg101]; exact upd_n hq) (by rw [hg101]; exact upd_s)
          refine i_const (0) dX12_doStack_259 ?_
          refine r_ireturn rfl rfl dX12_doStack_260 ?_
          exact ⟨rfl, _, _, hM101, ⟨⟨rfl, rfl, rfl, rfl, rfl, rfl, rfl, rfl⟩, rfl, rfl⟩, (congrArg (fun y : AS => (y.1.length : Int)) eb).symm, hR101, hRW101, hF101⟩
        · refine r_aload_n dX12_doStack_233 0 rfl ?_
          refine r_iload dX12_doStack_234 4 rfl ?_
          refine r_iload dX12_doStack_236 4 rfl ?_
          refine i_const (1) dX12_doStack_238 ?_
          refine i_sub dX12_doStack_239 ?_
          refine p_callV (As := [.int (iI ((t : Int))), .int (iI ((t : Int) - 1))]) (b := m) (rest := []) (w := none) (st' := []) kv_X12_doStack_168 dX12_doStack_240 rfl rfl (Nat.le_of_ble_eq_true rfl) (Nat.le_of_ble_eq_true rfl) (x_rv hM2.1 hM2.2 rfl) rfl rfl (c_X12_copySheet_z hM2 hR2 (i := t) (j := t - 1) (by omega) (by omega) (by omega) (hS2.src (by omega) (by omega))) rfl (fun h102 e102 => ?_)
          obtain ⟨g102, hR102, hc102, E102, F102⟩ := e102
          have hM102 := hM2.row hR2 F102
          have hF102 := hF2.tr (FRr F102)
          refine i_iinc (ls' := [(0, .ref m), (1, .int (iI ((i : Int)))), (2, .int (iI ((j : Int)))), (3, .int (iI (b2 mt))), (4, .int (iI ((t : Int) + 1)))]) (1) (v := (t : Int) + 1) dX12_doStack_243 4 rfl (by omega) (by decide) rfl ?_
          refine r_goto dX12_doStack_246 (tgt := 222) (by decide) ?_
          exact ih2 (t + 1) (by omega) (by omega) (by omega) h102 g102 hM102 hR102 (fun q hq => (E102 q (by omega)).trans (hH2 q hq)) (hS2.step (by omega) (by omega) hc102 E102) (h62.oth E102 (by omega)) hF102
      exact L2 (j + 1) (by omega) (by omega) h37 g35 hM37 hR37 (fun q hq => rfl) (fun q hq => by rw [shL_0]; exact hRA.1.s hq) hwS1_35 hF37
    · refine r_aload_n dX12_doStack_89 0 rfl ?_
      refine r_iload_n dX12_doStack_90 1 rfl ?_
      refine r_aload_n dX12_doStack_91 0 rfl ?_
      refine r_iload_n dX12_doStack_92 2 rfl ?_
      refine r_iload dX12_doStack_93 4 rfl ?_
      refine p_callV (As := [.int (iI ((j : Int))), .int (iI ((k : Int)))]) (b := m) (rest := [.int (iI ((i : Int))), .ref m]) (w := (some (.int (iI (s9.1.getD k 0))))) (st' := [.int (iI (s9.1.getD k 0)), .int (iI ((i : Int))), .ref m]) kv_X12_doStack_97 dX12_doStack_95 rfl rfl (Nat.le_of_ble_eq_true rfl) (Nat.le_of_ble_eq_true rfl) (x_rv hM1.1 hM1.2 rfl) rfl rfl (c_X12_layer_z hM1 hR1 (i := j) (k := k) (by omega) rfl hwJ1 (by omega)) rfl (fun h38 e38 => ?_)
      rw [show h38 = h1 from e38]
      refine r_iload_n dX12_doStack_98 3 rfl ?_
      refine i_ifeqb dX12_doStack_99 (tgt := 111) (by decide) (fun c99 => ?_) (fun c99 => ?_)
      · refine i_const (0) dX12_doStack_111 ?_
        have hk9 : k < s9.1.length := by omega
        have em : (mt && decide (k = 0)) = false := by rw [c99]; rfl
        have es := putA_s (acc := s.1) (xs := s9.1) (m := mt) hk9
        rw [em] at es
        have er : (putN (putA s.1 (s9.1.take k) mt).1 (s9.1.getD k 0) false).1.length ≤ 200 := by
          have z := putA_tk s.1 s9.1 mt (k + 1)
          rw [es] at z
          exact Nat.le_trans z hroom
        have hin := put_in k
        refine p_callV (As := [.int (iI ((i : Int))), .int (iI (s9.1.getD k 0)), .int (iI 0)]) (b := m) (rest := []) (w := none) (st' := []) kv_X12_doStack_171 dX12_doStack_112 rfl rfl (Nat.le_of_ble_eq_true rfl) (Nat.le_of_ble_eq_true rfl) (x_rv hM1.1 hM1.2 rfl) rfl rfl (c_X12_putLayer hM1 hR1 (i := i) (by omega) hw1 hin.1 hin.2 (x := s9.1.getD k 0) (knz _ (getD_mem (by omega))) (in32_nz kh4 _ (by omega)) (mt := false) (putN_room3 er)) rfl (fun h39 e39 => ?_)
        obtain ⟨hM39, g39, hR39, hw39, E39, X39⟩ := e39
        have hF39 := hF1.tr (X39)
        have hwJ39 := hwJ1.oth E39 (fun y => hij y)
        have hwS39 := hwS1.oth E39 (by omega)
        refine i_iinc (ls' := [(0, .ref m), (1, .int (iI ((i : Int)))), (2, .int (iI ((j : Int)))), (3, .int (iI (b2 mt))), (4, .int (iI ((k : Int) + 1)))]) (1) (v := (k : Int) + 1) dX12_doStack_115 4 rfl (by omega) (by decide) rfl ?_
        refine r_goto dX12_doStack_118 (tgt := 77) (by decide) ?_
        have q := ih (k + 1) (by omega) (by omega) h39 g39
        rw [es] at q
        exact q hM39 hR39 hw39 hwJ39 hwS39 (hE1.tr E39) hF39
      · refine r_iload dX12_doStack_102 4 rfl ?_
        refine i_ifne dX12_doStack_104 (tgt := 111) (by decide) (by unfold in32; omega) (fun c104 => ?_) (fun c104 => ?_)
        · refine i_const (0) dX12_doStack_111 ?_
          have hk9 : k < s9.1.length := by omega
          have em : (mt && decide (k = 0)) = false := by rw [decide_eq_false (by omega)]; simp
          have es := putA_s (acc := s.1) (xs := s9.1) (m := mt) hk9
          rw [em] at es
          have er : (putN (putA s.1 (s9.1.take k) mt).1 (s9.1.getD k 0) false).1.length ≤ 200 := by
            have z := putA_tk s.1 s9.1 mt (k + 1)
            rw [es] at z
            exact Nat.le_trans z hroom
          have hin := put_in k
          refine p_callV (As := [.int (iI ((i : Int))), .int (iI (s9.1.getD k 0)), .int (iI 0)]) (b := m) (rest := []) (w := none) (st' := []) kv_X12_doStack_171 dX12_doStack_112 rfl rfl (Nat.le_of_ble_eq_true rfl) (Nat.le_of_ble_eq_true rfl) (x_rv hM1.1 hM1.2 rfl) rfl rfl (c_X12_putLayer hM1 hR1 (i := i) (by omega) hw1 hin.1 hin.2 (x := s9.1.getD k 0) (knz _ (getD_mem (by omega))) (in32_nz kh4 _ (by omega)) (mt := false) (putN_room3 er)) rfl (fun h40 e40 => ?_)
          obtain ⟨hM40, g40, hR40, hw40, E40, X40⟩ := e40
          have hF40 := hF1.tr (X40)
          have hwJ40 := hwJ1.oth E40 (fun y => hij y)
          have hwS40 := hwS1.oth E40 (by omega)
          refine i_iinc (ls' := [(0, .ref m), (1, .int (iI ((i : Int)))), (2, .int (iI ((j : Int)))), (3, .int (iI (b2 mt))), (4, .int (iI ((k : Int) + 1)))]) (1) (v := (k : Int) + 1) dX12_doStack_115 4 rfl (by omega) (by decide) rfl ?_
          refine r_goto dX12_doStack_118 (tgt := 77) (by decide) ?_
          have q := ih (k + 1) (by omega) (by omega) h40 g40
          rw [es] at q
          exact q hM40 hR40 hw40 hwJ40 hwS40 (hE1.tr E40) hF40
        · refine i_const (1) dX12_doStack_107 ?_
          refine r_goto dX12_doStack_108 (tgt := 112) (by decide) ?_
          have hk9 : k < s9.1.length := by omega
          have em : (mt && decide (k = 0)) = true := by rw [c99, decide_eq_true (by omega)]; rfl
          have es := putA_s (acc := s.1) (xs := s9.1) (m := mt) hk9
          rw [em] at es
          have er : (putN (putA s.1 (s9.1.take k) mt).1 (s9.1.getD k 0) true).1.length ≤ 200 := by
            have z := putA_tk s.1 s9.1 mt (k + 1)
            rw [es] at z
            exact Nat.le_trans z hroom
          have hin := put_in k
          refine p_callV (As := [.int (iI ((i : Int))), .int (iI (s9.1.getD k 0)), .int (iI 1)]) (b := m) (rest := []) (w := none) (st' := []) kv_X12_doStack_171 dX12_doStack_112 rfl rfl (Nat.le_of_ble_eq_true rfl) (Nat.le_of_ble_eq_true rfl) (x_rv hM1.1 hM1.2 rfl) rfl rfl (c_X12_putLayer hM1 hR1 (i := i) (by omega) hw1 hin.1 hin.2 (x := s9.1.getD k 0) (knz _ (getD_mem (by omega))) (in32_nz kh4 _ (by omega)) (mt := true) (putN_room3 er)) rfl (fun h41 e41 => ?_)
          obtain ⟨hM41, g41, hR41, hw41, E41, X41⟩ := e41
          have hF41 := hF1.tr (X41)
          have hwJ41 := hwJ1.oth E41 (fun y => hij y)
          have hwS41 := hwS1.oth E41 (by omega)
          refine i_iinc (ls' := [(0, .ref m), (1, .int (iI ((i : Int)))), (2, .int (iI ((j : Int)))), (3, .int (iI (b2 mt))), (4, .int (iI ((k : Int) + 1)))]) (1) (v := (k : Int) + 1) dX12_doStack_115 4 rfl (by omega) (by decide) rfl ?_
          refine r_goto dX12_doStack_118 (tgt := 77) (by decide) ?_
          have q := ih (k + 1) (by omega) (by omega) h41 g41
          rw [es] at q
          exact q hM41 hR41 hw41 hwJ41 hwS41 (hE1.tr E41) hF41
  show RR G MX12_doStack 0 [(0, .ref m), (1, .int (iI ((i : Int)))), (2, .int (iI ((j : Int))))] [] h (xm_R MX12_doStack).cells (xm_R MX12_doStack).slots (fun o h' => o = .inl (some (.int (iI 0))) ∧ DOk G h h' m a r (B.1, (B.2.set i (carryS s s9)).eraseIdx j) ((carryS s s9).1.length : Int))
  refine r_aload_n dX12_doStack_0 0 rfl ?_
  refine r_iload_n dX12_doStack_1 1 rfl ?_
  refine p_callV (As := [.int (iI ((i : Int)))]) (b := m) (rest := []) (w := (some (.int (iI (b2 true))))) (st' := [.int (iI (b2 true))]) kv_X12_doStack_111 dX12_doStack_2 rfl rfl (Nat.le_of_ble_eq_true rfl) (Nat.le_of_ble_eq_true rfl) (x_rv hM.1 hM.2 rfl) rfl rfl (c_X12_isSheet_t hM hR hn hc hi) rfl (fun h201 e201 => ?_)
  rw [show h201 = h from e201]
  refine i_ifeqb dX12_doStack_5 (tgt := 16) (by decide) (fun c => absurd c (by decide)) (fun _ => ?_)
  refine r_aload_n dX12_doStack_8 0 rfl ?_
  refine r_iload_n dX12_doStack_9 2 rfl ?_
  refine p_callV (As := [.int (iI ((j : Int)))]) (b := m) (rest := []) (w := (some (.int (iI (b2 true))))) (st' := [.int (iI (b2 true))]) kv_X12_doStack_111 dX12_doStack_10 rfl rfl (Nat.le_of_ble_eq_true rfl) (Nat.le_of_ble_eq_true rfl) (x_rv hM.1 hM.2 rfl) rfl rfl (c_X12_isSheet_t hM hR hn hc hj) rfl (fun h202 e202 => ?_)
  rw [show h202 = h from e202]
  refine i_ifneb dX12_doStack_13 (tgt := 18) (by decide) (fun _ => ?_) (fun c => absurd c (by decide))
  refine r_iload_n dX12_doStack_18 1 rfl ?_
  refine r_iload_n dX12_doStack_19 2 rfl ?_
  refine i_icmpne dX12_doStack_20 (tgt := 25) (by decide) (by unfold in32; omega) (by unfold in32; omega) (fun _ => ?_) (fun c => absurd c (by omega))
  refine r_aload_n dX12_doStack_25 0 rfl ?_
  refine r_iload_n dX12_doStack_26 1 rfl ?_
  refine i_const (3) dX12_doStack_27 ?_
  refine p_callV (As := [.int (iI ((i : Int))), .int (iI 3)]) (b := m) (rest := []) (w := (some (.int (iI (b2 s.2.2.2.2.2.2))))) (st' := [.int (iI (b2 s.2.2.2.2.2.2))]) kv_X12_doStack_124 dX12_doStack_28 rfl rfl (Nat.le_of_ble_eq_true rfl) (Nat.le_of_ble_eq_true rfl) (x_rv hM.1 hM.2 rfl) rfl rfl (c_X12_is hM hR (i := i) (w := 3) (by omega) (by decide) hw.2.2.2.1) rfl (fun h203 e203 => ?_)
  rw [show h203 = h from e203]
  refine i_ifneb dX12_doStack_31 (tgt := 52) (by decide) (fun c => by rw [hf.1] at c; cases c) (fun _ => ?_)
  refine r_aload_n dX12_doStack_34 0 rfl ?_
  refine r_iload_n dX12_doStack_35 2 rfl ?_
  refine i_const (3) dX12_doStack_36 ?_
  refine p_callV (As := [.int (iI ((j : Int))), .int (iI 3)]) (b := m) (rest := []) (w := (some (.int (iI (b2 s9.2.2.2.2.2.2))))) (st' := [.int (iI (b2 s9.2.2.2.2.2.2))]) kv_X12_doStack_124 dX12_doStack_37 rfl rfl (Nat.le_of_ble_eq_true rfl) (Nat.le_of_ble_eq_true rfl) (x_rv hM.1 hM.2 rfl) rfl rfl (c_X12_is hM hR (i := j) (w := 3) (by omega) (by decide) hwJ.2.2.2.1) rfl (fun h204 e204 => ?_)
  rw [show h204 = h from e204]
  refine i_ifneb dX12_doStack_40 (tgt := 52) (by decide) (fun c => by rw [hf.2.1] at c; cases c) (fun _ => ?_)
  refine r_aload_n dX12_doStack_43 0 rfl ?_
  refine r_iload_n dX12_doStack_44 1 rfl ?_
  refine r_iload_n dX12_doStack_45 2 rfl ?_
  refine p_callV (As := [.int (iI ((i : Int))), .int (iI ((j : Int)))]) (b := m) (rest := []) (w := (some (.int (iI (b2 (tooM s s9)))))) (st' := [.int (iI (b2 (tooM s s9)))]) kv_X12_doStack_217 dX12_doStack_46 rfl rfl (Nat.le_of_ble_eq_true rfl) (Nat.le_of_ble_eq_true rfl) (x_rv hM.1 hM.2 rfl) rfl rfl (c_X12_areTooMuch hM hR (by omega) (by omega) hw hwJ hW hW9) rfl (fun h205 e205 => ?_)
  rw [show h205 = h from e205]
  refine i_ifeqb dX12_doStack_49 (tgt := 54) (by decide) (fun _ => ?_) (fun c => by rw [hf.2.2] at c; cases c)
  refine r_aload_n dX12_doStack_54 0 rfl ?_
  refine r_iload_n dX12_doStack_55 1 rfl ?_
  refine i_const (1) dX12_doStack_56 ?_
  refine p_callV (As := [.int (iI ((i : Int))), .int (iI 1)]) (b := m) (rest := []) (w := (some (.int (iI (b2 s.2.2.2.2.1))))) (st' := [.int (iI (b2 s.2.2.2.2.1))]) kv_X12_doStack_124 dX12_doStack_57 rfl rfl (Nat.le_of_ble_eq_true rfl) (Nat.le_of_ble_eq_true rfl) (x_rv hM.1 hM.2 rfl) rfl rfl (c_X12_is hM hR (i := i) (w := 1) (by omega) (by decide) hw.2.1) rfl (fun h206 e206 => ?_)
  rw [show h206 = h from e206]
  refine i_ifneb dX12_doStack_60 (tgt := 67) (by decide) (fun c60 => ?_) (fun c60 => ?_)
  · refine i_const (0) dX12_doStack_67 ?_
    refine r_istore_n (ls' := [(0, .ref m), (1, .int (iI ((i : Int)))), (2, .int (iI ((j : Int)))), (3, .int (iI 0))]) dX12_doStack_68 (by decide) rfl ?_
    refine r_aload_n dX12_doStack_69 0 rfl ?_
    refine i_const (0) dX12_doStack_70 ?_
    refine m_p_jz (v := 0) hM kf_X12_104 dX12_doStack_71 (fun h207 hM207 F207 => ?_)
    have hR207 := hR.obj hM F207
    have hF207 : FRp [m, r.1] h h207 := FRm F207
    refine i_const (0) dX12_doStack_74 ?_
    refine r_istore (ls' := [(0, .ref m), (1, .int (iI ((i : Int)))), (2, .int (iI ((j : Int)))), (3, .int (iI 0)), (4, .int (iI 0))]) dX12_doStack_75 (by decide) rfl ?_
    exact L false (by rw [c60]; rfl) 0 (by omega) h207 g hM207 hR207 hw hwJ hwS EQo.rf hF207
  · refine i_const (1) dX12_doStack_63 ?_
    refine r_goto dX12_doStack_64 (tgt := 68) (by decide) ?_
    refine r_istore_n (ls' := [(0, .ref m), (1, .int (iI ((i : Int)))), (2, .int (iI ((j : Int)))), (3, .int (iI 1))]) dX12_doStack_68 (by decide) rfl ?_
    refine r_aload_n dX12_doStack_69 0 rfl ?_
    refine i_const (0) dX12_doStack_70 ?_
    refine m_p_jz (v := 0) hM kf_X12_104 dX12_doStack_71 (fun h208 hM208 F208 => ?_)
    have hR208 := hR.obj hM F208
    have hF208 : FRp [m, r.1] h h208 := FRm F208
    refine i_const (0) dX12_doStack_74 ?_
    refine r_istore (ls' := [(0, .ref m), (1, .int (iI ((i : Int)))), (2, .int (iI ((j : Int)))), (3, .int (iI 1)), (4, .int (iI 0))]) dX12_doStack_75 (by decide) rfl ?_
    exact L true (by rw [c60]; rfl) 0 (by omega) h208 g hM208 hR208 hw hwJ hwS EQo.rf hF208
