/-! ===== the reference: what changes do ===== -/
def RWf (g : Nat → Int32) (o : Nat) (B : AB) : Prop := RWc g o B ∧ ∃ s6, SWr g (o + 1249) s6
def RT (r r' : MR) : Prop := RK r r' ∧ r'.2.2.1 = r.2.2.1 ∧ r'.2.2.2.2.2.2.2.2.2.2.2.2.2.2.2.2.2.2.2 = r.2.2.2.2.2.2.2.2.2.2.2.2.2.2.2.2.2.2.2
def DOk (G : xG) (h h' : xH) (m : Nat) (a : MA) (r : MR) (B' : AB) (V : Int) : Prop := ∃ (r' : MR) (g' : Nat → Int32), MO G h' m a r' ∧ RT r r' ∧ r'.2.2.2.2.1 = V ∧ AR G h' r.1 1456 g' ∧ RWf g' 0 B' ∧ FRp [m, r.1] h h'
def DOn (G : xG) (h h' : xH) (m : Nat) (a : MA) (r : MR) (B' : AB) : Prop := ∃ (r' : MR) (g' : Nat → Int32), MO G h' m a r' ∧ RT r r' ∧ AR G h' r.1 1456 g' ∧ RWf g' 0 B' ∧ FRp [m, r.1] h h'
theorem hgt_0 {l : List Int} (h : hgt l = 0) (hn : ∀ x ∈ l, x ≠ 0) : l.length = 0 := by have := hgt_ge l hn; omega
theorem c_X12_whyNotFold_v {G : xG} {h : xH} {m : Nat} {a : MA} {r : MR} (hM : MO G h m a r) {g : Nat → Int32} (hR : AR G h r.1 1456 g) {i : Nat} (hi : i < 6) {s : AS} (hw : SWr g (7 + 207 * i) s) (hW : WS s) {q : Int} (hq : 2 ≤ q ∧ q ≤ 4) {v : Int} (hv : obst s q = v) : CC G MX12_whyNotFold [.ref m, .int (iI (i : Int)), .int (iI q)] h (qI v h) := by
  subst hv; exact c_X12_whyNotFold hM hR hi hw hW hq
theorem SWr.cpy {g : Nat → Int32} {i : Nat} (hi : i < 6) {s s6 : AS} (h : SWr g (7 + 207 * i) s) (h6 : SWr g (7 + 207 * 6) s6) : SWr (va_cpy (upd g (7 + 207 * i + 6) (iI (s6.1.length : Int))) (upd g (7 + 207 * i + 6) (iI (s6.1.length : Int))) (7 + 207 * 6 + 7) (7 + 207 * i + 7) 200) (7 + 207 * i) (s6.1, s.2) := by
  obtain ⟨h0, h1, h2, h3, h4, h5, h9, h7, h8⟩ := h
  obtain ⟨_, _, _, _, _, _, k6, k7, k8⟩ := h6
  refine ⟨(if_neg (by omega)).trans ((upd_n (by omega)).trans h0), (if_neg (by omega)).trans ((upd_n (by omega)).trans h1), (if_neg (by omega)).trans ((upd_n (by omega)).trans h2), (if_neg (by omega)).trans ((upd_n (by omega)).trans h3), (if_neg (by omega)).trans ((upd_n (by omega)).trans h4), (if_neg (by omega)).trans ((upd_n (by omega)).trans h5), (if_neg (by omega)).trans upd_s, k7, fun k hk => ?_⟩
  have hk : k < s6.1.length := hk
  refine (if_pos (by omega)).trans ?_
  rw [show 7 + 207 * 6 + 7 + (7 + 207 * i + 7 + k - (7 + 207 * i + 7)) = 7 + 207 * 6 + 7 + k by omega]
  exact (upd_n (by omega)).trans (k8 k hk)
theorem EQo.cpy {g : Nat → Int32} {i : Nat} (hi : i < 6) {v : Int32} : EQo i g (va_cpy (upd g (7 + 207 * i + 6) v) (upd g (7 + 207 * i + 6) v) (7 + 207 * 6 + 7) (7 + 207 * i + 7) 200) := fun k hk => (if_neg (by omega)).trans (upd_n (by omega))
theorem RWf.scr {g g' : Nat → Int32} {B : AB} (h : RWf g 0 B) (e : EQo 6 g g') {s6 : AS} (hs : SWr g' (7 + 207 * 6) s6) : RWf g' 0 B := ⟨h.1.scr e, s6, hs⟩
theorem RWf.set {g g' : Nat → Int32} {B : AB} (h : RWf g 0 B) {i : Nat} (hi : i < B.2.length) {s' : AS} (hs : SWr g' (7 + 207 * i) s') (e : EQo i g g') : RWf g' 0 (B.1, B.2.set i s') := by
  obtain ⟨s6, h6⟩ := h.2
  have hb := h.1.2.1
  have h6 : SWr g (7 + 207 * 6) s6 := h6
  exact ⟨h.1.set hi hs e, s6, (h6.oth e (by omega) : SWr g' (7 + 207 * 6) s6)⟩
theorem RWf.hd {g g' : Nat → Int32} {B : AB} (h : RWf g 0 B) {x : Int × Int × Int × Int × Int × Int} (e : ∀ k, 7 ≤ k → g' k = g k) (h0 : g' 0 = iI x.1) (h1 : g' 1 = iI x.2.1) (h2 : g' 2 = iI x.2.2.1) (h3 : g' 3 = g 3) (h4 : g' 4 = iI x.2.2.2.1) (h5 : g' 5 = iI x.2.2.2.2.1) (h6 : g' 6 = iI x.2.2.2.2.2) : RWf g' 0 (x, B.2) := by
  obtain ⟨s6, hs6⟩ := h.2
  have hs6 : SWr g (7 + 207 * 6) s6 := hs6
  exact ⟨h.1.hd e h0 h1 h2 h3 h4 h5 h6, s6, (hs6.eq (fun k h1 h2 => e k (by omega)) : SWr g' (7 + 207 * 6) s6)⟩
set_option maxRecDepth 20000 in
set_option maxHeartbeats 1000000 in
theorem c_X12_doFold_n1 {G : xG} {h : xH} {m : Nat} {a : MA} {r : MR} (hM : MO G h m a r) {g : Nat → Int32} (hR : AR G h r.1 1456 g) {n : Nat} (hn : n ≤ 6) (hc : g 3 = iI (n : Int)) {z : Int} (hz : in32 z) (hs : ¬ (0 ≤ z ∧ z < (n : Int))) {q : Int} : CC G MX12_doFold [.ref m, .int (iI z), .int (iI q)] h (qI 1 h) := by
  show RR G MX12_doFold 0 [(0, .ref m), (1, .int (iI z)), (2, .int (iI q))] [] h (xm_R MX12_doFold).cells (xm_R MX12_doFold).slots (qI 1 h)
  refine r_aload_n dX12_doFold_0 0 rfl ?_
  refine r_iload_n dX12_doFold_1 1 rfl ?_
  refine p_callV (As := [.int (iI z)]) (b := m) (rest := []) (w := (some (.int (iI (b2 false))))) (st' := [.int (iI (b2 false))]) kv_X12_doFold_111 dX12_doFold_2 rfl rfl (Nat.le_of_ble_eq_true rfl) (Nat.le_of_ble_eq_true rfl) (x_rv hM.1 hM.2 rfl) rfl rfl (c_X12_isSheet_f hM hR hn hc hz hs) rfl (fun h1 e1 => ?_)
  rw [show h1 = h from e1]
  refine i_ifneb dX12_doFold_5 (tgt := 10) (by decide) (fun c => absurd c (by decide)) (fun _ => ?_)
  refine i_const (1) dX12_doFold_8 ?_
  refine r_ireturn rfl rfl dX12_doFold_9 ?_
  exact ⟨rfl, rfl⟩
set_option maxRecDepth 20000 in
set_option maxHeartbeats 1000000 in
theorem c_X12_doRoll_n1 {G : xG} {h : xH} {m : Nat} {a : MA} {r : MR} (hM : MO G h m a r) {g : Nat → Int32} (hR : AR G h r.1 1456 g) {n : Nat} (hn : n ≤ 6) (hc : g 3 = iI (n : Int)) {z : Int} (hz : in32 z) (hs : ¬ (0 ≤ z ∧ z < (n : Int))) {q : Int} : CC G MX12_doRoll [.ref m, .int (iI z), .int (iI q)] h (qI 1 h) := by
  show RR G MX12_doRoll 0 [(0, .ref m), (1, .int (iI z)), (2, .int (iI q))] [] h (xm_R MX12_doRoll).cells (xm_R MX12_doRoll).slots (qI 1 h)
  refine r_aload_n dX12_doRoll_0 0 rfl ?_
  refine r_iload_n dX12_doRoll_1 1 rfl ?_
  refine p_callV (As := [.int (iI z)]) (b := m) (rest := []) (w := (some (.int (iI (b2 false))))) (st' := [.int (iI (b2 false))]) kv_X12_doRoll_111 dX12_doRoll_2 rfl rfl (Nat.le_of_ble_eq_true rfl) (Nat.le_of_ble_eq_true rfl) (x_rv hM.1 hM.2 rfl) rfl rfl (c_X12_isSheet_f hM hR hn hc hz hs) rfl (fun h1 e1 => ?_)
  rw [show h1 = h from e1]
  refine i_ifneb dX12_doRoll_5 (tgt := 10) (by decide) (fun c => absurd c (by decide)) (fun _ => ?_)
  refine i_const (1) dX12_doRoll_8 ?_
  refine r_ireturn rfl rfl dX12_doRoll_9 ?_
  exact ⟨rfl, rfl⟩
set_option maxRecDepth 20000 in
set_option maxHeartbeats 1000000 in
theorem c_X12_doDust_n1 {G : xG} {h : xH} {m : Nat} {a : MA} {r : MR} (hM : MO G h m a r) {g : Nat → Int32} (hR : AR G h r.1 1456 g) {n : Nat} (hn : n ≤ 6) (hc : g 3 = iI (n : Int)) {z : Int} (hz : in32 z) (hs : ¬ (0 ≤ z ∧ z < (n : Int))) : CC G MX12_doDust [.ref m, .int (iI z)] h (qI 1 h) := by
  show RR G MX12_doDust 0 [(0, .ref m), (1, .int (iI z))] [] h (xm_R MX12_doDust).cells (xm_R MX12_doDust).slots (qI 1 h)
  refine r_aload_n dX12_doDust_0 0 rfl ?_
  refine r_iload_n dX12_doDust_1 1 rfl ?_
  refine p_callV (As := [.int (iI z)]) (b := m) (rest := []) (w := (some (.int (iI (b2 false))))) (st' := [.int (iI (b2 false))]) kv_X12_doDust_111 dX12_doDust_2 rfl rfl (Nat.le_of_ble_eq_true rfl) (Nat.le_of_ble_eq_true rfl) (x_rv hM.1 hM.2 rfl) rfl rfl (c_X12_isSheet_f hM hR hn hc hz hs) rfl (fun h1 e1 => ?_)
  rw [show h1 = h from e1]
  refine i_ifneb dX12_doDust_5 (tgt := 10) (by decide) (fun c => absurd c (by decide)) (fun _ => ?_)
  refine i_const (1) dX12_doDust_8 ?_
  refine r_ireturn rfl rfl dX12_doDust_9 ?_
  exact ⟨rfl, rfl⟩
set_option maxRecDepth 20000 in
set_option maxHeartbeats 1000000 in
theorem c_X12_doSeal_n1 {G : xG} {h : xH} {m : Nat} {a : MA} {r : MR} (hM : MO G h m a r) {g : Nat → Int32} (hR : AR G h r.1 1456 g) {n : Nat} (hn : n ≤ 6) (hc : g 3 = iI (n : Int)) {z : Int} (hz : in32 z) (hs : ¬ (0 ≤ z ∧ z < (n : Int))) : CC G MX12_doSeal [.ref m, .int (iI z)] h (qI 1 h) := by
  show RR G MX12_doSeal 0 [(0, .ref m), (1, .int (iI z))] [] h (xm_R MX12_doSeal).cells (xm_R MX12_doSeal).slots (qI 1 h)
  refine r_aload_n dX12_doSeal_0 0 rfl ?_
  refine r_iload_n dX12_doSeal_1 1 rfl ?_
  refine p_callV (As := [.int (iI z)]) (b := m) (rest := []) (w := (some (.int (iI (b2 false))))) (st' := [.int (iI (b2 false))]) kv_X12_doSeal_111 dX12_doSeal_2 rfl rfl (Nat.le_of_ble_eq_true rfl) (Nat.le_of_ble_eq_true rfl) (x_rv hM.1 hM.2 rfl) rfl rfl (c_X12_isSheet_f hM hR hn hc hz hs) rfl (fun h1 e1 => ?_)
  rw [show h1 = h from e1]
  refine i_ifneb dX12_doSeal_5 (tgt := 10) (by decide) (fun c => absurd c (by decide)) (fun _ => ?_)
  refine i_const (1) dX12_doSeal_8 ?_
  refine r_ireturn rfl rfl dX12_doSeal_9 ?_
  exact ⟨rfl, rfl⟩
set_option maxRecDepth 20000 in
set_option maxHeartbeats 1000000 in
theorem c_X12_doCool_n1 {G : xG} {h : xH} {m : Nat} {a : MA} {r : MR} (hM : MO G h m a r) {g : Nat → Int32} (hR : AR G h r.1 1456 g) {n : Nat} (hn : n ≤ 6) (hc : g 3 = iI (n : Int)) {z : Int} (hz : in32 z) (hs : ¬ (0 ≤ z ∧ z < (n : Int))) : CC G MX12_doCool [.ref m, .int (iI z)] h (qI 1 h) := by
  show RR G MX12_doCool 0 [(0, .ref m), (1, .int (iI z))] [] h (xm_R MX12_doCool).cells (xm_R MX12_doCool).slots (qI 1 h)
  refine r_aload_n dX12_doCool_0 0 rfl ?_
  refine r_iload_n dX12_doCool_1 1 rfl ?_
  refine p_callV (As := [.int (iI z)]) (b := m) (rest := []) (w := (some (.int (iI (b2 false))))) (st' := [.int (iI (b2 false))]) kv_X12_doCool_111 dX12_doCool_2 rfl rfl (Nat.le_of_ble_eq_true rfl) (Nat.le_of_ble_eq_true rfl) (x_rv hM.1 hM.2 rfl) rfl rfl (c_X12_isSheet_f hM hR hn hc hz hs) rfl (fun h1 e1 => ?_)
  rw [show h1 = h from e1]
  refine i_ifneb dX12_doCool_5 (tgt := 10) (by decide) (fun c => absurd c (by decide)) (fun _ => ?_)
  refine i_const (1) dX12_doCool_8 ?_
  refine r_ireturn rfl rfl dX12_doCool_9 ?_
  exact ⟨rfl, rfl⟩
set_option maxRecDepth 20000 in
set_option maxHeartbeats 1000000 in
theorem c_X12_doTakeOut_n1 {G : xG} {h : xH} {m : Nat} {a : MA} {r : MR} (hM : MO G h m a r) {g : Nat → Int32} (hR : AR G h r.1 1456 g) {n : Nat} (hn : n ≤ 6) (hc : g 3 = iI (n : Int)) {z : Int} (hz : in32 z) (hs : ¬ (0 ≤ z ∧ z < (n : Int))) : CC G MX12_doTakeOut [.ref m, .int (iI z)] h (qI 1 h) := by
  show RR G MX12_doTakeOut 0 [(0, .ref m), (1, .int (iI z))] [] h (xm_R MX12_doTakeOut).cells (xm_R MX12_doTakeOut).slots (qI 1 h)
  refine r_aload_n dX12_doTakeOut_0 0 rfl ?_
  refine r_iload_n dX12_doTakeOut_1 1 rfl ?_
  refine p_callV (As := [.int (iI z)]) (b := m) (rest := []) (w := (some (.int (iI (b2 false))))) (st' := [.int (iI (b2 false))]) kv_X12_doTakeOut_111 dX12_doTakeOut_2 rfl rfl (Nat.le_of_ble_eq_true rfl) (Nat.le_of_ble_eq_true rfl) (x_rv hM.1 hM.2 rfl) rfl rfl (c_X12_isSheet_f hM hR hn hc hz hs) rfl (fun h1 e1 => ?_)
  rw [show h1 = h from e1]
  refine i_ifneb dX12_doTakeOut_5 (tgt := 10) (by decide) (fun c => absurd c (by decide)) (fun _ => ?_)
  refine i_const (1) dX12_doTakeOut_8 ?_
  refine r_ireturn rfl rfl dX12_doTakeOut_9 ?_
  exact ⟨rfl, rfl⟩
set_option maxRecDepth 20000 in
set_option maxHeartbeats 1000000 in
theorem c_X12_doCut_n1 {G : xG} {h : xH} {m : Nat} {a : MA} {r : MR} (hM : MO G h m a r) {g : Nat → Int32} (hR : AR G h r.1 1456 g) {n : Nat} (hn : n ≤ 6) (hc : g 3 = iI (n : Int)) {z : Int} (hz : in32 z) (hs : ¬ (0 ≤ z ∧ z < (n : Int))) : CC G MX12_doCut [.ref m, .int (iI z)] h (qI 1 h) := by
  show RR G MX12_doCut 0 [(0, .ref m), (1, .int (iI z))] [] h (xm_R MX12_doCut).cells (xm_R MX12_doCut).slots (qI 1 h)
  refine r_aload_n dX12_doCut_0 0 rfl ?_
  refine r_iload_n dX12_doCut_1 1 rfl ?_
  refine p_callV (As := [.int (iI z)]) (b := m) (rest := []) (w := (some (.int (iI (b2 false))))) (st' := [.int (iI (b2 false))]) kv_X12_doCut_111 dX12_doCut_2 rfl rfl (Nat.le_of_ble_eq_true rfl) (Nat.le_of_ble_eq_true rfl) (x_rv hM.1 hM.2 rfl) rfl rfl (c_X12_isSheet_f hM hR hn hc hz hs) rfl (fun h1 e1 => ?_)
  rw [show h1 = h from e1]
  refine i_ifneb dX12_doCut_5 (tgt := 10) (by decide) (fun c => absurd c (by decide)) (fun _ => ?_)
  refine i_const (1) dX12_doCut_8 ?_
  refine r_ireturn rfl rfl dX12_doCut_9 ?_
  exact ⟨rfl, rfl⟩
set_option maxRecDepth 20000 in
set_option maxHeartbeats 1000000 in
theorem c_X12_doFold_n {G : xG} {h : xH} {m : Nat} {a : MA} {r : MR} (hM : MO G h m a r) {g : Nat → Int32} (hR : AR G h r.1 1456 g) {B : AB} (hRW : RWf g 0 B) (hWB : WB B) {i : Nat} (hi : i < B.2.length) {q : Int} (hq : 2 ≤ q ∧ q ≤ 4) (h0 : obst (B.2.getD i dS) q ≠ 0) : CC G MX12_doFold [.ref m, .int (iI ((i : Int))), .int (iI q)] h (qI 3 h) := by
  have hn := hRW.1.2.1
  have hc := hRW.1.1.2.2.2.1
  have hw := hRW.1.s hi
  have hW := WS.get hWB.1 hi
  obtain ⟨s6, hwS⟩ := hRW.2
  have hwS : SWr g (7 + 207 * 6) s6 := hwS
  obtain ⟨hms, hro, hme, hfl, hho⟩ := id hWB
  obtain ⟨s, hs⟩ : ∃ s, s = B.2.getD i dS := ⟨_, rfl⟩
  rw [← hs] at hw hW
  obtain ⟨hl1, hnz, hh4, hw0, hw9⟩ := id hW
  have hl2 := hw.len
  have hg0 := hgt_nn s.1
  have hgl := hgt_ge s.1 hnz
  rw [← hs] at h0
  have hob := obst_b s q
  unfold in32 at hob
  show RR G MX12_doFold 0 [(0, .ref m), (1, .int (iI ((i : Int)))), (2, .int (iI q))] [] h (xm_R MX12_doFold).cells (xm_R MX12_doFold).slots (qI 3 h)
  refine r_aload_n dX12_doFold_0 0 rfl ?_
  refine r_iload_n dX12_doFold_1 1 rfl ?_
  refine p_callV (As := [.int (iI ((i : Int)))]) (b := m) (rest := []) (w := (some (.int (iI (b2 true))))) (st' := [.int (iI (b2 true))]) kv_X12_doFold_111 dX12_doFold_2 rfl rfl (Nat.le_of_ble_eq_true rfl) (Nat.le_of_ble_eq_true rfl) (x_rv hM.1 hM.2 rfl) rfl rfl (c_X12_isSheet_t hM hR hn hc hi) rfl (fun h1 e1 => ?_)
  rw [show h1 = h from e1]
  refine i_ifneb dX12_doFold_5 (tgt := 10) (by decide) (fun _ => ?_) (fun c => absurd c (by decide))
  refine r_aload_n dX12_doFold_10 0 rfl ?_
  refine r_iload_n dX12_doFold_11 1 rfl ?_
  refine r_iload_n dX12_doFold_12 2 rfl ?_
  refine p_callV (As := [.int (iI ((i : Int))), .int (iI q)]) (b := m) (rest := []) (w := (some (.int (iI (obst s q))))) (st' := [.int (iI (obst s q))]) kv_X12_doFold_162 dX12_doFold_13 rfl rfl (Nat.le_of_ble_eq_true rfl) (Nat.le_of_ble_eq_true rfl) (x_rv hM.1 hM.2 rfl) rfl rfl (c_X12_whyNotFold hM hR (by omega) hw hW hq) rfl (fun h2 e2 => ?_)
  rw [show h2 = h from e2]
  refine i_ifeq dX12_doFold_16 (tgt := 21) (by decide) (by unfold in32; omega) (fun c => absurd c (by omega)) (fun _ => ?_)
  refine i_const (3) dX12_doFold_19 ?_
  refine r_ireturn rfl rfl dX12_doFold_20 ?_
  exact ⟨rfl, rfl⟩
set_option maxRecDepth 20000 in
set_option maxHeartbeats 1000000 in
theorem c_X12_doDust_n {G : xG} {h : xH} {m : Nat} {a : MA} {r : MR} (hM : MO G h m a r) {g : Nat → Int32} (hR : AR G h r.1 1456 g) {B : AB} (hRW : RWf g 0 B) (hWB : WB B) {i : Nat} (hi : i < B.2.length) (h0 : rDustS (B.2.getD i dS) B.1.2.2.1 ≠ 0) : CC G MX12_doDust [.ref m, .int (iI ((i : Int)))] h (qI 2 h) := by
  have hn := hRW.1.2.1
  have hc := hRW.1.1.2.2.2.1
  have hw := hRW.1.s hi
  have hW := WS.get hWB.1 hi
  obtain ⟨s6, hwS⟩ := hRW.2
  have hwS : SWr g (7 + 207 * 6) s6 := hwS
  obtain ⟨hms, hro, hme, hfl, hho⟩ := id hWB
  obtain ⟨s, hs⟩ : ∃ s, s = B.2.getD i dS := ⟨_, rfl⟩
  rw [← hs] at hw hW
  obtain ⟨hl1, hnz, hh4, hw0, hw9⟩ := id hW
  have hl2 := hw.len
  have hg0 := hgt_nn s.1
  have hgl := hgt_ge s.1 hnz
  rw [← hs] at h0
  show RR G MX12_doDust 0 [(0, .ref m), (1, .int (iI ((i : Int))))] [] h (xm_R MX12_doDust).cells (xm_R MX12_doDust).slots (qI 2 h)
  refine r_aload_n dX12_doDust_0 0 rfl ?_
  refine r_iload_n dX12_doDust_1 1 rfl ?_
  refine p_callV (As := [.int (iI ((i : Int)))]) (b := m) (rest := []) (w := (some (.int (iI (b2 true))))) (st' := [.int (iI (b2 true))]) kv_X12_doDust_111 dX12_doDust_2 rfl rfl (Nat.le_of_ble_eq_true rfl) (Nat.le_of_ble_eq_true rfl) (x_rv hM.1 hM.2 rfl) rfl rfl (c_X12_isSheet_t hM hR hn hc hi) rfl (fun h1 e1 => ?_)
  rw [show h1 = h from e1]
  refine i_ifneb dX12_doDust_5 (tgt := 10) (by decide) (fun _ => ?_) (fun c => absurd c (by decide))
  refine r_aload_n dX12_doDust_10 0 rfl ?_
  refine r_iload_n dX12_doDust_11 1 rfl ?_
  refine i_const (3) dX12_doDust_12 ?_
  refine p_callV (As := [.int (iI ((i : Int))), .int (iI 3)]) (b := m) (rest := []) (w := (some (.int (iI (b2 s.2.2.2.2.2.2))))) (st' := [.int (iI (b2 s.2.2.2.2.2.2))]) kv_X12_doDust_124 dX12_doDust_13 rfl rfl (Nat.le_of_ble_eq_true rfl) (Nat.le_of_ble_eq_true rfl) (x_rv hM.1 hM.2 rfl) rfl rfl (c_X12_is hM hR (i := i) (w := 3) (by omega) (by decide) hw.2.2.2.1) rfl (fun h2 e2 => ?_)
  rw [show h2 = h from e2]
  refine i_ifneb dX12_doDust_16 (tgt := 37) (by decide) (fun c16 => ?_) (fun c16 => ?_)
  · refine i_const (2) dX12_doDust_37 ?_
    refine r_ireturn rfl rfl dX12_doDust_38 ?_
    exact ⟨rfl, rfl⟩
  · refine r_aload_n dX12_doDust_19 0 rfl ?_
    refine r_iload_n dX12_doDust_20 1 rfl ?_
    refine i_const (1) dX12_doDust_21 ?_
    refine p_callV (As := [.int (iI ((i : Int))), .int (iI 1)]) (b := m) (rest := []) (w := (some (.int (iI (b2 s.2.2.2.2.1))))) (st' := [.int (iI (b2 s.2.2.2.2.1))]) kv_X12_doDust_124 dX12_doDust_22 rfl rfl (Nat.le_of_ble_eq_true rfl) (Nat.le_of_ble_eq_true rfl) (x_rv hM.1 hM.2 rfl) rfl rfl (c_X12_is hM hR (i := i) (w := 1) (by omega) (by decide) hw.2.1) rfl (fun h3 e3 => ?_)
    rw [show h3 = h from e3]
    refine i_ifneb dX12_doDust_25 (tgt := 37) (by decide) (fun c25 => ?_) (fun c25 => ?_)
    · refine i_const (2) dX12_doDust_37 ?_
      refine r_ireturn rfl rfl dX12_doDust_38 ?_
      exact ⟨rfl, rfl⟩
    · refine r_aload_n dX12_doDust_28 0 rfl ?_
      refine m_g_rr (v := r.1) hM rfl kf_X12_25 dX12_doDust_29 ?_
      refine i_const (2) dX12_doDust_32 ?_
      refine m_ld (v := iI B.1.2.2.1) 2 rfl hRW.1.1.2.2.1 hR dX12_doDust_33 (by omega) (by decide) ?_
      refine i_ifne dX12_doDust_34 (tgt := 39) (by decide) (by unfold in32; omega) (fun c34 => ?_) (fun c34 => ?_)
      · exact absurd (by unfold rDustS; rw [if_neg (by rw [c16]; decide), if_neg (by rw [c25]; decide), if_neg (by omega)]) h0
      · refine i_const (2) dX12_doDust_37 ?_
        refine r_ireturn rfl rfl dX12_doDust_38 ?_
        exact ⟨rfl, rfl⟩
set_option maxRecDepth 20000 in
set_option maxHeartbeats 1000000 in
theorem c_X12_doSeal_n {G : xG} {h : xH} {m : Nat} {a : MA} {r : MR} (hM : MO G h m a r) {g : Nat → Int32} (hR : AR G h r.1 1456 g) {B : AB} (hRW : RWf g 0 B) (hWB : WB B) {i : Nat} (hi : i < B.2.length) (h0 : rSealS (B.2.getD i dS) ≠ 0) : CC G MX12_doSeal [.ref m, .int (iI ((i : Int)))] h (qI 2 h) := by
  have hn := hRW.1.2.1
  have hc := hRW.1.1.2.2.2.1
  have hw := hRW.1.s hi
  have hW := WS.get hWB.1 hi
  obtain ⟨s6, hwS⟩ := hRW.2
  have hwS : SWr g (7 + 207 * 6) s6 := hwS
  obtain ⟨hms, hro, hme, hfl, hho⟩ := id hWB
  obtain ⟨s, hs⟩ : ∃ s, s = B.2.getD i dS := ⟨_, rfl⟩
  rw [← hs] at hw hW
  obtain ⟨hl1, hnz, hh4, hw0, hw9⟩ := id hW
  have hl2 := hw.len
  have hg0 := hgt_nn s.1
  have hgl := hgt_ge s.1 hnz
  rw [← hs] at h0
  show RR G MX12_doSeal 0 [(0, .ref m), (1, .int (iI ((i : Int))))] [] h (xm_R MX12_doSeal).cells (xm_R MX12_doSeal).slots (qI 2 h)
  refine r_aload_n dX12_doSeal_0 0 rfl ?_
  refine r_iload_n dX12_doSeal_1 1 rfl ?_
  refine p_callV (As := [.int (iI ((i : Int)))]) (b := m) (rest := []) (w := (some (.int (iI (b2 true))))) (st' := [.int (iI (b2 true))]) kv_X12_doSeal_111 dX12_doSeal_2 rfl rfl (Nat.le_of_ble_eq_true rfl) (Nat.le_of_ble_eq_true rfl) (x_rv hM.1 hM.2 rfl) rfl rfl (c_X12_isSheet_t hM hR hn hc hi) rfl (fun h1 e1 => ?_)
  rw [show h1 = h from e1]
  refine i_ifneb dX12_doSeal_5 (tgt := 10) (by decide) (fun _ => ?_) (fun c => absurd c (by decide))
  refine r_aload_n dX12_doSeal_10 0 rfl ?_
  refine r_iload_n dX12_doSeal_11 1 rfl ?_
  refine i_const (3) dX12_doSeal_12 ?_
  refine p_callV (As := [.int (iI ((i : Int))), .int (iI 3)]) (b := m) (rest := []) (w := (some (.int (iI (b2 s.2.2.2.2.2.2))))) (st' := [.int (iI (b2 s.2.2.2.2.2.2))]) kv_X12_doSeal_124 dX12_doSeal_13 rfl rfl (Nat.le_of_ble_eq_true rfl) (Nat.le_of_ble_eq_true rfl) (x_rv hM.1 hM.2 rfl) rfl rfl (c_X12_is hM hR (i := i) (w := 3) (by omega) (by decide) hw.2.2.2.1) rfl (fun h2 e2 => ?_)
  rw [show h2 = h from e2]
  refine i_ifneb dX12_doSeal_16 (tgt := 28) (by decide) (fun c16 => ?_) (fun c16 => ?_)
  · refine i_const (2) dX12_doSeal_28 ?_
    refine r_ireturn rfl rfl dX12_doSeal_29 ?_
    exact ⟨rfl, rfl⟩
  · refine r_aload_n dX12_doSeal_19 0 rfl ?_
    refine r_iload_n dX12_doSeal_20 1 rfl ?_
    refine i_const (2) dX12_doSeal_21 ?_
    refine p_callV (As := [.int (iI ((i : Int))), .int (iI 2)]) (b := m) (rest := []) (w := (some (.int (iI (b2 s.2.2.2.2.2.1))))) (st' := [.int (iI (b2 s.2.2.2.2.2.1))]) kv_X12_doSeal_124 dX12_doSeal_22 rfl rfl (Nat.le_of_ble_eq_true rfl) (Nat.le_of_ble_eq_true rfl) (x_rv hM.1 hM.2 rfl) rfl rfl (c_X12_is hM hR (i := i) (w := 2) (by omega) (by decide) hw.2.2.1) rfl (fun h3 e3 => ?_)
    rw [show h3 = h from e3]
    refine i_ifeqb dX12_doSeal_25 (tgt := 30) (by decide) (fun c25 => ?_) (fun c25 => ?_)
    · exact absurd (by unfold rSealS; rw [if_neg (by rw [c16]; decide), if_neg (by rw [c25]; decide)]) h0
    · refine i_const (2) dX12_doSeal_28 ?_
      refine r_ireturn rfl rfl dX12_doSeal_29 ?_
      exact ⟨rfl, rfl⟩
set_option maxRecDepth 20000 in
set_option maxHeartbeats 1000000 in
theorem c_X12_doCool_n {G : xG} {h : xH} {m : Nat} {a : MA} {r : MR} (hM : MO G h m a r) {g : Nat → Int32} (hR : AR G h r.1 1456 g) {B : AB} (hRW : RWf g 0 B) (hWB : WB B) {i : Nat} (hi : i < B.2.length) (hcb : cnt isC B.2 ≤ 3) (h0 : rCoolS (B.2.getD i dS) B.2 ≠ 0) : CC G MX12_doCool [.ref m, .int (iI ((i : Int)))] h (qI 2 h) := by
  have hn := hRW.1.2.1
  have hc := hRW.1.1.2.2.2.1
  have hw := hRW.1.s hi
  have hW := WS.get hWB.1 hi
  obtain ⟨s6, hwS⟩ := hRW.2
  have hwS : SWr g (7 + 207 * 6) s6 := hwS
  obtain ⟨hms, hro, hme, hfl, hho⟩ := id hWB
  obtain ⟨s, hs⟩ : ∃ s, s = B.2.getD i dS := ⟨_, rfl⟩
  rw [← hs] at hw hW
  obtain ⟨hl1, hnz, hh4, hw0, hw9⟩ := id hW
  have hl2 := hw.len
  have hg0 := hgt_nn s.1
  have hgl := hgt_ge s.1 hnz
  rw [← hs] at h0
  have hcn := cnt_b isC B.2
  show RR G MX12_doCool 0 [(0, .ref m), (1, .int (iI ((i : Int))))] [] h (xm_R MX12_doCool).cells (xm_R MX12_doCool).slots (qI 2 h)
  refine r_aload_n dX12_doCool_0 0 rfl ?_
  refine r_iload_n dX12_doCool_1 1 rfl ?_
  refine p_callV (As := [.int (iI ((i : Int)))]) (b := m) (rest := []) (w := (some (.int (iI (b2 true))))) (st' := [.int (iI (b2 true))]) kv_X12_doCool_111 dX12_doCool_2 rfl rfl (Nat.le_of_ble_eq_true rfl) (Nat.le_of_ble_eq_true rfl) (x_rv hM.1 hM.2 rfl) rfl rfl (c_X12_isSheet_t hM hR hn hc hi) rfl (fun h1 e1 => ?_)
  rw [show h1 = h from e1]
  refine i_ifneb dX12_doCool_5 (tgt := 10) (by decide) (fun _ => ?_) (fun c => absurd c (by decide))
  refine r_aload_n dX12_doCool_10 0 rfl ?_
  refine r_iload_n dX12_doCool_11 1 rfl ?_
  refine i_const (3) dX12_doCool_12 ?_
  refine p_callV (As := [.int (iI ((i : Int))), .int (iI 3)]) (b := m) (rest := []) (w := (some (.int (iI (b2 s.2.2.2.2.2.2))))) (st' := [.int (iI (b2 s.2.2.2.2.2.2))]) kv_X12_doCool_124 dX12_doCool_13 rfl rfl (Nat.le_of_ble_eq_true rfl) (Nat.le_of_ble_eq_true rfl) (x_rv hM.1 hM.2 rfl) rfl rfl (c_X12_is hM hR (i := i) (w := 3) (by omega) (by decide) hw.2.2.2.1) rfl (fun h2 e2 => ?_)
  rw [show h2 = h from e2]
  refine i_ifneb dX12_doCool_16 (tgt := 28) (by decide) (fun c16 => ?_) (fun c16 => ?_)
  · refine i_const (2) dX12_doCool_28 ?_
    refine r_ireturn rfl rfl dX12_doCool_29 ?_
    exact ⟨rfl, rfl⟩
  · refine r_aload_n dX12_doCool_19 0 rfl ?_
    refine i_const (3) dX12_doCool_20 ?_
    refine p_callV (As := [.int (iI 3)]) (b := m) (rest := []) (w := (some (.int (iI (cnt isC B.2))))) (st' := [.int (iI (cnt isC B.2))]) kv_X12_doCool_207 dX12_doCool_21 rfl rfl (Nat.le_of_ble_eq_true rfl) (Nat.le_of_ble_eq_true rfl) (x_rv hM.1 hM.2 rfl) rfl rfl (c_X12_countWith_isC hM hR hRW.1) rfl (fun h3 e3 => ?_)
    rw [show h3 = h from e3]
    refine i_const (3) dX12_doCool_24 ?_
    refine i_icmpne dX12_doCool_25 (tgt := 30) (by decide) (by unfold in32; omega) ⟨by decide, by decide⟩ (fun c25 => ?_) (fun c25 => ?_)
    · exact absurd (by unfold rCoolS; rw [if_neg (by rw [c16]; decide), if_neg (by omega)]) h0
    · refine i_const (2) dX12_doCool_28 ?_
      refine r_ireturn rfl rfl dX12_doCool_29 ?_
      exact ⟨rfl, rfl⟩
set_option maxRecDepth 20000 in
set_option maxHeartbeats 1000000 in
theorem c_X12_doTakeOut_n {G : xG} {h : xH} {m : Nat} {a : MA} {r : MR} (hM : MO G h m a r) {g : Nat → Int32} (hR : AR G h r.1 1456 g) {B : AB} (hRW : RWf g 0 B) (hWB : WB B) {i : Nat} (hi : i < B.2.length) (h0 : rTakeS (B.2.getD i dS) ≠ 0) : CC G MX12_doTakeOut [.ref m, .int (iI ((i : Int)))] h (qI 2 h) := by
  have hn := hRW.1.2.1
  have hc := hRW.1.1.2.2.2.1
  have hw := hRW.1.s hi
  have hW := WS.get hWB.1 hi
  obtain ⟨s6, hwS⟩ := hRW.2
  have hwS : SWr g (7 + 207 * 6) s6 := hwS
  obtain ⟨hms, hro, hme, hfl, hho⟩ := id hWB
  obtain ⟨s, hs⟩ : ∃ s, s = B.2.getD i dS := ⟨_, rfl⟩
  rw [← hs] at hw hW
  obtain ⟨hl1, hnz, hh4, hw0, hw9⟩ := id hW
  have hl2 := hw.len
  have hg0 := hgt_nn s.1
  have hgl := hgt_ge s.1 hnz
  rw [← hs] at h0
  show RR G MX12_doTakeOut 0 [(0, .ref m), (1, .int (iI ((i : Int))))] [] h (xm_R MX12_doTakeOut).cells (xm_R MX12_doTakeOut).slots (qI 2 h)
  refine r_aload_n dX12_doTakeOut_0 0 rfl ?_
  refine r_iload_n dX12_doTakeOut_1 1 rfl ?_
  refine p_callV (As := [.int (iI ((i : Int)))]) (b := m) (rest := []) (w := (some (.int (iI (b2 true))))) (st' := [.int (iI (b2 true))]) kv_X12_doTakeOut_111 dX12_doTakeOut_2 rfl rfl (Nat.le_of_ble_eq_true rfl) (Nat.le_of_ble_eq_true rfl) (x_rv hM.1 hM.2 rfl) rfl rfl (c_X12_isSheet_t hM hR hn hc hi) rfl (fun h1 e1 => ?_)
  rw [show h1 = h from e1]
  refine i_ifneb dX12_doTakeOut_5 (tgt := 10) (by decide) (fun _ => ?_) (fun c => absurd c (by decide))
  refine r_aload_n dX12_doTakeOut_10 0 rfl ?_
  refine r_iload_n dX12_doTakeOut_11 1 rfl ?_
  refine i_const (3) dX12_doTakeOut_12 ?_
  refine p_callV (As := [.int (iI ((i : Int))), .int (iI 3)]) (b := m) (rest := []) (w := (some (.int (iI (b2 s.2.2.2.2.2.2))))) (st' := [.int (iI (b2 s.2.2.2.2.2.2))]) kv_X12_doTakeOut_124 dX12_doTakeOut_13 rfl rfl (Nat.le_of_ble_eq_true rfl) (Nat.le_of_ble_eq_true rfl) (x_rv hM.1 hM.2 rfl) rfl rfl (c_X12_is hM hR (i := i) (w := 3) (by omega) (by decide) hw.2.2.2.1) rfl (fun h2 e2 => ?_)
  rw [show h2 = h from e2]
  refine i_ifneb dX12_doTakeOut_16 (tgt := 21) (by decide) (fun c16 => ?_) (fun c16 => ?_)
  · exact absurd (by unfold rTakeS; rw [if_pos c16]) h0
  · refine i_const (2) dX12_doTakeOut_19 ?_
    refine r_ireturn rfl rfl dX12_doTakeOut_20 ?_
    exact ⟨rfl, rfl⟩
set_option maxRecDepth 20000 in
set_option maxHeartbeats 1000000 in
theorem c_X12_doCut_n {G : xG} {h : xH} {m : Nat} {a : MA} {r : MR} (hM : MO G h m a r) {g : Nat → Int32} (hR : AR G h r.1 1456 g) {B : AB} (hRW : RWf g 0 B) (hWB : WB B) {i : Nat} (hi : i < B.2.length) (h0 : rCutS (B.2.getD i dS) B.2.length ≠ 0) : CC G MX12_doCut [.ref m, .int (iI ((i : Int)))] h (qI 2 h) := by
  have hn := hRW.1.2.1
  have hc := hRW.1.1.2.2.2.1
  have hw := hRW.1.s hi
  have hW := WS.get hWB.1 hi
  obtain ⟨s6, hwS⟩ := hRW.2
  have hwS : SWr g (7 + 207 * 6) s6 := hwS
  obtain ⟨hms, hro, hme, hfl, hho⟩ := id hWB
  obtain ⟨s, hs⟩ : ∃ s, s = B.2.getD i dS := ⟨_, rfl⟩
  rw [← hs] at hw hW
  obtain ⟨hl1, hnz, hh4, hw0, hw9⟩ := id hW
  have hl2 := hw.len
  have hg0 := hgt_nn s.1
  have hgl := hgt_ge s.1 hnz
  rw [← hs] at h0
  show RR G MX12_doCut 0 [(0, .ref m), (1, .int (iI ((i : Int))))] [] h (xm_R MX12_doCut).cells (xm_R MX12_doCut).slots (qI 2 h)
  refine r_aload_n dX12_doCut_0 0 rfl ?_
  refine r_iload_n dX12_doCut_1 1 rfl ?_
  refine p_callV (As := [.int (iI ((i : Int)))]) (b := m) (rest := []) (w := (some (.int (iI (b2 true))))) (st' := [.int (iI (b2 true))]) kv_X12_doCut_111 dX12_doCut_2 rfl rfl (Nat.le_of_ble_eq_true rfl) (Nat.le_of_ble_eq_true rfl) (x_rv hM.1 hM.2 rfl) rfl rfl (c_X12_isSheet_t hM hR hn hc hi) rfl (fun h1 e1 => ?_)
  rw [show h1 = h from e1]
  refine i_ifneb dX12_doCut_5 (tgt := 10) (by decide) (fun _ => ?_) (fun c => absurd c (by decide))
  refine r_aload_n dX12_doCut_10 0 rfl ?_
  refine r_iload_n dX12_doCut_11 1 rfl ?_
  refine i_const (3) dX12_doCut_12 ?_
  refine p_callV (As := [.int (iI ((i : Int))), .int (iI 3)]) (b := m) (rest := []) (w := (some (.int (iI (b2 s.2.2.2.2.2.2))))) (st' := [.int (iI (b2 s.2.2.2.2.2.2))]) kv_X12_doCut_124 dX12_doCut_13 rfl rfl (Nat.le_of_ble_eq_true rfl) (Nat.le_of_ble_eq_true rfl) (x_rv hM.1 hM.2 rfl) rfl rfl (c_X12_is hM hR (i := i) (w := 3) (by omega) (by decide) hw.2.2.2.1) rfl (fun h2 e2 => ?_)
  rw [show h2 = h from e2]
  refine i_ifneb dX12_doCut_16 (tgt := 30) (by decide) (fun c16 => ?_) (fun c16 => ?_)
  · refine i_const (2) dX12_doCut_30 ?_
    refine r_ireturn rfl rfl dX12_doCut_31 ?_
    exact ⟨rfl, rfl⟩
  · refine r_aload_n dX12_doCut_19 0 rfl ?_
    refine m_g_rr (v := r.1) hM rfl kf_X12_25 dX12_doCut_20 ?_
    refine i_const (3) dX12_doCut_23 ?_
    refine m_ld (v := iI ((B.2.length : Int))) 3 rfl hRW.1.1.2.2.2.1 hR dX12_doCut_24 (by omega) (by decide) ?_
    refine i_bipush (6) (by decide) dX12_doCut_25 ?_
    refine i_icmpne dX12_doCut_27 (tgt := 32) (by decide) (by unfold in32; omega) ⟨by decide, by decide⟩ (fun c27 => ?_) (fun c27 => ?_)
    · exact absurd (by unfold rCutS; rw [if_neg (by rw [c16]; decide), if_neg (by omega)]) h0
    · refine i_const (2) dX12_doCut_30 ?_
      refine r_ireturn rfl rfl dX12_doCut_31 ?_
      exact ⟨rfl, rfl⟩
set_option maxRecDepth 20000 in
set_option maxHeartbeats 1000000 in
theorem c_X12_doButter_n {G : xG} {h : xH} {m : Nat} {a : MA} {r : MR} (hM : MO G h m a r) {g : Nat → Int32} (hR : AR G h r.1 1456 g) {B : AB} (hRW : RWf g 0 B) (hWB : WB B) {i : Nat} (hi : i < B.2.length) {T : Int} (hT : 1 ≤ T ∧ T ≤ 400) (h0 : rButS (B.2.getD i dS) T ≠ 0) : CC G MX12_doButter [.ref m, .int (iI ((i : Int))), .int (iI T)] h (qI 3 h) := by
  have hn := hRW.1.2.1
  have hc := hRW.1.1.2.2.2.1
  have hw := hRW.1.s hi
  have hW := WS.get hWB.1 hi
  obtain ⟨s6, hwS⟩ := hRW.2
  have hwS : SWr g (7 + 207 * 6) s6 := hwS
  obtain ⟨hms, hro, hme, hfl, hho⟩ := id hWB
  obtain ⟨s, hs⟩ : ∃ s, s = B.2.getD i dS := ⟨_, rfl⟩
  rw [← hs] at hw hW
  obtain ⟨hl1, hnz, hh4, hw0, hw9⟩ := id hW
  have hl2 := hw.len
  have hg0 := hgt_nn s.1
  have hgl := hgt_ge s.1 hnz
  rw [← hs] at h0
  show RR G MX12_doButter 0 [(0, .ref m), (1, .int (iI ((i : Int)))), (2, .int (iI T))] [] h (xm_R MX12_doButter).cells (xm_R MX12_doButter).slots (qI 3 h)
  refine r_aload_n dX12_doButter_0 0 rfl ?_
  refine r_iload_n dX12_doButter_1 1 rfl ?_
  refine i_const (3) dX12_doButter_2 ?_
  refine p_callV (As := [.int (iI ((i : Int))), .int (iI 3)]) (b := m) (rest := []) (w := (some (.int (iI (b2 s.2.2.2.2.2.2))))) (st' := [.int (iI (b2 s.2.2.2.2.2.2))]) kv_X12_doButter_124 dX12_doButter_3 rfl rfl (Nat.le_of_ble_eq_true rfl) (Nat.le_of_ble_eq_true rfl) (x_rv hM.1 hM.2 rfl) rfl rfl (c_X12_is hM hR (i := i) (w := 3) (by omega) (by decide) hw.2.2.2.1) rfl (fun h1 e1 => ?_)
  rw [show h1 = h from e1]
  refine i_ifneb dX12_doButter_6 (tgt := 35) (by decide) (fun c6 => ?_) (fun c6 => ?_)
  · refine i_const (3) dX12_doButter_35 ?_
    refine r_ireturn rfl rfl dX12_doButter_36 ?_
    exact ⟨rfl, rfl⟩
  · refine r_aload_n dX12_doButter_9 0 rfl ?_
    refine r_iload_n dX12_doButter_10 1 rfl ?_
    refine i_bipush (6) (by decide) dX12_doButter_11 ?_
    refine p_callV (As := [.int (iI ((i : Int))), .int (iI 6)]) (b := m) (rest := []) (w := (some (.int (iI ((s.1.length : Int)))))) (st' := [.int (iI ((s.1.length : Int)))]) kv_X12_doButter_93 dX12_doButter_13 rfl rfl (Nat.le_of_ble_eq_true rfl) (Nat.le_of_ble_eq_true rfl) (x_rv hM.1 hM.2 rfl) rfl rfl (c_X12_of hM hR (i := i) (w := 6) (by omega) (by decide) hw.2.2.2.2.2.2.1) rfl (fun h2 e2 => ?_)
    rw [show h2 = h from e2]
    refine i_sipush (200) (by decide) dX12_doButter_16 ?_
    refine i_icmpeq dX12_doButter_19 (tgt := 35) (by decide) (by unfold in32; omega) ⟨by decide, by decide⟩ (fun c19 => ?_) (fun c19 => ?_)
    · refine i_const (3) dX12_doButter_35 ?_
      refine r_ireturn rfl rfl dX12_doButter_36 ?_
      exact ⟨rfl, rfl⟩
    · refine r_aload_n dX12_doButter_22 0 rfl ?_
      refine r_iload_n dX12_doButter_23 1 rfl ?_
      refine p_callV (As := [.int (iI ((i : Int)))]) (b := m) (rest := []) (w := (some (.int (iI (hgt s.1))))) (st' := [.int (iI (hgt s.1))]) kv_X12_doButter_136 dX12_doButter_24 rfl rfl (Nat.le_of_ble_eq_true rfl) (Nat.le_of_ble_eq_true rfl) (x_rv hM.1 hM.2 rfl) rfl rfl (c_X12_heightOf hM hR (by omega) hw hh4) rfl (fun h3 e3 => ?_)
      rw [show h3 = h from e3]
      refine r_iload_n dX12_doButter_27 2 rfl ?_
      refine i_add dX12_doButter_28 ?_
      refine i_sipush (4000) (by decide) dX12_doButter_29 ?_
      refine i_icmple dX12_doButter_32 (tgt := 37) (by decide) (by unfold in32; omega) ⟨by decide, by decide⟩ (fun c32 => ?_) (fun c32 => ?_)
      · exact absurd (by unfold rButS; rw [if_neg (by rw [c6]; decide), if_neg (by omega), if_neg (by omega)]) h0
      · refine i_const (3) dX12_doButter_35 ?_
        refine r_ireturn rfl rfl dX12_doButter_36 ?_
        exact ⟨rfl, rfl⟩
set_option maxRecDepth 20000 in
set_option maxHeartbeats 1000000 in
theorem c_X12_wouldJoin {G : xG} {h : xH} {m : Nat} {a : MA} {r : MR} (hM : MO G h m a r) {g : Nat → Int32} (hR : AR G h r.1 1456 g) {i j : Nat} (hi : i < 6) (hj : j < 6) {s s9 : AS} (hw : SWr g (7 + 207 * i) s) (hwJ : SWr g (7 + 207 * j) s9) (hW : WS s) (hW9 : WS s9) : CC G MX12_wouldJoin [.ref m, .int (iI ((i : Int))), .int (iI ((j : Int)))] h (qI (b2 (jW s s9)) h) := by
  obtain ⟨hl1, hnz, hh4, hw0, hw9⟩ := id hW
  have hl2 := hw.len
  have hg0 := hgt_nn s.1
  have hgl := hgt_ge s.1 hnz
  obtain ⟨kl1, knz, kh4, kw0, kw9⟩ := id hW9
  have kl2 := hwJ.len
  have kg0 := hgt_nn s9.1
  show RR G MX12_wouldJoin 0 [(0, .ref m), (1, .int (iI ((i : Int)))), (2, .int (iI ((j : Int))))] [] h (xm_R MX12_wouldJoin).cells (xm_R MX12_wouldJoin).slots (qI (b2 (jW s s9)) h)
  refine r_aload_n dX12_wouldJoin_0 0 rfl ?_
  refine r_iload_n dX12_wouldJoin_1 1 rfl ?_
  refine i_const (1) dX12_wouldJoin_2 ?_
  refine p_callV (As := [.int (iI ((i : Int))), .int (iI 1)]) (b := m) (rest := []) (w := (some (.int (iI (b2 s.2.2.2.2.1))))) (st' := [.int (iI (b2 s.2.2.2.2.1))]) kv_X12_wouldJoin_124 dX12_wouldJoin_3 rfl rfl (Nat.le_of_ble_eq_true rfl) (Nat.le_of_ble_eq_true rfl) (x_rv hM.1 hM.2 rfl) rfl rfl (c_X12_is hM hR (i := i) (w := 1) (by omega) (by decide) hw.2.1) rfl (fun h1 e1 => ?_)
  rw [show h1 = h from e1]
  refine i_ifneb dX12_wouldJoin_6 (tgt := 39) (by decide) (fun c6 => ?_) (fun c6 => ?_)
  · refine i_const (0) dX12_wouldJoin_39 ?_
    refine r_ireturn rfl (b2_nar false) dX12_wouldJoin_40 ?_
    have e : jW s s9 = false := by unfold jW; rw [c6]; rfl
    rw [e]
    exact ⟨rfl, rfl⟩
  · refine r_aload_n dX12_wouldJoin_9 0 rfl ?_
    refine r_iload_n dX12_wouldJoin_10 1 rfl ?_
    refine r_aload_n dX12_wouldJoin_11 0 rfl ?_
    refine r_iload_n dX12_wouldJoin_12 1 rfl ?_
    refine i_bipush (6) (by decide) dX12_wouldJoin_13 ?_
    refine p_callV (As := [.int (iI ((i : Int))), .int (iI 6)]) (b := m) (rest := [.int (iI ((i : Int))), .ref m]) (w := (some (.int (iI ((s.1.length : Int)))))) (st' := [.int (iI ((s.1.length : Int))), .int (iI ((i : Int))), .ref m]) kv_X12_wouldJoin_93 dX12_wouldJoin_15 rfl rfl (Nat.le_of_ble_eq_true rfl) (Nat.le_of_ble_eq_true rfl) (x_rv hM.1 hM.2 rfl) rfl rfl (c_X12_of hM hR (i := i) (w := 6) (by omega) (by decide) hw.2.2.2.2.2.2.1) rfl (fun h2 e2 => ?_)
    rw [show h2 = h from e2]
    refine i_const (1) dX12_wouldJoin_18 ?_
    refine i_sub dX12_wouldJoin_19 ?_
    refine p_callV (As := [.int (iI ((i : Int))), .int (iI ((s.1.length : Int) - 1))]) (b := m) (rest := []) (w := (some (.int (iI (s.1.getD (s.1.length - 1) 0))))) (st' := [.int (iI (s.1.getD (s.1.length - 1) 0))]) kv_X12_wouldJoin_97 dX12_wouldJoin_20 rfl rfl (Nat.le_of_ble_eq_true rfl) (Nat.le_of_ble_eq_true rfl) (x_rv hM.1 hM.2 rfl) rfl rfl (c_X12_layer_z hM hR (i := i) (k := (s.1.length - 1)) (by omega) (by omega) hw (by omega)) rfl (fun h3 e3 => ?_)
    rw [show h3 = h from e3]
    refine r_aload_n dX12_wouldJoin_23 0 rfl ?_
    refine r_iload_n dX12_wouldJoin_24 2 rfl ?_
    refine i_const (0) dX12_wouldJoin_25 ?_
    refine p_callV (As := [.int (iI ((j : Int))), .int (iI 0)]) (b := m) (rest := [.int (iI (s.1.getD (s.1.length - 1) 0))]) (w := (some (.int (iI (s9.1.getD 0 0))))) (st' := [.int (iI (s9.1.getD 0 0)), .int (iI (s.1.getD (s.1.length - 1) 0))]) kv_X12_wouldJoin_97 dX12_wouldJoin_26 rfl rfl (Nat.le_of_ble_eq_true rfl) (Nat.le_of_ble_eq_true rfl) (x_rv hM.1 hM.2 rfl) rfl rfl (c_X12_layer_z hM hR (i := j) (k := 0) (by omega) rfl hwJ (by omega)) rfl (fun h4 e4 => ?_)
    rw [show h4 = h from e4]
    refine p_callS (As := [.int (iI (s.1.getD (s.1.length - 1) 0)), .int (iI (s9.1.getD 0 0))]) (rest := []) (w := (some (.int (iI (b2 (alk (s.1.getD (s.1.length - 1) 0) (s9.1.getD 0 0))))))) (st' := [.int (iI (b2 (alk (s.1.getD (s.1.length - 1) 0) (s9.1.getD 0 0))))]) kv_X12_wouldJoin_100 dX12_wouldJoin_29 rfl rfl (Nat.le_of_ble_eq_true rfl) (Nat.le_of_ble_eq_true rfl) rfl rfl (c_X12_areAlike (in32_lay hh4 (by omega)) (in32_lay kh4 (by omega))) rfl (fun h5 e5 => ?_)
    rw [show h5 = h from e5]
    refine i_ifeqb dX12_wouldJoin_32 (tgt := 39) (by decide) (fun c32 => ?_) (fun c32 => ?_)
    · refine i_const (0) dX12_wouldJoin_39 ?_
      refine r_ireturn rfl (b2_nar false) dX12_wouldJoin_40 ?_
      have e : jW s s9 = false := by rw [alk_isB (hnz _ (getD_mem (l := s.1) (i := s.1.length - 1) (by omega))) (knz _ (getD_mem (l := s9.1) (i := 0) (by omega)))] at c32; unfold jW joinsL lastL; rw [c6, c32, decide_eq_true (by omega), decide_eq_true (by omega)]; rfl
      rw [e]
      exact ⟨rfl, rfl⟩
    · refine i_const (1) dX12_wouldJoin_35 ?_
      refine r_goto dX12_wouldJoin_36 (tgt := 40) (by decide) ?_
      refine r_ireturn rfl (b2_nar true) dX12_wouldJoin_40 ?_
      have e : jW s s9 = true := by rw [alk_isB (hnz _ (getD_mem (l := s.1) (i := s.1.length - 1) (by omega))) (knz _ (getD_mem (l := s9.1) (i := 0) (by omega)))] at c32; unfold jW joinsL lastL; rw [c6, c32, decide_eq_true (by omega), decide_eq_true (by omega)]; rfl
      rw [e]
      exact ⟨rfl, rfl⟩
def tooM (s s9 : AS) : Bool := decide (200 < (s.1.length : Int) + (s9.1.length : Int) - (if jW s s9 then 1 else 0)) || decide (4000 < hgt s.1 + hgt s9.1)
set_option maxRecDepth 20000 in
set_option maxHeartbeats 1000000 in
theorem c_X12_areTooMuch {G : xG} {h : xH} {m : Nat} {a : MA} {r : MR} (hM : MO G h m a r) {g : Nat → Int32} (hR : AR G h r.1 1456 g) {i j : Nat} (hi : i < 6) (hj : j < 6) {s s9 : AS} (hw : SWr g (7 + 207 * i) s) (hwJ : SWr g (7 + 207 * j) s9) (hW : WS s) (hW9 : WS s9) : CC G MX12_areTooMuch [.ref m, .int (iI ((i : Int))), .int (iI ((j : Int)))] h (qI (b2 (tooM s s9)) h) := by
  obtain ⟨hl1, hnz, hh4, hw0, hw9⟩ := id hW
  have hl2 := hw.len
  have hg0 := hgt_nn s.1
  have hgl := hgt_ge s.1 hnz
  obtain ⟨kl1, knz, kh4, kw0, kw9⟩ := id hW9
  have kl2 := hwJ.len
  have kg0 := hgt_nn s9.1
  show RR G MX12_areTooMuch 0 [(0, .ref m), (1, .int (iI ((i : Int)))), (2, .int (iI ((j : Int))))] [] h (xm_R MX12_areTooMuch).cells (xm_R MX12_areTooMuch).slots (qI (b2 (tooM s s9)) h)
  refine r_aload_n dX12_areTooMuch_0 0 rfl ?_
  refine r_iload_n dX12_areTooMuch_1 1 rfl ?_
  refine i_bipush (6) (by decide) dX12_areTooMuch_2 ?_
  refine p_callV (As := [.int (iI ((i : Int))), .int (iI 6)]) (b := m) (rest := []) (w := (some (.int (iI ((s.1.length : Int)))))) (st' := [.int (iI ((s.1.length : Int)))]) kv_X12_areTooMuch_93 dX12_areTooMuch_4 rfl rfl (Nat.le_of_ble_eq_true rfl) (Nat.le_of_ble_eq_true rfl) (x_rv hM.1 hM.2 rfl) rfl rfl (c_X12_of hM hR (i := i) (w := 6) (by omega) (by decide) hw.2.2.2.2.2.2.1) rfl (fun h1 e1 => ?_)
  rw [show h1 = h from e1]
  refine r_aload_n dX12_areTooMuch_7 0 rfl ?_
  refine r_iload_n dX12_areTooMuch_8 2 rfl ?_
  refine i_bipush (6) (by decide) dX12_areTooMuch_9 ?_
  refine p_callV (As := [.int (iI ((j : Int))), .int (iI 6)]) (b := m) (rest := [.int (iI ((s.1.length : Int)))]) (w := (some (.int (iI ((s9.1.length : Int)))))) (st' := [.int (iI ((s9.1.length : Int))), .int (iI ((s.1.length : Int)))]) kv_X12_areTooMuch_93 dX12_areTooMuch_11 rfl rfl (Nat.le_of_ble_eq_true rfl) (Nat.le_of_ble_eq_true rfl) (x_rv hM.1 hM.2 rfl) rfl rfl (c_X12_of hM hR (i := j) (w := 6) (by omega) (by decide) hwJ.2.2.2.2.2.2.1) rfl (fun h2 e2 => ?_)
  rw [show h2 = h from e2]
  refine i_add dX12_areTooMuch_14 ?_
  refine r_aload_n dX12_areTooMuch_15 0 rfl ?_
  refine r_iload_n dX12_areTooMuch_16 1 rfl ?_
  refine r_iload_n dX12_areTooMuch_17 2 rfl ?_
  refine p_callV (As := [.int (iI ((i : Int))), .int (iI ((j : Int)))]) (b := m) (rest := [.int (iI ((s.1.length : Int) + (s9.1.length : Int)))]) (w := (some (.int (iI (b2 (jW s s9)))))) (st' := [.int (iI (b2 (jW s s9))), .int (iI ((s.1.length : Int) + (s9.1.length : Int)))]) kv_X12_areTooMuch_214 dX12_areTooMuch_18 rfl rfl (Nat.le_of_ble_eq_true rfl) (Nat.le_of_ble_eq_true rfl) (x_rv hM.1 hM.2 rfl) rfl rfl (c_X12_wouldJoin hM hR hi hj hw hwJ hW hW9) rfl (fun h3 e3 => ?_)
  rw [show h3 = h from e3]
  refine i_ifeqb dX12_areTooMuch_21 (tgt := 28) (by decide) (fun c21 => ?_) (fun c21 => ?_)
  · refine i_const (0) dX12_areTooMuch_28 ?_
    refine i_sub dX12_areTooMuch_29 ?_
    refine r_istore_n (ls' := [(0, .ref m), (1, .int (iI ((i : Int)))), (2, .int (iI ((j : Int)))), (3, .int (iI (((s.1.length : Int) + (s9.1.length : Int)) - 0)))]) dX12_areTooMuch_30 (by decide) rfl ?_
    refine r_iload_n dX12_areTooMuch_31 3 rfl ?_
    refine i_sipush (200) (by decide) dX12_areTooMuch_32 ?_
    refine i_icmpgt dX12_areTooMuch_35 (tgt := 55) (by decide) (by unfold in32; omega) ⟨by decide, by decide⟩ (fun c35 => ?_) (fun c35 => ?_)
    · refine i_const (1) dX12_areTooMuch_55 ?_
      refine r_goto dX12_areTooMuch_56 (tgt := 60) (by decide) ?_
      refine r_ireturn rfl (b2_nar true) dX12_areTooMuch_60 ?_
      have e : tooM s s9 = true := by unfold tooM; rw [show (if jW s s9 then (1 : Int) else 0) = 0 by rw [c21]; rfl]; rw [decide_eq_true (by omega)]; rfl
      rw [e]
      exact ⟨rfl, rfl⟩
    · refine r_aload_n dX12_areTooMuch_38 0 rfl ?_
      refine r_iload_n dX12_areTooMuch_39 1 rfl ?_
      refine p_callV (As := [.int (iI ((i : Int)))]) (b := m) (rest := []) (w := (some (.int (iI (hgt s.1))))) (st' := [.int (iI (hgt s.1))]) kv_X12_areTooMuch_136 dX12_areTooMuch_40 rfl rfl (Nat.le_of_ble_eq_true rfl) (Nat.le_of_ble_eq_true rfl) (x_rv hM.1 hM.2 rfl) rfl rfl (c_X12_heightOf hM hR (by omega) hw hh4) rfl (fun h4 e4 => ?_)
      rw [show h4 = h from e4]
      refine r_aload_n dX12_areTooMuch_43 0 rfl ?_
      refine r_iload_n dX12_areTooMuch_44 2 rfl ?_
      refine p_callV (As := [.int (iI ((j : Int)))]) (b := m) (rest := [.int (iI (hgt s.1))]) (w := (some (.int (iI (hgt s9.1))))) (st' := [.int (iI (hgt s9.1)), .int (iI (hgt s.1))]) kv_X12_areTooMuch_136 dX12_areTooMuch_45 rfl rfl (Nat.le_of_ble_eq_true rfl) (Nat.le_of_ble_eq_true rfl) (x_rv hM.1 hM.2 rfl) rfl rfl (c_X12_heightOf hM hR (by omega) hwJ kh4) rfl (fun h5 e5 => ?_)
      rw [show h5 = h from e5]
      refine i_add dX12_areTooMuch_48 ?_
      refine i_sipush (4000) (by decide) dX12_areTooMuch_49 ?_
      refine i_icmple dX12_areTooMuch_52 (tgt := 59) (by decide) (by unfold in32; omega) ⟨by decide, by decide⟩ (fun c52 => ?_) (fun c52 => ?_)
      · refine i_const (0) dX12_areTooMuch_59 ?_
        refine r_ireturn rfl (b2_nar false) dX12_areTooMuch_60 ?_
        have e : tooM s s9 = false := by unfold tooM; rw [show (if jW s s9 then (1 : Int) else 0) = 0 by rw [c21]; rfl]; rw [decide_eq_false (show ¬ 4000 < hgt s.1 + hgt s9.1 by omega), decide_eq_false (by omega)]; rfl
        rw [e]
        exact ⟨rfl, rfl⟩
      · refine i_const (1) dX12_areTooMuch_55 ?_
        refine r_goto dX12_areTooMuch_56 (tgt := 60) (by decide) ?_
        refine r_ireturn rfl (b2_nar true) dX12_areTooMuch_60 ?_
        have e : tooM s s9 = true := by unfold tooM; rw [show (if jW s s9 then (1 : Int) else 0) = 0 by rw [c21]; rfl]; rw [decide_eq_true (show 4000 < hgt s.1 + hgt s9.1 by omega), Bool.or_true]
        rw [e]
        exact ⟨rfl, rfl⟩
  · refine i_const (1) dX12_areTooMuch_24 ?_
    refine r_goto dX12_areTooMuch_25 (tgt := 29) (by decide) ?_
    refine i_sub dX12_areTooMuch_29 ?_
    refine r_istore_n (ls' := [(0, .ref m), (1, .int (iI ((i : Int)))), (2, .int (iI ((j : Int)))), (3, .int (iI (((s.1.length : Int) + (s9.1.length : Int)) - 1)))]) dX12_areTooMuch_30 (by decide) rfl ?_
    refine r_iload_n dX12_areTooMuch_31 3 rfl ?_
    refine i_sipush (200) (by decide) dX12_areTooMuch_32 ?_
    refine i_icmpgt dX12_areTooMuch_35 (tgt := 55) (by decide) (by unfold in32; omega) ⟨by decide, by decide⟩ (fun c35 => ?_) (fun c35 => ?_)
    · refine i_const (1) dX12_areTooMuch_55 ?_
      refine r_goto dX12_areTooMuch_56 (tgt := 60) (by decide) ?_
      refine r_ireturn rfl (b2_nar true) dX12_areTooMuch_60 ?_
      have e : tooM s s9 = true := by unfold tooM; rw [show (if jW s s9 then (1 : Int) else 0) = 1 by rw [c21]; rfl]; rw [decide_eq_true (by omega)]; rfl
      rw [e]
      exact ⟨rfl, rfl⟩
    · refine r_aload_n dX12_areTooMuch_38 0 rfl ?_
      refine r_iload_n dX12_areTooMuch_39 1 rfl ?_
      refine p_callV (As := [.int (iI ((i : Int)))]) (b := m) (rest := []) (w := (some (.int (iI (hgt s.1))))) (st' := [.int (iI (hgt s.1))]) kv_X12_areTooMuch_136 dX12_areTooMuch_40 rfl rfl (Nat.le_of_ble_eq_true rfl) (Nat.le_of_ble_eq_true rfl) (x_rv hM.1 hM.2 rfl) rfl rfl (c_X12_heightOf hM hR (by omega) hw hh4) rfl (fun h6 e6 => ?_)
      rw [show h6 = h from e6]
      refine r_aload_n dX12_areTooMuch_43 0 rfl ?_
      refine r_iload_n dX12_areTooMuch_44 2 rfl ?_
      refine p_callV (As := [.int (iI ((j : Int)))]) (b := m) (rest := [.int (iI (hgt s.1))]) (w := (some (.int (iI (hgt s9.1))))) (st' := [.int (iI (hgt s9.1)), .int (iI (hgt s.1))]) kv_X12_areTooMuch_136 dX12_areTooMuch_45 rfl rfl (Nat.le_of_ble_eq_true rfl) (Nat.le_of_ble_eq_true rfl) (x_rv hM.1 hM.2 rfl) rfl rfl (c_X12_heightOf hM hR (by omega) hwJ kh4) rfl (fun h7 e7 => ?_)
      rw [show h7 = h from e7]
      refine i_add dX12_areTooMuch_48 ?_
      refine i_sipush (4000) (by decide) dX12_areTooMuch_49 ?_
      refine i_icmple dX12_areTooMuch_52 (tgt := 59) (by decide) (by unfold in32; omega) ⟨by decide, by decide⟩ (fun c52 => ?_) (fun c52 => ?_)
      · refine i_const (0) dX12_areTooMuch_59 ?_
        refine r_ireturn rfl (b2_nar false) dX12_areTooMuch_60 ?_
        have e : tooM s s9 = false := by unfold tooM; rw [show (if jW s s9 then (1 : Int) else 0) = 1 by rw [c21]; rfl]; rw [decide_eq_false (show ¬ 4000 < hgt s.1 + hgt s9.1 by omega), decide_eq_false (by omega)]; rfl
        rw [e]
        exact ⟨rfl, rfl⟩
      · refine i_const (1) dX12_areTooMuch_55 ?_
        refine r_goto dX12_areTooMuch_56 (tgt := 60) (by decide) ?_
        refine r_ireturn rfl (b2_nar true) dX12_areTooMuch_60 ?_
        have e : tooM s s9 = true := by unfold tooM; rw [show (if jW s s9 then (1 : Int) else 0) = 1 by rw [c21]; rfl]; rw [decide_eq_true (show 4000 < hgt s.1 + hgt s9.1 by omega), Bool.or_true]
        rw [e]
        exact ⟨rfl, rfl⟩
