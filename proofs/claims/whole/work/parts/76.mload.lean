/-! ===== the reference: loading ===== -/
theorem st_li (r : MR) (n : Int) : (r_nd (r_er (r_nx (r_li r n) 0) 0) 0).2.2.2.2.2.2.2.2.2.2.2.1 = n := rfl
theorem st_nx (r : MR) (n : Int) : (r_nd (r_er (r_nx (r_li r n) 0) 0) 0).2.2.2.2.2.2.2.2.2.2.2.2.1 = ((0 : Nat) : Int) := rfl
theorem st_ts (r : MR) (T : List Int) {p : Nat} (hp : p ≤ T.length) : TS (scR (r_nd (r_er (r_nx (r_li r (T.length : Int)) 0) 0) 0) T p) T p 0 0 := ⟨rfl, hp, rfl, rfl, rfl, rfl, fun z => absurd rfl z⟩
theorem rt_li (r : MR) (v : Int) : RT r (r_li r v) := ⟨⟨rfl, rfl, rfl, rfl, rfl, rfl, rfl, rfl⟩, rfl, rfl⟩
theorem rt_nx (r : MR) (v : Int) : RT r (r_nx r v) := ⟨⟨rfl, rfl, rfl, rfl, rfl, rfl, rfl, rfl⟩, rfl, rfl⟩
theorem rt_er (r : MR) (v : Int) : RT r (r_er r v) := ⟨⟨rfl, rfl, rfl, rfl, rfl, rfl, rfl, rfl⟩, rfl, rfl⟩
theorem rt_nd (r : MR) (v : Int) : RT r (r_nd r v) := ⟨⟨rfl, rfl, rfl, rfl, rfl, rfl, rfl, rfl⟩, rfl, rfl⟩
theorem rt_bg (r : MR) (v : Int) : RT r (r_bg r v) := ⟨⟨rfl, rfl, rfl, rfl, rfl, rfl, rfl, rfl⟩, rfl, rfl⟩
theorem rt_tk (r : MR) (v : Int) : RT r (r_tk r v) := ⟨⟨rfl, rfl, rfl, rfl, rfl, rfl, rfl, rfl⟩, rfl, rfl⟩
theorem st_rt (r : MR) (T : List Int) (p : Nat) : RT r (scR (r_nd (r_er (r_nx (r_li r (T.length : Int)) 0) 0) 0) T p) := (rt_li r _).tr ((rt_nx _ _).tr ((rt_er _ _).tr ((rt_nd _ _).tr ((rt_nx _ _).tr ((rt_bg _ _).tr (rt_tk _ _))))))
set_option maxRecDepth 20000 in
set_option maxHeartbeats 1000000 in
theorem c_X12_isLength {G : xG} {h : xH} {m : Nat} {a : MA} {r : MR} (hM : MO G h m a r) {n9 : Nat} (hn9 : n9 ≤ 500) (hbl : r.2.2.2.2.2.2.2.2.2.2.1 = (n9 : Int)) {z : Int} (hz : in32 z) {v : Bool} (hv : inR z 0 (n9 : Int) = v) : CC G MX12_isLength [.ref m, .int (iI z)] h (qI (b2 v) h) := by
  show RR G MX12_isLength 0 [(0, .ref m), (1, .int (iI z))] [] h (xm_R MX12_isLength).cells (xm_R MX12_isLength).slots (qI (b2 v) h)
  refine r_iload_n dX12_isLength_0 1 rfl ?_
  refine i_const (0) dX12_isLength_1 ?_
  refine r_aload_n dX12_isLength_2 0 rfl ?_
  refine m_g_bl (v := (n9 : Int)) hM hbl kf_X12_279 dX12_isLength_3 ?_
  refine p_callS (As := [.int (iI z), .int (iI 0), .int (iI ((n9 : Int)))]) (rest := []) (w := (some (.int (iI (b2 v))))) (st' := [.int (iI (b2 v))]) kv_X12_isLength_107 dX12_isLength_6 rfl rfl (Nat.le_of_ble_eq_true rfl) (Nat.le_of_ble_eq_true rfl) rfl rfl (c_X12_inRange_b hz ⟨by decide, by decide⟩ (by unfold in32; omega) hv) rfl (fun h1 e1 => ?_)
  rw [show h1 = h from e1]
  refine r_ireturn rfl (b2_nar _) dX12_isLength_9 ?_
  exact ⟨rfl, rfl⟩
set_option maxRecDepth 20000 in
set_option maxHeartbeats 1000000 in
theorem c_X12_startText {G : xG} {h : xH} {m : Nat} {a : MA} {r : MR} (hM : MO G h m a r) {T : List Int} {gi : Nat → Int32} (hA : AR G h a.2.2.2.2.2.2.1 500 gi) (hl5 : T.length ≤ 500) (hg : ∀ k, k < T.length → gi k = iI (T.getD k 0)) (hb : BYT T) : CC G MX12_startText [.ref m, .int (iI (T.length : Int))] h (fun o9 h' => o9 = .inl none ∧ TP G h h' m a r T 0 0 0) := by
  show RR G MX12_startText 0 [(0, .ref m), (1, .int (iI ((T.length : Int))))] [] h (xm_R MX12_startText).cells (xm_R MX12_startText).slots (fun o9 h' => o9 = .inl none ∧ TP G h h' m a r T 0 0 0)
  refine r_aload_n dX12_startText_0 0 rfl ?_
  refine r_iload_n dX12_startText_1 1 rfl ?_
  refine m_p_li (v := (T.length : Int)) hM kf_X12_282 dX12_startText_2 (fun h1 hM1 F1 => ?_)
  have hA_1 := hA.obj hM F1
  refine r_aload_n dX12_startText_5 0 rfl ?_
  refine i_const (0) dX12_startText_6 ?_
  refine m_p_nx (v := 0) hM1 kf_X12_288 dX12_startText_7 (fun h2 hM2 F2 => ?_)
  have hA_2 := hA_1.obj hM1 F2
  refine r_aload_n dX12_startText_10 0 rfl ?_
  refine i_const (0) dX12_startText_11 ?_
  refine m_p_er (v := 0) hM2 kf_X12_303 dX12_startText_12 (fun h3 hM3 F3 => ?_)
  have hA_3 := hA_2.obj hM2 F3
  refine r_aload_n dX12_startText_15 0 rfl ?_
  refine i_const (0) dX12_startText_16 ?_
  refine m_p_nd (v := 0) hM3 kf_X12_306 dX12_startText_17 (fun h4 hM4 F4 => ?_)
  have hA_4 := hA_3.obj hM3 F4
  refine r_aload_n dX12_startText_20 0 rfl ?_
  refine p_callV (As := []) (b := m) (rest := []) (w := none) (st' := []) kv_X12_startText_309 dX12_startText_21 rfl rfl (Nat.le_of_ble_eq_true rfl) (Nat.le_of_ble_eq_true rfl) (x_rv hM4.1 hM4.2 rfl) rfl rfl (c_X12_scan hM4 hA_4 hl5 hg hb (st_li _ _) (p := 0) (Nat.zero_le _) (st_nx _ _)) rfl (fun h5 e5 => ?_)
  obtain ⟨hM5, F5⟩ := e5
  refine r_return rfl dX12_startText_24 ?_
  exact ⟨rfl, _, hM5, st_rt _ _ _, st_ts _ _ (Nat.zero_le _), ((((F1.tr F2).tr F3).tr F4).tr F5)⟩
set_option maxRecDepth 20000 in
set_option maxHeartbeats 1000000 in
theorem c_X12_finish_k {G : xG} {h : xH} {m : Nat} {a : MA} {r : MR} (hM : MO G h m a r) {T : List Int} {p : Nat} {o : Int} (hT : TS r T p 0 o) : CC G MX12_finish [.ref m] h (fun o9 h' => o9 = .inl (some (.int (iI 0))) ∧ MO G h' m a (r_ep (r_bl r 0) (-1)) ∧ FRp [m] h h') := by
  show RR G MX12_finish 0 [(0, .ref m)] [] h (xm_R MX12_finish).cells (xm_R MX12_finish).slots (fun o9 h' => o9 = .inl (some (.int (iI 0))) ∧ MO G h' m a (r_ep (r_bl r 0) (-1)) ∧ FRp [m] h h')
  refine r_aload_n dX12_finish_0 0 rfl ?_
  refine i_const (0) dX12_finish_1 ?_
  refine m_p_bl (v := 0) hM kf_X12_279 dX12_finish_2 (fun h1 hM1 F1 => ?_)
  refine r_aload_n dX12_finish_5 0 rfl ?_
  refine r_aload_n dX12_finish_6 0 rfl ?_
  refine m_g_er (v := 0) hM1 hT.2.2.2.2.2.1 kf_X12_303 dX12_finish_7 ?_
  refine i_ifne dX12_finish_10 (tgt := 17) (by decide) ⟨by decide, by decide⟩ (fun c => absurd c (by decide)) (fun _ => ?_)
  refine i_const (-1) dX12_finish_13 ?_
  refine r_goto dX12_finish_14 (tgt := 21) (by decide) ?_
  refine m_p_ep (v := (-1)) hM1 kf_X12_34 dX12_finish_21 (fun h2 hM2 F2 => ?_)
  refine r_aload_n dX12_finish_24 0 rfl ?_
  refine m_g_er (v := 0) hM2 hT.2.2.2.2.2.1 kf_X12_303 dX12_finish_25 ?_
  refine r_ireturn rfl rfl dX12_finish_28 ?_
  exact ⟨rfl, hM2, (F1.tr F2)⟩
set_option maxRecDepth 20000 in
set_option maxHeartbeats 1000000 in
theorem c_X12_isFaulty_k {G : xG} {h : xH} {m : Nat} {a : MA} {r : MR} (hM : MO G h m a r) {T : List Int} {p : Nat} {o : Int} (hT : TS r T p 0 o) : CC G MX12_isFaulty [.ref m] h (fun o9 h' => o9 = .inl (some (.int (iI 0))) ∧ MO G h' m a (r_lc (r_ep (r_bl r 0) (-1)) 0) ∧ FRp [m] h h') := by
  show RR G MX12_isFaulty 0 [(0, .ref m)] [] h (xm_R MX12_isFaulty).cells (xm_R MX12_isFaulty).slots (fun o9 h' => o9 = .inl (some (.int (iI 0))) ∧ MO G h' m a (r_lc (r_ep (r_bl r 0) (-1)) 0) ∧ FRp [m] h h')
  refine r_aload_n dX12_isFaulty_0 0 rfl ?_
  refine r_aload_n dX12_isFaulty_1 0 rfl ?_
  refine p_callV (As := []) (b := m) (rest := [.ref m]) (w := (some (.int (iI 0)))) (st' := [.int (iI 0), .ref m]) kv_X12_isFaulty_346 dX12_isFaulty_2 rfl rfl (Nat.le_of_ble_eq_true rfl) (Nat.le_of_ble_eq_true rfl) (x_rv hM.1 hM.2 rfl) rfl rfl (c_X12_finish_k hM hT) rfl (fun h1 e1 => ?_)
  obtain ⟨hM1, F1⟩ := e1
  refine m_p_lc (v := 0) hM1 kf_X12_343 dX12_isFaulty_5 (fun h2 hM2 F2 => ?_)
  refine r_aload_n dX12_isFaulty_8 0 rfl ?_
  refine m_g_lc (v := 0) hM2 rfl kf_X12_343 dX12_isFaulty_9 ?_
  refine i_ifeq dX12_isFaulty_12 (tgt := 19) (by decide) ⟨by decide, by decide⟩ (fun _ => ?_) (fun c => absurd c (by decide))
  refine i_const (0) dX12_isFaulty_19 ?_
  refine r_ireturn rfl (b2_nar false) dX12_isFaulty_20 ?_
  exact ⟨rfl, hM2, (F1.tr F2)⟩
set_option maxRecDepth 20000 in
set_option maxHeartbeats 1000000 in
theorem c_X12_finish_e {G : xG} {h : xH} {m : Nat} {a : MA} {r : MR} (hM : MO G h m a r) {T : List Int} {p : Nat} {e o : Int} (hT : TS r T p e o) (he : 1 ≤ e ∧ e ≤ 3) : CC G MX12_finish [.ref m] h (fun o9 h' => o9 = .inl (some (.int (iI e))) ∧ MO G h' m a (r_ep (r_bl r 0) o) ∧ FRp [m] h h') := by
  show RR G MX12_finish 0 [(0, .ref m)] [] h (xm_R MX12_finish).cells (xm_R MX12_finish).slots (fun o9 h' => o9 = .inl (some (.int (iI e))) ∧ MO G h' m a (r_ep (r_bl r 0) o) ∧ FRp [m] h h')
  refine r_aload_n dX12_finish_0 0 rfl ?_
  refine i_const (0) dX12_finish_1 ?_
  refine m_p_bl (v := 0) hM kf_X12_279 dX12_finish_2 (fun h1 hM1 F1 => ?_)
  refine r_aload_n dX12_finish_5 0 rfl ?_
  refine r_aload_n dX12_finish_6 0 rfl ?_
  refine m_g_er (v := e) hM1 hT.2.2.2.2.2.1 kf_X12_303 dX12_finish_7 ?_
  refine i_ifne dX12_finish_10 (tgt := 17) (by decide) (by first | exact i13 he | (unfold in32; omega)) (fun _ => ?_) (fun c => absurd c (by omega))
  refine r_aload_n dX12_finish_17 0 rfl ?_
  refine m_g_ea (v := o) hM1 (hT.2.2.2.2.2.2 (e13 he)) kf_X12_312 dX12_finish_18 ?_
  refine m_p_ep (v := o) hM1 kf_X12_34 dX12_finish_21 (fun h2 hM2 F2 => ?_)
  refine r_aload_n dX12_finish_24 0 rfl ?_
  refine m_g_er (v := e) hM2 hT.2.2.2.2.2.1 kf_X12_303 dX12_finish_25 ?_
  refine r_ireturn rfl rfl dX12_finish_28 ?_
  exact ⟨rfl, hM2, (F1.tr F2)⟩
set_option maxRecDepth 20000 in
set_option maxHeartbeats 1000000 in
theorem c_X12_isFaulty_e {G : xG} {h : xH} {m : Nat} {a : MA} {r : MR} (hM : MO G h m a r) {T : List Int} {p : Nat} {e o : Int} (hT : TS r T p e o) (he : 1 ≤ e ∧ e ≤ 3) : CC G MX12_isFaulty [.ref m] h (fun o9 h' => o9 = .inl (some (.int (iI 1))) ∧ MO G h' m a (r_lc (r_ep (r_bl r 0) o) e) ∧ FRp [m] h h') := by
  show RR G MX12_isFaulty 0 [(0, .ref m)] [] h (xm_R MX12_isFaulty).cells (xm_R MX12_isFaulty).slots (fun o9 h' => o9 = .inl (some (.int (iI 1))) ∧ MO G h' m a (r_lc (r_ep (r_bl r 0) o) e) ∧ FRp [m] h h')
  refine r_aload_n dX12_isFaulty_0 0 rfl ?_
  refine r_aload_n dX12_isFaulty_1 0 rfl ?_
  refine p_callV (As := []) (b := m) (rest := [.ref m]) (w := (some (.int (iI e)))) (st' := [.int (iI e), .ref m]) kv_X12_isFaulty_346 dX12_isFaulty_2 rfl rfl (Nat.le_of_ble_eq_true rfl) (Nat.le_of_ble_eq_true rfl) (x_rv hM.1 hM.2 rfl) rfl rfl (c_X12_finish_e hM hT he) rfl (fun h1 e1 => ?_)
  obtain ⟨hM1, F1⟩ := e1
  refine m_p_lc (v := e) hM1 kf_X12_343 dX12_isFaulty_5 (fun h2 hM2 F2 => ?_)
  refine r_aload_n dX12_isFaulty_8 0 rfl ?_
  refine m_g_lc (v := e) hM2 rfl kf_X12_343 dX12_isFaulty_9 ?_
  refine i_ifeq dX12_isFaulty_12 (tgt := 19) (by decide) (by first | exact i13 he | (unfold in32; omega)) (fun c => absurd c (by omega)) (fun _ => ?_)
  refine i_const (1) dX12_isFaulty_15 ?_
  refine r_goto dX12_isFaulty_16 (tgt := 20) (by decide) ?_
  refine r_ireturn rfl (b2_nar true) dX12_isFaulty_20 ?_
  exact ⟨rfl, hM2, (F1.tr F2)⟩
def RLk (r r' : MR) : Prop := r'.2.1 = r.2.1 ∧ r'.2.2.2.1 = r.2.2.2.1 ∧ r'.2.2.2.2.2.2.2.2.1 = r.2.2.2.2.2.2.2.2.1 ∧ r'.2.2.2.2.2.2.2.2.2.1 = r.2.2.2.2.2.2.2.2.2.1 ∧ r'.2.2.2.2.2.2.2.2.2.2.1 = r.2.2.2.2.2.2.2.2.2.2.1 ∧ r'.2.2.2.2.2.2.2.2.2.2.2.2.2.2.2.2.2.1 = r.2.2.2.2.2.2.2.2.2.2.2.2.2.2.2.2.2.1
set_option maxRecDepth 20000 in
set_option maxHeartbeats 1000000 in
theorem c_X12_loadBench_bad {G : xG} {h : xH} {m : Nat} {a : MA} {r : MR} (hM : MO G h m a r) {T : List Int} {gi : Nat → Int32} (hA : AR G h a.2.2.2.2.2.2.1 500 gi) (hl5 : T.length ≤ 500) (hg : ∀ k, k < T.length → gi k = iI (T.getD k 0)) (hb : BYT T) {sa : Nat → Nat} (hGT : GT G sa) {gn gd : Nat → Int32} (hN : AR G h a.1 1456 gn) (hD : AR G h a.2.1 1456 gd) (hnd : a.1 ≠ a.2.1) {n9 : Nat} (hn9 : n9 ≤ 500) (hbl : r.2.2.2.2.2.2.2.2.2.2.1 = (n9 : Int)) (hTn : T.length ≤ n9) {c off : Int} (hs : sBench T = .inl (c, off)) : CC G MX12_loadBench [.ref m, .int (iI (T.length : Int))] h (fun o9 h' => o9 = .inl (some (.int (iI (-1)))) ∧ ∃ r2 g2, MO G h' m a (r_lc (r_ep (r_bl (r_rr r2 a.1) 0) off) c) ∧ RLk r r2 ∧ r2.2.2.1 = 0 ∧ AR G h' a.2.1 1456 g2 ∧ FRp [m, a.2.1] h h') := by
  show RR G MX12_loadBench 0 [(0, .ref m), (1, .int (iI ((T.length : Int))))] [] h (xm_R MX12_loadBench).cells (xm_R MX12_loadBench).slots (fun o9 h' => o9 = .inl (some (.int (iI (-1)))) ∧ ∃ r2 g2, MO G h' m a (r_lc (r_ep (r_bl (r_rr r2 a.1) 0) off) c) ∧ RLk r r2 ∧ r2.2.2.1 = 0 ∧ AR G h' a.2.1 1456 g2 ∧ FRp [m, a.2.1] h h')
  refine r_aload_n dX12_loadBench_0 0 rfl ?_
  refine r_aload_n dX12_loadBench_1 0 rfl ?_
  refine r_iload_n dX12_loadBench_2 1 rfl ?_
  refine p_callV (As := [.int (iI ((T.length : Int)))]) (b := m) (rest := [.ref m]) (w := (some (.int (iI (b2 true))))) (st' := [.int (iI (b2 true)), .ref m]) kv_X12_loadBench_373 dX12_loadBench_3 rfl rfl (Nat.le_of_ble_eq_true rfl) (Nat.le_of_ble_eq_true rfl) (x_rv hM.1 hM.2 rfl) rfl rfl (c_X12_isLength hM hn9 hbl (by unfold in32; omega) (v := true) (by unfold inR; rw [decide_eq_true (by omega), decide_eq_true (by omega)]; rfl)) rfl (fun h1 e1 => ?_)
  rw [show h1 = h from e1]
  refine p_callV (As := [.int (iI (b2 true))]) (b := m) (rest := []) (w := (some (.int (iI 0)))) (st' := [.int (iI 0)]) kv_X12_loadBench_82 dX12_loadBench_6 rfl rfl (Nat.le_of_ble_eq_true rfl) (Nat.le_of_ble_eq_true rfl) (x_rv hM.1 hM.2 rfl) rfl rfl (c_X12_lacks_t hM) rfl (fun h2 e2 => ?_)
  obtain ⟨hM2, F2⟩ := e2
  have hA_2 := hA.obj hM F2
  have hD_2 := hD.obj hM F2
  have hN_2 := hN.obj hM F2
  have FD2 : FRp [m, a.2.1] h h2 := FRm F2
  refine i_ifeq dX12_loadBench_9 (tgt := 14) (by decide) ⟨by decide, by decide⟩ (fun _ => ?_) (fun c => absurd c (by decide))
  refine r_aload_n dX12_loadBench_14 0 rfl ?_
  refine r_iload_n dX12_loadBench_15 1 rfl ?_
  refine p_callV (As := [.int (iI ((T.length : Int)))]) (b := m) (rest := []) (w := none) (st' := []) kv_X12_loadBench_376 dX12_loadBench_16 rfl rfl (Nat.le_of_ble_eq_true rfl) (Nat.le_of_ble_eq_true rfl) (x_rv hM2.1 hM2.2 rfl) rfl rfl (c_X12_startText hM2 hA_2 hl5 hg hb) rfl (fun h3 e3 => ?_)
  obtain ⟨r3, hM3, hK3, hT3, F3⟩ := e3
  have hA_3 := hA_2.obj hM2 F3
  have hD_3 := hD_2.obj hM2 F3
  have hN_3 := hN_2.obj hM2 F3
  have FD3 : FRp [m, a.2.1] h h3 := FD2.tr (FRm F3)
  refine r_aload_n dX12_loadBench_19 0 rfl ?_
  refine r_aload_n dX12_loadBench_20 0 rfl ?_
  refine m_g_dr (v := a.2.1) hM3 rfl kf_X12_13 dX12_loadBench_21 ?_
  refine m_p_rr (v := a.2.1) hM3 kf_X12_25 dX12_loadBench_24 (fun h4 hM4 F4 => ?_)
  have hA_4 := hA_3.obj hM3 F4
  have hD_4 := hD_3.obj hM3 F4
  have hN_4 := hN_3.obj hM3 F4
  have FD4 : FRp [m, a.2.1] h h4 := FD3.tr (FRm F4)
  refine r_aload_n dX12_loadBench_27 0 rfl ?_
  have hTd : TS (r_rr r3 a.2.1) T 0 0 0 := hT3
  refine p_callV (As := []) (b := m) (rest := []) (w := none) (st' := []) kv_X12_loadBench_379 dX12_loadBench_28 rfl rfl (Nat.le_of_ble_eq_true rfl) (Nat.le_of_ble_eq_true rfl) (x_rv hM4.1 hM4.2 rfl) rfl rfl (c_X12_readBench hM4 hD_4 hTd hA_4 hl5 hg hb hGT) rfl (fun h5 e5 => ?_)
  obtain ⟨r5, g5, hM5, hK5, hD5, F5, hS5⟩ := e5
  have hA_5 := hA_4.fr F5 (nm2 (hM4.ne hA_4).symm (ne_sz hA_4.2 hD_4.2 (by decide)))
  have hN_5 := hN_4.fr F5 (nm2 (hM4.ne hN_4).symm hnd)
  have FD5 : FRp [m, a.2.1] h h5 := FD4.tr (F5)
  refine r_aload_n dX12_loadBench_31 0 rfl ?_
  refine r_aload_n dX12_loadBench_32 0 rfl ?_
  refine m_g_nw (v := a.1) hM5 rfl kf_X12_9 dX12_loadBench_33 ?_
  refine m_p_rr (v := a.1) hM5 kf_X12_25 dX12_loadBench_36 (fun h6 hM6 F6 => ?_)
  have hA_6 := hA_5.obj hM5 F6
  have hD5_6 := hD5.obj hM5 F6
  have hN_6 := hN_5.obj hM5 F6
  have FD6 : FRp [m, a.2.1] h h6 := FD5.tr (FRm F6)
  refine r_aload_n dX12_loadBench_39 0 rfl ?_
  have hS : BRR r5 g5 T (sBench T) := hS5
  rw [hs] at hS
  obtain ⟨hcb, ⟨p8, hT8⟩, hB8⟩ := hS
  refine p_callV (As := []) (b := m) (rest := []) (w := (some (.int (iI 1)))) (st' := [.int (iI 1)]) kv_X12_loadBench_382 dX12_loadBench_40 rfl rfl (Nat.le_of_ble_eq_true rfl) (Nat.le_of_ble_eq_true rfl) (x_rv hM6.1 hM6.2 rfl) rfl rfl (c_X12_isFaulty_e hM6 (show TS (r_rr r5 a.1) T p8 c off from hT8) hcb) rfl (fun h7 e7 => ?_)
  obtain ⟨hM7, F7⟩ := e7
  have hA_7 := hA_6.obj hM6 F7
  have hD5_7 := hD5_6.obj hM6 F7
  have hN_7 := hN_6.obj hM6 F7
  have FD7 : FRp [m, a.2.1] h h7 := FD6.tr (FRm F7)
  refine i_ifeq dX12_loadBench_43 (tgt := 48) (by decide) ⟨by decide, by decide⟩ (fun c => absurd c (by decide)) (fun _ => ?_)
  refine i_const (-1) dX12_loadBench_46 ?_
  refine r_ireturn rfl rfl dX12_loadBench_47 ?_
  exact ⟨rfl, _, _, hM7, ⟨hK5.1.2.1.trans hK3.1.2.1, hK5.1.2.2.1.trans hK3.1.2.2.1, hK5.1.2.2.2.1.trans hK3.1.2.2.2.1, hK5.1.2.2.2.2.1.trans hK3.1.2.2.2.2.1, hK5.1.2.2.2.2.2.1.trans hK3.1.2.2.2.2.2.1, hK5.1.2.2.2.2.2.2.1.trans hK3.1.2.2.2.2.2.2.1⟩, hK5.2.1.trans hK3.2.1, hD5_7, FD7⟩
set_option maxRecDepth 20000 in
set_option maxHeartbeats 1000000 in
theorem c_X12_loadBench_ok {G : xG} {h : xH} {m : Nat} {a : MA} {r : MR} (hM : MO G h m a r) {T : List Int} {gi : Nat → Int32} (hA : AR G h a.2.2.2.2.2.2.1 500 gi) (hl5 : T.length ≤ 500) (hg : ∀ k, k < T.length → gi k = iI (T.getD k 0)) (hb : BYT T) {sa : Nat → Nat} (hGT : GT G sa) {gn gd : Nat → Int32} (hN : AR G h a.1 1456 gn) (hD : AR G h a.2.1 1456 gd) (hnd : a.1 ≠ a.2.1) {n9 : Nat} (hn9 : n9 ≤ 500) (hbl : r.2.2.2.2.2.2.2.2.2.2.1 = (n9 : Int)) (hTn : T.length ≤ n9) {y : ((Int × Int × Int) × List (Int × List Int)) × Nat} (hs : sBench T = .inr y) : CC G MX12_loadBench [.ref m, .int (iI (T.length : Int))] h (fun o9 h' => o9 = .inl (some (.int (iI (y.1.2.length : Int)))) ∧ ∃ r2 g2 gN, MO G h' m a (r_sd (r_un (r_lc (r_ep (r_bl (r_rr r2 a.1) 0) (-1)) 0) 0) false) ∧ RLk r r2 ∧ r2.2.2.1 = 0 ∧ AR G h' a.2.1 1456 g2 ∧ AR G h' a.1 1456 gN ∧ RWf gN 0 (hd6 y.1.1, (y.1.2.map mdS).map exS) ∧ FRp [m, a.2.1, a.1] h h') := by
  show RR G MX12_loadBench 0 [(0, .ref m), (1, .int (iI ((T.length : Int))))] [] h (xm_R MX12_loadBench).cells (xm_R MX12_loadBench).slots (fun o9 h' => o9 = .inl (some (.int (iI (y.1.2.length : Int)))) ∧ ∃ r2 g2 gN, MO G h' m a (r_sd (r_un (r_lc (r_ep (r_bl (r_rr r2 a.1) 0) (-1)) 0) 0) false) ∧ RLk r r2 ∧ r2.2.2.1 = 0 ∧ AR G h' a.2.1 1456 g2 ∧ AR G h' a.1 1456 gN ∧ RWf gN 0 (hd6 y.1.1, (y.1.2.map mdS).map exS) ∧ FRp [m, a.2.1, a.1] h h')
  refine r_aload_n dX12_loadBench_0 0 rfl ?_
  refine r_aload_n dX12_loadBench_1 0 rfl ?_
  refine r_iload_n dX12_loadBench_2 1 rfl ?_
  refine p_callV (As := [.int (iI ((T.length : Int)))]) (b := m) (rest := [.ref m]) (w := (some (.int (iI (b2 true))))) (st' := [.int (iI (b2 true)), .ref m]) kv_X12_loadBench_373 dX12_loadBench_3 rfl rfl (Nat.le_of_ble_eq_true rfl) (Nat.le_of_ble_eq_true rfl) (x_rv hM.1 hM.2 rfl) rfl rfl (c_X12_isLength hM hn9 hbl (by unfold in32; omega) (v := true) (by unfold inR; rw [decide_eq_true (by omega), decide_eq_true (by omega)]; rfl)) rfl (fun h1 e1 => ?_)
  rw [show h1 = h from e1]
  refine p_callV (As := [.int (iI (b2 true))]) (b := m) (rest := []) (w := (some (.int (iI 0)))) (st' := [.int (iI 0)]) kv_X12_loadBench_82 dX12_loadBench_6 rfl rfl (Nat.le_of_ble_eq_true rfl) (Nat.le_of_ble_eq_true rfl) (x_rv hM.1 hM.2 rfl) rfl rfl (c_X12_lacks_t hM) rfl (fun h2 e2 => ?_)
  obtain ⟨hM2, F2⟩ := e2
  have hA_2 := hA.obj hM F2
  have hD_2 := hD.obj hM F2
  have hN_2 := hN.obj hM F2
  have FD2 : FRp [m, a.2.1] h h2 := FRm F2
  refine i_ifeq dX12_loadBench_9 (tgt := 14) (by decide) ⟨by decide, by decide⟩ (fun _ => ?_) (fun c => absurd c (by decide))
  refine r_aload_n dX12_loadBench_14 0 rfl ?_
  refine r_iload_n dX12_loadBench_15 1 rfl ?_
  refine p_callV (As := [.int (iI ((T.length : Int)))]) (b := m) (rest := []) (w := none) (st' := []) kv_X12_loadBench_376 dX12_loadBench_16 rfl rfl (Nat.le_of_ble_eq_true rfl) (Nat.le_of_ble_eq_true rfl) (x_rv hM2.1 hM2.2 rfl) rfl rfl (c_X12_startText hM2 hA_2 hl5 hg hb) rfl (fun h3 e3 => ?_)
  obtain ⟨r3, hM3, hK3, hT3, F3⟩ := e3
  have hA_3 := hA_2.obj hM2 F3
  have hD_3 := hD_2.obj hM2 F3
  have hN_3 := hN_2.obj hM2 F3
  have FD3 : FRp [m, a.2.1] h h3 := FD2.tr (FRm F3)
  refine r_aload_n dX12_loadBench_19 0 rfl ?_
  refine r_aload_n dX12_loadBench_20 0 rfl ?_
  refine m_g_dr (v := a.2.1) hM3 rfl kf_X12_13 dX12_loadBench_21 ?_
  refine m_p_rr (v := a.2.1) hM3 kf_X12_25 dX12_loadBench_24 (fun h4 hM4 F4 => ?_)
  have hA_4 := hA_3.obj hM3 F4
  have hD_4 := hD_3.obj hM3 F4
  have hN_4 := hN_3.obj hM3 F4
  have FD4 : FRp [m, a.2.1] h h4 := FD3.tr (FRm F4)
  refine r_aload_n dX12_loadBench_27 0 rfl ?_
  have hTd : TS (r_rr r3 a.2.1) T 0 0 0 := hT3
  refine p_callV (As := []) (b := m) (rest := []) (w := none) (st' := []) kv_X12_loadBench_379 dX12_loadBench_28 rfl rfl (Nat.le_of_ble_eq_true rfl) (Nat.le_of_ble_eq_true rfl) (x_rv hM4.1 hM4.2 rfl) rfl rfl (c_X12_readBench hM4 hD_4 hTd hA_4 hl5 hg hb hGT) rfl (fun h5 e5 => ?_)
  obtain ⟨r5, g5, hM5, hK5, hD5, F5, hS5⟩ := e5
  have hA_5 := hA_4.fr F5 (nm2 (hM4.ne hA_4).symm (ne_sz hA_4.2 hD_4.2 (by decide)))
  have hN_5 := hN_4.fr F5 (nm2 (hM4.ne hN_4).symm hnd)
  have FD5 : FRp [m, a.2.1] h h5 := FD4.tr (F5)
  refine r_aload_n dX12_loadBench_31 0 rfl ?_
  refine r_aload_n dX12_loadBench_32 0 rfl ?_
  refine m_g_nw (v := a.1) hM5 rfl kf_X12_9 dX12_loadBench_33 ?_
  refine m_p_rr (v := a.1) hM5 kf_X12_25 dX12_loadBench_36 (fun h6 hM6 F6 => ?_)
  have hA_6 := hA_5.obj hM5 F6
  have hD5_6 := hD5.obj hM5 F6
  have hN_6 := hN_5.obj hM5 F6
  have FD6 : FRp [m, a.2.1] h h6 := FD5.tr (FRm F6)
  refine r_aload_n dX12_loadBench_39 0 rfl ?_
  have hS : BRR r5 g5 T (sBench T) := hS5
  rw [hs] at hS
  obtain ⟨⟨p8, o8, hT8⟩, hB8⟩ := hS
  refine p_callV (As := []) (b := m) (rest := []) (w := (some (.int (iI 0)))) (st' := [.int (iI 0)]) kv_X12_loadBench_382 dX12_loadBench_40 rfl rfl (Nat.le_of_ble_eq_true rfl) (Nat.le_of_ble_eq_true rfl) (x_rv hM6.1 hM6.2 rfl) rfl rfl (c_X12_isFaulty_k hM6 (show TS (r_rr r5 a.1) T p8 0 o8 from hT8)) rfl (fun h7 e7 => ?_)
  obtain ⟨hM7, F7⟩ := e7
  have hA_7 := hA_6.obj hM6 F7
  have hD5_7 := hD5_6.obj hM6 F7
  have hN_7 := hN_6.obj hM6 F7
  have FD7 : FRp [m, a.2.1] h h7 := FD6.tr (FRm F7)
  refine i_ifeq dX12_loadBench_43 (tgt := 48) (by decide) ⟨by decide, by decide⟩ (fun _ => ?_) (fun c => absurd c (by decide))
  refine r_aload_n dX12_loadBench_48 0 rfl ?_
  refine m_g_dr (v := a.2.1) hM7 rfl kf_X12_13 dX12_loadBench_49 ?_
  refine i_const (0) dX12_loadBench_52 ?_
  refine r_aload_n dX12_loadBench_53 0 rfl ?_
  refine m_g_nw (v := a.1) hM7 rfl kf_X12_9 dX12_loadBench_54 ?_
  refine i_const (0) dX12_loadBench_57 ?_
  refine p_callS (As := [.ref a.2.1, .int (iI 0), .ref a.1, .int (iI 0)]) (rest := []) (w := none) (st' := []) kv_X12_loadBench_220 dX12_loadBench_58 rfl rfl (Nat.le_of_ble_eq_true rfl) (Nat.le_of_ble_eq_true rfl) rfl rfl (c_X12_copy hD5_7 hN_7 (sj := 0) (dj := 0) (by decide) (by decide) (by decide) (by decide)) rfl (fun h8 e8 => ?_)
  obtain ⟨hN8, F8⟩ := e8
  have hM8 := hM7.row hN_7 F8
  have hD_8 := hD5_7.fr F8 (nm1 hnd.symm)
  have FE : FRp [m, a.2.1, a.1] h h8 := (FD7.mono (by simp)).tr (F8.mono (by simp))
  have hW9 : RWf _ 0 (hd6 y.1.1, (y.1.2.map mdS).map exS) := hB8.mv (g' := va_cpy g5 gn (1456 * 0) (1456 * 0) 1456) (fun k hk => (cpy_in (dj := 0) hk).trans (by rw [Nat.mul_zero]))
  refine r_aload_n dX12_loadBench_61 0 rfl ?_
  refine i_const (0) dX12_loadBench_62 ?_
  refine m_p_un (v := 0) hM8 kf_X12_224 dX12_loadBench_63 (fun h9 hM9 F9 => ?_)
  have hD_9 := hD_8.obj hM8 F9
  have hN8_9 := hN8.obj hM8 F9
  have FE9 : FRp [m, a.2.1, a.1] h h9 := FE.tr (F9.mono (by simp))
  refine r_aload_n dX12_loadBench_66 0 rfl ?_
  refine i_const (0) dX12_loadBench_67 ?_
  refine m_p_sd (v := false) hM9 kf_X12_275 dX12_loadBench_68 (fun h10 hM10 F10 => ?_)
  have hD_10 := hD_9.obj hM9 F10
  have hN8_10 := hN8_9.obj hM9 F10
  have FE10 : FRp [m, a.2.1, a.1] h h10 := FE9.tr (F10.mono (by simp))
  refine r_aload_n dX12_loadBench_71 0 rfl ?_
  refine m_g_rr (v := a.1) hM10 rfl kf_X12_25 dX12_loadBench_72 ?_
  refine i_const (3) dX12_loadBench_75 ?_
  refine m_ld (v := iI ((y.1.2.length : Int))) 3 rfl (hW9.1.1.2.2.2.1.trans (by simp)) hN8_10 dX12_loadBench_76 (by omega) (by decide) ?_
  refine r_ireturn rfl rfl dX12_loadBench_77 ?_
  exact ⟨rfl, _, _, _, hM10, ⟨hK5.1.2.1.trans hK3.1.2.1, hK5.1.2.2.1.trans hK3.1.2.2.1, hK5.1.2.2.2.1.trans hK3.1.2.2.2.1, hK5.1.2.2.2.2.1.trans hK3.1.2.2.2.2.1, hK5.1.2.2.2.2.2.1.trans hK3.1.2.2.2.2.2.1, hK5.1.2.2.2.2.2.2.1.trans hK3.1.2.2.2.2.2.2.1⟩, hK5.2.1.trans hK3.2.1, hD_10, hN8_10, hW9, FE10⟩
set_option maxRecDepth 20000 in
set_option maxHeartbeats 1000000 in
theorem c_X12_loadBench_no {G : xG} {h : xH} {m : Nat} {a : MA} {r : MR} (hM : MO G h m a r) {n9 : Nat} (hn9 : n9 ≤ 500) (hbl : r.2.2.2.2.2.2.2.2.2.2.1 = (n9 : Int)) {z : Int} (hz : in32 z) (hf : inR z 0 (n9 : Int) = false) : CC G MX12_loadBench [.ref m, .int (iI z)] h (fun o h' => o = .inl (some (.int (iI 0))) ∧ MO G h' m a (r_th r 1) ∧ FRp [m] h h') := by
  show RR G MX12_loadBench 0 [(0, .ref m), (1, .int (iI z))] [] h (xm_R MX12_loadBench).cells (xm_R MX12_loadBench).slots (fun o h' => o = .inl (some (.int (iI 0))) ∧ MO G h' m a (r_th r 1) ∧ FRp [m] h h')
  refine r_aload_n dX12_loadBench_0 0 rfl ?_
  refine r_aload_n dX12_loadBench_1 0 rfl ?_
  refine r_iload_n dX12_loadBench_2 1 rfl ?_
  refine p_callV (As := [.int (iI z)]) (b := m) (rest := [.ref m]) (w := (some (.int (iI (b2 false))))) (st' := [.int (iI (b2 false)), .ref m]) kv_X12_loadBench_373 dX12_loadBench_3 rfl rfl (Nat.le_of_ble_eq_true rfl) (Nat.le_of_ble_eq_true rfl) (x_rv hM.1 hM.2 rfl) rfl rfl (c_X12_isLength hM hn9 hbl hz hf) rfl (fun h1 e1 => ?_)
  rw [show h1 = h from e1]
  refine p_callV (As := [.int (iI (b2 false))]) (b := m) (rest := []) (w := (some (.int (iI 1)))) (st' := [.int (iI 1)]) kv_X12_loadBench_82 dX12_loadBench_6 rfl rfl (Nat.le_of_ble_eq_true rfl) (Nat.le_of_ble_eq_true rfl) (x_rv hM.1 hM.2 rfl) rfl rfl (c_X12_lacks_f hM) rfl (fun h2 e2 => ?_)
  obtain ⟨hM2, F2⟩ := e2
  refine i_ifeq dX12_loadBench_9 (tgt := 14) (by decide) ⟨by decide, by decide⟩ (fun c => absurd c (by decide)) (fun _ => ?_)
  refine i_const (0) dX12_loadBench_12 ?_
  refine r_ireturn rfl rfl dX12_loadBench_13 ?_
  exact ⟨rfl, hM2, F2⟩
