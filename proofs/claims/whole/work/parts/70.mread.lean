/-! ===== the reference: reading words, signs and numbers ===== -/
section LDCW
variable {G : xG} {M : xM} {h : xH} {pc : Nat} {ls : List (Nat × Value)} {st : List Value} {kc ks : Nat} {Q : xR → xH → Prop} {q : Nat} {idx : Nat}
theorem r_ldcSW {own tx : String} (hZ : x_zz G (fun _ U _ => vk_R own idx tx q U)) (ho : M.1.cls = own) (hd : decode M.2.1 pc = .ok (.ldc_w idx, 3)) (k : RR G M (pc + 3) ls (.ref q :: st) h kc ks Q) : RR G M pc ls st h kc ks Q := rr_of k fun _ _ _ _ s _ _ _ _ _ _ _ _ _ _ _ E S w => by
  intro T hT X
  obtain ⟨t, a1, b1⟩ := w T hT X
  have hZ1 := hZ s E.2.2.2.2.2.2.2.2.2.1
  exact ⟨t, X.ldcStringW E.1.1 (by rw [← ho]; exact E.1.2.2.2.1) (text := tx) (a := q) hZ1.1 hZ1.2 (g := F0 _ pc _ st) rfl (by rw [E.1.2.1]; exact hd) t a1, b1⟩
theorem i_ldcW {v : Int32} (n : Int) (hv : v = iI n) (hw : Cond.constant M.1.cls idx v ∈ bg_L) (hd : decode M.2.1 pc = .ok (.ldc_w idx, 3)) (k : RR G M (pc + 3) ls (.int (iI n) :: st) h kc ks Q) : RR G M pc ls st h kc ks Q := rr_of (by rw [hv] at hw; exact k) fun _ _ _ _ _ _ _ _ _ _ _ _ _ _ _ _ E _ kk => lv_ldcw E.1.1 E.1.2.1 E.1.2.2.2.1 (E.1.2.2.2.2 _ (by rw [hv] at hw; exact hw)) hd kk
end LDCW
def TS (r : MR) (T : List Int) (p : Nat) (e o : Int) : Prop := r.2.2.2.2.2.2.2.2.2.2.2.1 = (T.length : Int) ∧ p ≤ T.length ∧ r.2.2.2.2.2.2.2.2.2.2.2.2.1 = ((tokAt T p).2.2 : Int) ∧ r.2.2.2.2.2.2.2.2.2.2.2.2.2.1 = ((tokAt T p).2.1 : Int) ∧ r.2.2.2.2.2.2.2.2.2.2.2.2.2.2.1 = tkM (tokAt T p).1 ∧ r.2.2.2.2.2.2.2.2.2.2.2.2.2.2.2.1 = e ∧ (e ≠ 0 → r.2.2.2.2.2.2.2.2.2.2.2.2.2.2.2.2.1 = o)
theorem RK.tr {r r' r'' : MR} (x : RK r r') (y : RK r' r'') : RK r r'' := ⟨y.1.trans x.1, y.2.1.trans x.2.1, y.2.2.1.trans x.2.2.1, y.2.2.2.1.trans x.2.2.2.1, y.2.2.2.2.1.trans x.2.2.2.2.1, y.2.2.2.2.2.1.trans x.2.2.2.2.2.1, y.2.2.2.2.2.2.1.trans x.2.2.2.2.2.2.1, y.2.2.2.2.2.2.2.trans x.2.2.2.2.2.2.2⟩
theorem RT.tr {r r' r'' : MR} (x : RT r r') (y : RT r' r'') : RT r r'' := ⟨x.1.tr y.1, y.2.1.trans x.2.1, y.2.2.trans x.2.2⟩
def TP (G : xG) (h h' : xH) (m : Nat) (a : MA) (r : MR) (T : List Int) (p : Nat) (e o : Int) : Prop := ∃ r', MO G h' m a r' ∧ RT r r' ∧ TS r' T p e o ∧ FRp [m] h h'
theorem tkM_b (T : List Int) {p : Nat} (hp : p ≤ T.length) : 0 ≤ tkM (tokAt T p).1 ∧ tkM (tokAt T p).1 ≤ 3 := by unfold tkM; split <;> (try split) <;> (try split) <;> omega
theorem TS.b {r : MR} {T : List Int} {p : Nat} {e o : Int} (h : TS r T p e o) : (tokAt T p).1 < 5 ∧ p ≤ (tokAt T p).2.1 ∧ (tokAt T p).2.1 ≤ (tokAt T p).2.2 ∧ (tokAt T p).2.2 ≤ T.length ∧ ((tokAt T p).1 ≠ 4 → (tokAt T p).2.1 < (tokAt T p).2.2) ∧ ((tokAt T p).1 = 4 → (tokAt T p).2.1 = T.length) := tokAt_b T h.2.1
set_option maxRecDepth 20000 in
set_option maxHeartbeats 1000000 in
theorem c_X12_check_t {G : xG} {h : xH} {m : Nat} {a : MA} {r : MR} (hM : MO G h m a r) {T : List Int} {p : Nat} {e o : Int} (hT : TS r T p e o) {c : Int} : CC G MX12_check [.ref m, .int (iI (b2 true)), .int (iI c)] h (fun o9 h' => o9 = .inl none ∧ TP G h h' m a r T p e o) := by
  show RR G MX12_check 0 [(0, .ref m), (1, .int (iI (b2 true))), (2, .int (iI c))] [] h (xm_R MX12_check).cells (xm_R MX12_check).slots (fun o9 h' => o9 = .inl none ∧ TP G h h' m a r T p e o)
  refine r_iload_n dX12_check_0 1 rfl ?_
  refine i_ifneb dX12_check_1 (tgt := 24) (by decide) (fun _ => ?_) (fun c => absurd c (by decide))
  refine r_return rfl dX12_check_24 ?_
  exact ⟨rfl, r, hM, RT.rf, hT, FRp.rf⟩
set_option maxRecDepth 20000 in
set_option maxHeartbeats 1000000 in
theorem c_X12_check_e {G : xG} {h : xH} {m : Nat} {a : MA} {r : MR} (hM : MO G h m a r) {T : List Int} {p : Nat} {e o : Int} (hT : TS r T p e o) {b : Bool} {c : Int} (he : e ≠ 0) (hei : in32 e) : CC G MX12_check [.ref m, .int (iI (b2 b)), .int (iI c)] h (fun o9 h' => o9 = .inl none ∧ TP G h h' m a r T p e o) := by
  show RR G MX12_check 0 [(0, .ref m), (1, .int (iI (b2 b))), (2, .int (iI c))] [] h (xm_R MX12_check).cells (xm_R MX12_check).slots (fun o9 h' => o9 = .inl none ∧ TP G h h' m a r T p e o)
  refine r_iload_n dX12_check_0 1 rfl ?_
  refine i_ifneb dX12_check_1 (tgt := 24) (by decide) (fun c1 => ?_) (fun c1 => ?_)
  · refine r_return rfl dX12_check_24 ?_
    exact ⟨rfl, r, hM, RT.rf, hT, FRp.rf⟩
  · refine r_aload_n dX12_check_4 0 rfl ?_
    refine m_g_er (v := e) hM hT.2.2.2.2.2.1 kf_X12_303 dX12_check_5 ?_
    refine i_ifne dX12_check_8 (tgt := 24) (by decide) (by first | assumption | (unfold in32; omega)) (fun _ => ?_) (fun c => absurd c (by omega))
    refine r_return rfl dX12_check_24 ?_
    exact ⟨rfl, r, hM, RT.rf, hT, FRp.rf⟩
set_option maxRecDepth 20000 in
set_option maxHeartbeats 1000000 in
theorem c_X12_check_f {G : xG} {h : xH} {m : Nat} {a : MA} {r : MR} (hM : MO G h m a r) {T : List Int} {p : Nat} {o : Int} (hT : TS r T p 0 o) {c : Int} (hc : c ≠ 0) : CC G MX12_check [.ref m, .int (iI (b2 false)), .int (iI c)] h (fun o9 h' => o9 = .inl none ∧ TP G h h' m a r T p c ((tokAt T p).2.1 : Int)) := by
  show RR G MX12_check 0 [(0, .ref m), (1, .int (iI (b2 false))), (2, .int (iI c))] [] h (xm_R MX12_check).cells (xm_R MX12_check).slots (fun o9 h' => o9 = .inl none ∧ TP G h h' m a r T p c ((tokAt T p).2.1 : Int))
  refine r_iload_n dX12_check_0 1 rfl ?_
  refine i_ifneb dX12_check_1 (tgt := 24) (by decide) (fun c => absurd c (by decide)) (fun _ => ?_)
  refine r_aload_n dX12_check_4 0 rfl ?_
  refine m_g_er (v := 0) hM hT.2.2.2.2.2.1 kf_X12_303 dX12_check_5 ?_
  refine i_ifne dX12_check_8 (tgt := 24) (by decide) ⟨by decide, by decide⟩ (fun c => absurd c (by decide)) (fun _ => ?_)
  refine r_aload_n dX12_check_11 0 rfl ?_
  refine r_iload_n dX12_check_12 2 rfl ?_
  refine m_p_er (v := c) hM kf_X12_303 dX12_check_13 (fun h1 hM1 F1 => ?_)
  refine r_aload_n dX12_check_16 0 rfl ?_
  refine r_aload_n dX12_check_17 0 rfl ?_
  refine m_g_bg (v := ((tokAt T p).2.1 : Int)) hM1 hT.2.2.2.1 kf_X12_291 dX12_check_18 ?_
  refine m_p_ea (v := ((tokAt T p).2.1 : Int)) hM1 kf_X12_312 dX12_check_21 (fun h2 hM2 F2 => ?_)
  refine r_return rfl dX12_check_24 ?_
  exact ⟨rfl, _, hM2, ⟨⟨rfl, rfl, rfl, rfl, rfl, rfl, rfl, rfl⟩, rfl, rfl⟩, ⟨hT.1, hT.2.1, hT.2.2.1, hT.2.2.2.1, hT.2.2.2.2.1, rfl, fun _ => rfl⟩, (F1.tr F2)⟩
set_option maxRecDepth 20000 in
set_option maxHeartbeats 1000000 in
theorem c_X12_advance_e {G : xG} {h : xH} {m : Nat} {a : MA} {r : MR} (hM : MO G h m a r) {T : List Int} {p : Nat} {e o : Int} (hT : TS r T p e o) {gi : Nat → Int32} (hA : AR G h a.2.2.2.2.2.2.1 500 gi) (hl5 : T.length ≤ 500) (hg : ∀ k, k < T.length → gi k = iI (T.getD k 0)) (hb : BYT T) (he : e ≠ 0) (hei : in32 e) : CC G MX12_advance [.ref m] h (fun o9 h' => o9 = .inl none ∧ TP G h h' m a r T p e o) := by
  show RR G MX12_advance 0 [(0, .ref m)] [] h (xm_R MX12_advance).cells (xm_R MX12_advance).slots (fun o9 h' => o9 = .inl none ∧ TP G h h' m a r T p e o)
  refine r_aload_n dX12_advance_0 0 rfl ?_
  refine m_g_er (v := e) hM hT.2.2.2.2.2.1 kf_X12_303 dX12_advance_1 ?_
  refine i_ifne dX12_advance_4 (tgt := 11) (by decide) (by first | assumption | (unfold in32; omega)) (fun _ => ?_) (fun c => absurd c (by omega))
  refine r_return rfl dX12_advance_11 ?_
  exact ⟨rfl, r, hM, RT.rf, hT, FRp.rf⟩
set_option maxRecDepth 20000 in
set_option maxHeartbeats 1000000 in
theorem c_X12_advance_k {G : xG} {h : xH} {m : Nat} {a : MA} {r : MR} (hM : MO G h m a r) {T : List Int} {p : Nat} {o : Int} (hT : TS r T p 0 o) {gi : Nat → Int32} (hA : AR G h a.2.2.2.2.2.2.1 500 gi) (hl5 : T.length ≤ 500) (hg : ∀ k, k < T.length → gi k = iI (T.getD k 0)) (hb : BYT T) : CC G MX12_advance [.ref m] h (fun o9 h' => o9 = .inl none ∧ TP G h h' m a r T (tokAt T p).2.2 0 o) := by
  show RR G MX12_advance 0 [(0, .ref m)] [] h (xm_R MX12_advance).cells (xm_R MX12_advance).slots (fun o9 h' => o9 = .inl none ∧ TP G h h' m a r T (tokAt T p).2.2 0 o)
  refine r_aload_n dX12_advance_0 0 rfl ?_
  refine m_g_er (v := 0) hM hT.2.2.2.2.2.1 kf_X12_303 dX12_advance_1 ?_
  refine i_ifne dX12_advance_4 (tgt := 11) (by decide) ⟨by decide, by decide⟩ (fun c => absurd c (by decide)) (fun _ => ?_)
  refine r_aload_n dX12_advance_7 0 rfl ?_
  refine p_callV (As := []) (b := m) (rest := []) (w := none) (st' := []) kv_X12_advance_309 dX12_advance_8 rfl rfl (Nat.le_of_ble_eq_true rfl) (Nat.le_of_ble_eq_true rfl) (x_rv hM.1 hM.2 rfl) rfl rfl (c_X12_scan hM hA hl5 hg hb hT.1 hT.b.2.2.2.1 hT.2.2.1) rfl (fun h1 e1 => ?_)
  obtain ⟨hM1, F1⟩ := e1
  refine r_return rfl dX12_advance_11 ?_
  have hbb := hT.b
  exact ⟨rfl, _, hM1, ⟨⟨rfl, rfl, rfl, rfl, rfl, rfl, rfl, rfl⟩, rfl, rfl⟩, ⟨hT.1, by omega, rfl, rfl, rfl, hT.2.2.2.2.2.1, fun z => absurd rfl z⟩, F1⟩
theorem tok_semi (T : List Int) (p : Nat) : ((tokAt T p).1 = 2 → T.getD (tokAt T p).2.1 0 = 59) ∧ ((tokAt T p).1 = 3 → T.getD (tokAt T p).2.1 0 ≠ 59) := by
  unfold tokAt tokS
  split
  · exact ⟨fun z => absurd z (show ¬ (4 : Nat) = 2 by decide), fun z => absurd z (show ¬ (4 : Nat) = 3 by decide)⟩
  · split
    · exact ⟨fun z => absurd z (show ¬ (0 : Nat) = 2 by decide), fun z => absurd z (show ¬ (0 : Nat) = 3 by decide)⟩
    · split
      · exact ⟨fun z => absurd z (show ¬ (1 : Nat) = 2 by decide), fun z => absurd z (show ¬ (1 : Nat) = 3 by decide)⟩
      · split
        · rename_i a; exact ⟨fun _ => a, fun z => absurd z (show ¬ (2 : Nat) = 3 by decide)⟩
        · rename_i a; exact ⟨fun z => absurd z (show ¬ (3 : Nat) = 2 by decide), fun _ => a⟩
theorem tkM_3 {k : Nat} (hk : k < 5) (h : tkM k = 3) : k = 2 ∨ k = 3 := by
  unfold tkM at h
  split at h
  · cases h
  · split at h
    · cases h
    · split at h
      · cases h
      · omega
theorem tkM_1 {k : Nat} (hk : k < 5) (h : tkM k = 1) : k = 0 := by
  unfold tkM at h
  split at h
  · cases h
  · split at h
    · assumption
    · split at h <;> cases h
theorem tkM_2 {k : Nat} (hk : k < 5) (h : tkM k = 2) : k = 1 := by
  unfold tkM at h
  split at h
  · cases h
  · split at h
    · cases h
    · split at h
      · assumption
      · cases h
theorem tkM_0 {k : Nat} (hk : k < 5) (h : tkM k = 0) : k = 4 := by
  unfold tkM at h
  split at h
  · assumption
  · split at h
    · cases h
    · split at h <;> cases h
theorem semi_t {T : List Int} {p : Nat} (h : tkM (tokAt T p).1 = 3) (hx : (tokAt T p).1 < 5) (hc : T.getD (tokAt T p).2.1 0 = 59) : decide ((tokAt T p).1 = 2) = true := by
  rcases tkM_3 hx h with z | z
  · exact decide_eq_true z
  · exact absurd hc ((tok_semi T p).2 z)
theorem semi_f {T : List Int} {p : Nat} (h : tkM (tokAt T p).1 = 3) (hx : (tokAt T p).1 < 5) (hc : T.getD (tokAt T p).2.1 0 ≠ 59) : decide ((tokAt T p).1 = 2) = false := decide_eq_false (fun z => hc ((tok_semi T p).1 z))
set_option maxRecDepth 20000 in
set_option maxHeartbeats 1000000 in
theorem c_X12_isSymbol_k {G : xG} {h : xH} {m : Nat} {a : MA} {r : MR} (hM : MO G h m a r) {T : List Int} {p : Nat} {o : Int} (hT : TS r T p 0 o) {gi : Nat → Int32} (hA : AR G h a.2.2.2.2.2.2.1 500 gi) (hl5 : T.length ≤ 500) (hg : ∀ k, k < T.length → gi k = iI (T.getD k 0)) (hb : BYT T) : CC G MX12_isSymbol [.ref m, .int (iI 59)] h (qI (b2 (decide ((tokAt T p).1 = 2))) h) := by
  have hbb := hT.b
  have hx := hbb.1
  have htk := tkM_b T hT.2.1
  show RR G MX12_isSymbol 0 [(0, .ref m), (1, .int (iI 59))] [] h (xm_R MX12_isSymbol).cells (xm_R MX12_isSymbol).slots (qI (b2 (decide ((tokAt T p).1 = 2))) h)
  refine r_aload_n dX12_isSymbol_0 0 rfl ?_
  refine m_g_er (v := 0) hM hT.2.2.2.2.2.1 kf_X12_303 dX12_isSymbol_1 ?_
  refine i_ifne dX12_isSymbol_4 (tgt := 32) (by decide) ⟨by decide, by decide⟩ (fun c => absurd c (by decide)) (fun _ => ?_)
  refine r_aload_n dX12_isSymbol_7 0 rfl ?_
  refine m_g_tk (v := tkM (tokAt T p).1) hM hT.2.2.2.2.1 kf_X12_294 dX12_isSymbol_8 ?_
  refine i_const (3) dX12_isSymbol_11 ?_
  refine i_icmpne dX12_isSymbol_12 (tgt := 32) (by decide) (by unfold in32; omega) ⟨by decide, by decide⟩ (fun c12 => ?_) (fun c12 => ?_)
  · refine i_const (0) dX12_isSymbol_32 ?_
    refine r_ireturn rfl (b2_nar false) dX12_isSymbol_33 ?_
    have e : decide ((tokAt T p).1 = 2) = false := decide_eq_false (fun z => c12 (by rw [z]; rfl))
    rw [e]
    exact ⟨rfl, rfl⟩
  · have hlt : (tokAt T p).2.1 < (tokAt T p).2.2 := hbb.2.2.2.2.1 (by rcases tkM_3 hx c12 with z | z <;> omega)
    have hby := hb (tokAt T p).2.1 (by omega)
    refine r_aload_n dX12_isSymbol_15 0 rfl ?_
    refine m_g_bu (v := a.2.2.2.2.2.2.1) hM rfl kf_X12_31 dX12_isSymbol_16 ?_
    refine r_aload_n dX12_isSymbol_19 0 rfl ?_
    refine m_g_bg (v := ((tokAt T p).2.1 : Int)) hM hT.2.2.2.1 kf_X12_291 dX12_isSymbol_20 ?_
    refine m_ld (v := iI (T.getD ((tokAt T p).2.1) 0)) ((tokAt T p).2.1) rfl (hg ((tokAt T p).2.1) (by omega)) hA dX12_isSymbol_23 (by omega) (by decide) ?_
    refine r_iload_n dX12_isSymbol_24 1 rfl ?_
    refine i_icmpne dX12_isSymbol_25 (tgt := 32) (by decide) (by unfold in32; omega) ⟨by decide, by decide⟩ (fun c25 => ?_) (fun c25 => ?_)
    · refine i_const (0) dX12_isSymbol_32 ?_
      refine r_ireturn rfl (b2_nar false) dX12_isSymbol_33 ?_
      have e : decide ((tokAt T p).1 = 2) = false := semi_f c12 hx c25
      rw [e]
      exact ⟨rfl, rfl⟩
    · refine i_const (1) dX12_isSymbol_28 ?_
      refine r_goto dX12_isSymbol_29 (tgt := 33) (by decide) ?_
      refine r_ireturn rfl (b2_nar true) dX12_isSymbol_33 ?_
      have e : decide ((tokAt T p).1 = 2) = true := semi_t c12 hx c25
      rw [e]
      exact ⟨rfl, rfl⟩
set_option maxRecDepth 20000 in
set_option maxHeartbeats 1000000 in
theorem c_X12_isSymbol_e {G : xG} {h : xH} {m : Nat} {a : MA} {r : MR} (hM : MO G h m a r) {T : List Int} {p : Nat} {e o : Int} (hT : TS r T p e o) {c : Int} (he : e ≠ 0) (hei : in32 e) : CC G MX12_isSymbol [.ref m, .int (iI c)] h (qI (b2 false) h) := by
  show RR G MX12_isSymbol 0 [(0, .ref m), (1, .int (iI c))] [] h (xm_R MX12_isSymbol).cells (xm_R MX12_isSymbol).slots (qI (b2 false) h)
  refine r_aload_n dX12_isSymbol_0 0 rfl ?_
  refine m_g_er (v := e) hM hT.2.2.2.2.2.1 kf_X12_303 dX12_isSymbol_1 ?_
  refine i_ifne dX12_isSymbol_4 (tgt := 32) (by decide) (by first | assumption | (unfold in32; omega)) (fun _ => ?_) (fun c => absurd c (by omega))
  refine i_const (0) dX12_isSymbol_32 ?_
  refine r_ireturn rfl (b2_nar false) dX12_isSymbol_33 ?_
  exact ⟨rfl, rfl⟩
set_option maxRecDepth 20000 in
set_option maxHeartbeats 1000000 in
theorem c_X12_isWord_k {G : xG} {h : xH} {m : Nat} {a : MA} {r : MR} (hM : MO G h m a r) {T : List Int} {p : Nat} {o : Int} (hT : TS r T p 0 o) {gi : Nat → Int32} (hA : AR G h a.2.2.2.2.2.2.1 500 gi) (hl5 : T.length ≤ 500) (hg : ∀ k, k < T.length → gi k = iI (T.getD k 0)) (hb : BYT T) (hGS : GS G) {q : Nat} {tx : List Int} (hX : STR G q tx) : CC G MX12_isWord [.ref m, .ref q] h (qI (b2 (isW T (tokAt T p) tx)) h) := by
  obtain ⟨w9, hQ, -⟩ := hX.1
  have htl := hX.2.1
  have hb9 := hX.2.2
  have hbb := hT.b
  have hx := hbb.1
  have htk := tkM_b T hT.2.1
  have L : (tokAt T p).1 = 0 → (tokAt T p).2.2 - (tokAt T p).2.1 = tx.length → ∀ k, k ≤ tx.length → (∀ j, j < k → T.getD ((tokAt T p).2.1 + j) 0 = tx.getD j 0) → RR G MX12_isWord 39 [(0, .ref m), (1, .ref q), (2, .int (iI 1)), (3, .int (iI ((k : Int))))] [] h (xm_R MX12_isWord).cells (xm_R MX12_isWord).slots (qI (b2 (isW T (tokAt T p) tx)) h) := by
    intro hk0 hlen
    refine down (fun k hk9 ih => ?_)
    intro hj
    refine r_iload_n dX12_isWord_39 2 rfl ?_
    refine i_ifeq dX12_isWord_40 (tgt := 82) (by decide) ⟨by decide, by decide⟩ (fun c => absurd c (by decide)) (fun _ => ?_)
    refine r_iload_n dX12_isWord_43 3 rfl ?_
    refine r_aload_n dX12_isWord_44 1 rfl ?_
    refine p_callV (As := []) (b := q) (rest := [.int (iI ((k : Int)))]) (w := (some (.int (iI ((tx.length : Int)))))) (st' := [.int (iI ((tx.length : Int))), .int (iI ((k : Int)))]) kv_X12_isWord_315 dX12_isWord_45 rfl rfl (Nat.le_of_ble_eq_true rfl) (Nat.le_of_ble_eq_true rfl) (x_rvc hQ) rfl rfl (c_J0_length_8abf5 hGS hX) rfl (fun h11 e11 => ?_)
    rw [show h11 = h from e11]
    refine i_icmpge dX12_isWord_48 (tgt := 82) (by decide) (by unfold in32; omega) (by unfold in32; omega) (fun c48 => ?_) (fun c48 => ?_)
    · refine r_iload_n dX12_isWord_82 2 rfl ?_
      refine r_ireturn rfl (b2_nar true) dX12_isWord_83 ?_
      have e9 : isW T (tokAt T p) tx = true := by
        unfold isW
        rw [decide_eq_true hk0, decide_eq_true hlen, decide_eq_true (fun j hj9 => hj j (by omega))]; rfl
      rw [e9]
      exact ⟨rfl, rfl⟩
    · have hbi := hb ((tokAt T p).2.1 + k) (by omega)
      have hbt := hb9 k (by omega)
      refine r_aload_n dX12_isWord_51 1 rfl ?_
      refine r_iload_n dX12_isWord_52 3 rfl ?_
      refine p_callV (As := [.int (iI ((k : Int)))]) (b := q) (rest := []) (w := (some (.int (iI (tx.getD k 0))))) (st' := [.int (iI (tx.getD k 0))]) kv_X12_isWord_318 dX12_isWord_53 rfl rfl (Nat.le_of_ble_eq_true rfl) (Nat.le_of_ble_eq_true rfl) (x_rvc hQ) rfl rfl (c_J0_charAt_5068e hGS hX (i := k) (by omega)) rfl (fun h12 e12 => ?_)
      rw [show h12 = h from e12]
      refine r_aload_n dX12_isWord_56 0 rfl ?_
      refine m_g_bu (v := a.2.2.2.2.2.2.1) hM rfl kf_X12_31 dX12_isWord_57 ?_
      refine r_aload_n dX12_isWord_60 0 rfl ?_
      refine m_g_bg (v := ((tokAt T p).2.1 : Int)) hM hT.2.2.2.1 kf_X12_291 dX12_isWord_61 ?_
      refine r_iload_n dX12_isWord_64 3 rfl ?_
      refine i_add dX12_isWord_65 ?_
      refine m_ld (v := iI (T.getD ((tokAt T p).2.1 + k) 0)) ((tokAt T p).2.1 + k) (by omega) (hg ((tokAt T p).2.1 + k) (by omega)) hA dX12_isWord_66 (by omega) (by decide) ?_
      refine i_icmpne dX12_isWord_67 (tgt := 74) (by decide) (by unfold in32; omega) (by unfold in32; omega) (fun c67 => ?_) (fun c67 => ?_)
      · refine i_const (0) dX12_isWord_74 ?_
        refine r_istore_n (ls' := [(0, .ref m), (1, .ref q), (2, .int (iI 0)), (3, .int (iI ((k : Int))))]) dX12_isWord_75 (by decide) rfl ?_
        refine i_iinc (ls' := [(0, .ref m), (1, .ref q), (2, .int (iI 0)), (3, .int (iI ((k : Int) + 1)))]) (1) (v := (k : Int) + 1) dX12_isWord_76 3 rfl (by omega) (by decide) rfl ?_
        refine r_goto dX12_isWord_79 (tgt := 39) (by decide) ?_
        refine r_iload_n dX12_isWord_39 2 rfl ?_
        refine i_ifeq dX12_isWord_40 (tgt := 82) (by decide) ⟨by decide, by decide⟩ (fun _ => ?_) (fun c => absurd c (by decide))
        refine r_iload_n dX12_isWord_82 2 rfl ?_
        refine r_ireturn rfl (b2_nar false) dX12_isWord_83 ?_
        have e9 : isW T (tokAt T p) tx = false := by
          unfold isW
          rw [decide_eq_false (p := ∀ k, k < tx.length → T.getD ((tokAt T p).2.1 + k) 0 = tx.getD k 0) (fun z => c67 (z k (by omega)).symm)]; simp
        rw [e9]
        exact ⟨rfl, rfl⟩
      · refine i_const (1) dX12_isWord_70 ?_
        refine r_goto dX12_isWord_71 (tgt := 75) (by decide) ?_
        refine r_istore_n (ls' := [(0, .ref m), (1, .ref q), (2, .int (iI 1)), (3, .int (iI ((k : Int))))]) dX12_isWord_75 (by decide) rfl ?_
        refine i_iinc (ls' := [(0, .ref m), (1, .ref q), (2, .int (iI 1)), (3, .int (iI ((k : Int) + 1)))]) (1) (v := (k : Int) + 1) dX12_isWord_76 3 rfl (by omega) (by decide) rfl ?_
        refine r_goto dX12_isWord_79 (tgt := 39) (by decide) ?_
        exact ih (k + 1) (by omega) (by omega) (fun j hj9 => (Decidable.em (j = k)).elim (fun z => by rw [z]; exact c67.symm) (fun z => hj j (by omega)))
  show RR G MX12_isWord 0 [(0, .ref m), (1, .ref q)] [] h (xm_R MX12_isWord).cells (xm_R MX12_isWord).slots (qI (b2 (isW T (tokAt T p) tx)) h)
  refine r_aload_n dX12_isWord_0 0 rfl ?_
  refine m_g_er (v := 0) hM hT.2.2.2.2.2.1 kf_X12_303 dX12_isWord_1 ?_
  refine i_ifne dX12_isWord_4 (tgt := 35) (by decide) ⟨by decide, by decide⟩ (fun c => absurd c (by decide)) (fun _ => ?_)
  refine r_aload_n dX12_isWord_7 0 rfl ?_
  refine m_g_tk (v := tkM (tokAt T p).1) hM hT.2.2.2.2.1 kf_X12_294 dX12_isWord_8 ?_
  refine i_const (1) dX12_isWord_11 ?_
  refine i_icmpne dX12_isWord_12 (tgt := 35) (by decide) (by unfold in32; omega) ⟨by decide, by decide⟩ (fun c12 => ?_) (fun c12 => ?_)
  · refine i_const (0) dX12_isWord_35 ?_
    refine r_istore_n (ls' := [(0, .ref m), (1, .ref q), (2, .int (iI 0))]) dX12_isWord_36 (by decide) rfl ?_
    refine i_const (0) dX12_isWord_37 ?_
    refine r_istore_n (ls' := [(0, .ref m), (1, .ref q), (2, .int (iI 0)), (3, .int (iI 0))]) dX12_isWord_38 (by decide) rfl ?_
    refine r_iload_n dX12_isWord_39 2 rfl ?_
    refine i_ifeq dX12_isWord_40 (tgt := 82) (by decide) ⟨by decide, by decide⟩ (fun _ => ?_) (fun c => absurd c (by decide))
    refine r_iload_n dX12_isWord_82 2 rfl ?_
    refine r_ireturn rfl (b2_nar false) dX12_isWord_83 ?_
    have e9 : isW T (tokAt T p) tx = false := by
      unfold isW
      rw [decide_eq_false (show ¬ (tokAt T p).1 = 0 from fun z => c12 (by rw [z]; rfl))]; rfl
    rw [e9]
    exact ⟨rfl, rfl⟩
  · refine r_aload_n dX12_isWord_15 1 rfl ?_
    refine p_callV (As := []) (b := q) (rest := []) (w := (some (.int (iI ((tx.length : Int)))))) (st' := [.int (iI ((tx.length : Int)))]) kv_X12_isWord_315 dX12_isWord_16 rfl rfl (Nat.le_of_ble_eq_true rfl) (Nat.le_of_ble_eq_true rfl) (x_rvc hQ) rfl rfl (c_J0_length_8abf5 hGS hX) rfl (fun h41 e41 => ?_)
    rw [show h41 = h from e41]
    refine r_aload_n dX12_isWord_19 0 rfl ?_
    refine m_g_nx (v := ((tokAt T p).2.2 : Int)) hM hT.2.2.1 kf_X12_288 dX12_isWord_20 ?_
    refine r_aload_n dX12_isWord_23 0 rfl ?_
    refine m_g_bg (v := ((tokAt T p).2.1 : Int)) hM hT.2.2.2.1 kf_X12_291 dX12_isWord_24 ?_
    refine i_sub dX12_isWord_27 ?_
    refine i_icmpne dX12_isWord_28 (tgt := 35) (by decide) (by unfold in32; omega) (by unfold in32; omega) (fun c28 => ?_) (fun c28 => ?_)
    · refine i_const (0) dX12_isWord_35 ?_
      refine r_istore_n (ls' := [(0, .ref m), (1, .ref q), (2, .int (iI 0))]) dX12_isWord_36 (by decide) rfl ?_
      refine i_const (0) dX12_isWord_37 ?_
      refine r_istore_n (ls' := [(0, .ref m), (1, .ref q), (2, .int (iI 0)), (3, .int (iI 0))]) dX12_isWord_38 (by decide) rfl ?_
      refine r_iload_n dX12_isWord_39 2 rfl ?_
      refine i_ifeq dX12_isWord_40 (tgt := 82) (by decide) ⟨by decide, by decide⟩ (fun _ => ?_) (fun c => absurd c (by decide))
      refine r_iload_n dX12_isWord_82 2 rfl ?_
      refine r_ireturn rfl (b2_nar false) dX12_isWord_83 ?_
      have e9 : isW T (tokAt T p) tx = false := by
        unfold isW
        rw [decide_eq_false (p := (tokAt T p).2.2 - (tokAt T p).2.1 = tx.length) (by omega)]; simp
      rw [e9]
      exact ⟨rfl, rfl⟩
    · refine i_const (1) dX12_isWord_31 ?_
      refine r_goto dX12_isWord_32 (tgt := 36) (by decide) ?_
      refine r_istore_n (ls' := [(0, .ref m), (1, .ref q), (2, .int (iI 1))]) dX12_isWord_36 (by decide) rfl ?_
      refine i_const (0) dX12_isWord_37 ?_
      refine r_istore_n (ls' := [(0, .ref m), (1, .ref q), (2, .int (iI 1)), (3, .int (iI 0))]) dX12_isWord_38 (by decide) rfl ?_
      exact L (tkM_1 hx c12) (by omega) 0 (by omega) (fun j hj => absurd hj (Nat.not_lt_zero j))
set_option maxRecDepth 20000 in
set_option maxHeartbeats 1000000 in
theorem c_X12_isWord_e {G : xG} {h : xH} {m : Nat} {a : MA} {r : MR} (hM : MO G h m a r) {T : List Int} {p : Nat} {e o : Int} (hT : TS r T p e o) {q : Nat} (he : e ≠ 0) (hei : in32 e) : CC G MX12_isWord [.ref m, .ref q] h (qI (b2 false) h) := by
  show RR G MX12_isWord 0 [(0, .ref m), (1, .ref q)] [] h (xm_R MX12_isWord).cells (xm_R MX12_isWord).slots (qI (b2 false) h)
  refine r_aload_n dX12_isWord_0 0 rfl ?_
  refine m_g_er (v := e) hM hT.2.2.2.2.2.1 kf_X12_303 dX12_isWord_1 ?_
  refine i_ifne dX12_isWord_4 (tgt := 35) (by decide) (by first | assumption | (unfold in32; omega)) (fun _ => ?_) (fun c => absurd c (by omega))
  refine i_const (0) dX12_isWord_35 ?_
  refine r_istore_n (ls' := [(0, .ref m), (1, .ref q), (2, .int (iI 0))]) dX12_isWord_36 (by decide) rfl ?_
  refine i_const (0) dX12_isWord_37 ?_
  refine r_istore_n (ls' := [(0, .ref m), (1, .ref q), (2, .int (iI 0)), (3, .int (iI 0))]) dX12_isWord_38 (by decide) rfl ?_
  refine r_iload_n dX12_isWord_39 2 rfl ?_
  refine i_ifeq dX12_isWord_40 (tgt := 82) (by decide) ⟨by decide, by decide⟩ (fun _ => ?_) (fun c => absurd c (by decide))
  refine r_iload_n dX12_isWord_82 2 rfl ?_
  refine r_ireturn rfl (b2_nar false) dX12_isWord_83 ?_
  exact ⟨rfl, rfl⟩
