/-! ===== the reference: orders ===== -/
def RO (r r' : MR) : Prop := r'.1 = r.1 ∧ r'.2.1 = r.2.1 ∧ r'.2.2.2.1 = r.2.2.2.1 ∧ r'.2.2.2.2.2.2.2.2.1 = r.2.2.2.2.2.2.2.2.1 ∧ r'.2.2.2.2.2.2.2.2.2.1 = r.2.2.2.2.2.2.2.2.2.1 ∧ r'.2.2.2.2.2.2.2.2.2.2.1 = r.2.2.2.2.2.2.2.2.2.2.1 ∧ r'.2.2.2.2.2.2.2.2.2.2.2.2.2.2.2.2.2.1 = r.2.2.2.2.2.2.2.2.2.2.2.2.2.2.2.2.2.1 ∧ r'.2.2.1 = r.2.2.1
theorem RO.tr {r r' r'' : MR} (x : RO r r') (y : RO r' r'') : RO r r'' := ⟨y.1.trans x.1, y.2.1.trans x.2.1, y.2.2.1.trans x.2.2.1, y.2.2.2.1.trans x.2.2.2.1, y.2.2.2.2.1.trans x.2.2.2.2.1, y.2.2.2.2.2.1.trans x.2.2.2.2.2.1, y.2.2.2.2.2.2.1.trans x.2.2.2.2.2.2.1, y.2.2.2.2.2.2.2.trans x.2.2.2.2.2.2.2⟩
theorem RT.ro {r r' : MR} (x : RT r r') : RO r r' := ⟨x.1.1, x.1.2.1, x.1.2.2.1, x.1.2.2.2.1, x.1.2.2.2.2.1, x.1.2.2.2.2.2.1, x.1.2.2.2.2.2.2.1, x.2.1⟩
theorem ro_oc (r : MR) (v : Int) : RO r (r_oc r v) := ⟨rfl, rfl, rfl, rfl, rfl, rfl, rfl, rfl⟩
theorem RO.rf {r : MR} : RO r r := ⟨rfl, rfl, rfl, rfl, rfl, rfl, rfl, rfl⟩
theorem ts_oc {r : MR} {T : List Int} {p : Nat} {e o : Int} (h : TS r T p e o) (v : Int) : TS (r_oc r v) T p e o := h
def CMok (c : CM) : Prop := c.1 < 9 ∧ (cLo c.1 ≤ c.2.1 ∧ c.2.1 ≤ cHi c.1) ∧ (c.1 ≤ 1 → 2 ≤ c.2.2 ∧ c.2.2 ≤ 4) ∧ (0 ≤ c.2.2 ∧ c.2.2 ≤ 5)
theorem sSec_b {T : List Int} {k p q : Nat} {v : Int} (hk : k < 9) (h : sSec T k p = .inr (v, q)) : (k ≤ 1 → 2 ≤ v ∧ v ≤ 4) ∧ (0 ≤ v ∧ v ≤ 5) := by
  rcases k9 hk with e | e | e | e | e | e | e | e | e <;> subst e
  · have h : sNum T p 2 4 = .inr (v, q) := h
    have := sNum_t h
    exact ⟨fun _ => by omega, by omega⟩
  · have h : sNum T p 2 4 = .inr (v, q) := h
    have := sNum_t h
    exact ⟨fun _ => by omega, by omega⟩
  · have h : (Sum.inr (0, p) : PR Int) = .inr (v, q) := h
    cases h; exact ⟨fun z => absurd z (by decide), by decide, by decide⟩
  · have h : (Sum.inr (0, p) : PR Int) = .inr (v, q) := h
    cases h; exact ⟨fun z => absurd z (by decide), by decide, by decide⟩
  · have h : (Sum.inr (0, p) : PR Int) = .inr (v, q) := h
    cases h; exact ⟨fun z => absurd z (by decide), by decide, by decide⟩
  · have h : (Sum.inr (0, p) : PR Int) = .inr (v, q) := h
    cases h; exact ⟨fun z => absurd z (by decide), by decide, by decide⟩
  · have h : (Sum.inr (0, p) : PR Int) = .inr (v, q) := h
    cases h; exact ⟨fun z => absurd z (by decide), by decide, by decide⟩
  · have h : (Sum.inr (0, p) : PR Int) = .inr (v, q) := h
    cases h; exact ⟨fun z => absurd z (by decide), by decide, by decide⟩
  · have h : sNum T p 0 5 = .inr (v, q) := h
    have := sNum_t h
    exact ⟨fun z => absurd z (by decide), by omega⟩
theorem sCmd_inv {T : List Int} {p q : Nat} {c : CM} (h : sCmd T p = .inr (c, q)) : ∃ x q1 y q2, c = ((fndC T p).toNat, x, y) ∧ 0 ≤ fndC T p ∧ fndC T p < 9 ∧ sNum T (tokAt T p).2.2 (cLo (fndC T p).toNat) (cHi (fndC T p).toNat) = .inr (x, q1) ∧ sSec T (fndC T p).toNat q1 = .inr (y, q2) ∧ sSemi T q2 = .inr ((), q) := by
  have hb := fndC_b T p
  unfold sCmd at h
  split at h
  · cases h
  · split at h
    · cases h
    · rename_i a ha
      split at h
      · cases h
      · rename_i b hb2
        split at h
        · cases h
        · rename_i c9 hc
          cases h
          exact ⟨_, _, _, _, rfl, by omega, by omega, ha, hb2, hc⟩
theorem sCmd_ok {T : List Int} {p q : Nat} {c : CM} (h : sCmd T p = .inr (c, q)) : CMok c := by
  obtain ⟨x, q1, y, q2, rfl, h0, h9, h1, h2, h3⟩ := sCmd_inv h
  have z := sNum_t h1
  have w := sSec_b (k := (fndC T p).toNat) (by omega) h2
  exact ⟨by show (fndC T p).toNat < 9; omega, ⟨z.1, z.2.1⟩, w.1, w.2⟩
theorem sCmd_bad {T : List Int} {p : Nat} {c off : Int} (h : sCmd T p = .inl (c, off)) : (fndC T p = -1 ∧ c = 1 ∧ off = ((tokAt T p).2.1 : Int)) ∨ (∃ k : Nat, fndC T p = (k : Int) ∧ k < 9 ∧ (sNum T (tokAt T p).2.2 (cLo k) (cHi k) = .inl (c, off) ∨ (∃ x q1, sNum T (tokAt T p).2.2 (cLo k) (cHi k) = .inr (x, q1) ∧ (sSec T k q1 = .inl (c, off) ∨ ∃ y q2, sSec T k q1 = .inr (y, q2) ∧ sSemi T q2 = .inl (c, off))))) := by
  have hb := fndC_b T p
  unfold sCmd at h
  split at h
  · left
    have h : (Sum.inl (1, ((tokAt T p).2.1 : Int)) : PR CM) = .inl (c, off) := h
    cases h
    exact ⟨by omega, rfl, rfl⟩
  · right
    refine ⟨(fndC T p).toNat, by omega, by omega, ?_⟩
    split at h
    · rename_i e he
      cases h
      exact Or.inl he
    · rename_i a ha
      refine Or.inr ⟨a.1, a.2, ha, ?_⟩
      split at h
      · rename_i e he
        cases h
        exact Or.inl he
      · rename_i b hb2
        refine Or.inr ⟨b.1, b.2, hb2, ?_⟩
        split at h
        · rename_i e he
          cases h
          exact he
        · cases h
set_option maxRecDepth 20000 in
set_option maxHeartbeats 1000000 in
theorem c_X12_orderHere_k {G : xG} {h : xH} {m : Nat} {a : MA} {r : MR} (hM : MO G h m a r) {T : List Int} {p : Nat} {o : Int} (hT : TS r T p 0 o) {gi : Nat → Int32} (hA : AR G h a.2.2.2.2.2.2.1 500 gi) (hl5 : T.length ≤ 500) (hg : ∀ k, k < T.length → gi k = iI (T.getD k 0)) (hb : BYT T) {sa : Nat → Nat} (hGT : GT G sa) (hO : OWS G h a.2.2.2.2.2.2.2.2 sa) : CC G MX12_orderHere [.ref m] h (qI (fndC T p) h) := by
  obtain ⟨ow1, gw, ow2, ow3⟩ := hO
  have L : ∀ k : Nat, k ≤ 9 → fndF T p (9 - k) k = fndC T p → RR G MX12_orderHere 2 [(0, .ref m), (1, .int (iI ((k : Int))))] [] h (xm_R MX12_orderHere).cells (xm_R MX12_orderHere).slots (qI (fndC T p) h) := by
    refine down (fun k hk ih => ?_)
    intro hf
    refine r_iload_n dX12_orderHere_2 1 rfl ?_
    refine r_aload_n dX12_orderHere_3 0 rfl ?_
    refine m_g_ow (v := a.2.2.2.2.2.2.2.2) hM rfl kf_X12_61 dX12_orderHere_4 ?_
    refine r_alen (t := 7) (v := iI 9) rfl dX12_orderHere_7 ow1 ow2 (by decide) ?_
    refine i_icmpge dX12_orderHere_8 (tgt := 32) (by decide) (by unfold in32; omega) ⟨by decide, by decide⟩ (fun c8 => ?_) (fun c8 => ?_)
    · refine i_const (-1) dX12_orderHere_32 ?_
      refine r_ireturn rfl rfl dX12_orderHere_33 ?_
      have e : fndC T p = -1 := by rw [← hf, show 9 - k = 0 by omega]; rfl
      rw [e]
      exact ⟨rfl, rfl⟩
    · refine r_aload_n dX12_orderHere_11 0 rfl ?_
      refine r_aload_n dX12_orderHere_12 0 rfl ?_
      refine m_g_ow (v := a.2.2.2.2.2.2.2.2) hM rfl kf_X12_61 dX12_orderHere_13 ?_
      refine r_iload_n dX12_orderHere_16 1 rfl ?_
      refine i_aald rfl k rfl dX12_orderHere_17 ow1 ow2 (by omega) (by decide) (ow3 k (by omega)) ?_
      refine p_callV (As := [.ref ((sa (4 + k)))]) (b := m) (rest := []) (w := (some (.int (iI (b2 (isW T (tokAt T p) (txS (4 + k)))))))) (st' := [.int (iI (b2 (isW T (tokAt T p) (txS (4 + k)))))]) kv_X12_orderHere_322 dX12_orderHere_18 rfl rfl (Nat.le_of_ble_eq_true rfl) (Nat.le_of_ble_eq_true rfl) (x_rv hM.1 hM.2 rfl) rfl rfl (c_X12_isWord_k hM hT hA hl5 hg hb hGT.1 (hGT.2.1 (4 + k) (by omega))) rfl (fun h11 e11 => ?_)
      rw [show h11 = h from e11]
      refine i_ifeqb dX12_orderHere_21 (tgt := 26) (by decide) (fun c21 => ?_) (fun c21 => ?_)
      · refine i_iinc (ls' := [(0, .ref m), (1, .int (iI ((k : Int) + 1)))]) (1) (v := (k : Int) + 1) dX12_orderHere_26 1 rfl (by omega) (by decide) rfl ?_
        refine r_goto dX12_orderHere_29 (tgt := 2) (by decide) ?_
        exact ih (k + 1) (by omega) (by omega) (by rw [← hf, show 9 - k = (9 - (k + 1)) + 1 by omega, fndF, if_neg (by show ¬ isW T (tokAt T p) (txS (4 + k)) = true; rw [c21]; decide)])
      · refine r_iload_n dX12_orderHere_24 1 rfl ?_
        refine r_ireturn rfl rfl dX12_orderHere_25 ?_
        have e : fndC T p = (k : Int) := by rw [← hf, show 9 - k = (9 - (k + 1)) + 1 by omega, fndF, if_pos (show cw T p k = true from c21)]
        rw [e]
        exact ⟨rfl, rfl⟩
  show RR G MX12_orderHere 0 [(0, .ref m)] [] h (xm_R MX12_orderHere).cells (xm_R MX12_orderHere).slots (qI (fndC T p) h)
  refine i_const (0) dX12_orderHere_0 ?_
  refine r_istore_n (ls' := [(0, .ref m), (1, .int (iI 0))]) dX12_orderHere_1 (by decide) rfl ?_
  exact L 0 (by omega) rfl
set_option maxRecDepth 20000 in
set_option maxHeartbeats 1000000 in
theorem c_X12_orderHere_e {G : xG} {h : xH} {m : Nat} {a : MA} {r : MR} (hM : MO G h m a r) {T : List Int} {p : Nat} {e o : Int} (hT : TS r T p e o) (he : 1 ≤ e ∧ e ≤ 3) {sa : Nat → Nat} (hGT : GT G sa) (hO : OWS G h a.2.2.2.2.2.2.2.2 sa) : CC G MX12_orderHere [.ref m] h (qI (-1) h) := by
  obtain ⟨ow1, gw, ow2, ow3⟩ := hO
  have L : ∀ k : Nat, k ≤ 9 → RR G MX12_orderHere 2 [(0, .ref m), (1, .int (iI ((k : Int))))] [] h (xm_R MX12_orderHere).cells (xm_R MX12_orderHere).slots (qI (-1) h) := by
    refine down (fun k hk ih => ?_)
    refine r_iload_n dX12_orderHere_2 1 rfl ?_
    refine r_aload_n dX12_orderHere_3 0 rfl ?_
    refine m_g_ow (v := a.2.2.2.2.2.2.2.2) hM rfl kf_X12_61 dX12_orderHere_4 ?_
    refine r_alen (t := 7) (v := iI 9) rfl dX12_orderHere_7 ow1 ow2 (by decide) ?_
    refine i_icmpge dX12_orderHere_8 (tgt := 32) (by decide) (by unfold in32; omega) ⟨by decide, by decide⟩ (fun c8 => ?_) (fun c8 => ?_)
    · refine i_const (-1) dX12_orderHere_32 ?_
      refine r_ireturn rfl rfl dX12_orderHere_33 ?_
      exact ⟨rfl, rfl⟩
    · refine r_aload_n dX12_orderHere_11 0 rfl ?_
      refine r_aload_n dX12_orderHere_12 0 rfl ?_
      refine m_g_ow (v := a.2.2.2.2.2.2.2.2) hM rfl kf_X12_61 dX12_orderHere_13 ?_
      refine r_iload_n dX12_orderHere_16 1 rfl ?_
      refine i_aald rfl k rfl dX12_orderHere_17 ow1 ow2 (by omega) (by decide) (ow3 k (by omega)) ?_
      refine p_callV (As := [.ref ((sa (4 + k)))]) (b := m) (rest := []) (w := (some (.int (iI (b2 false))))) (st' := [.int (iI (b2 false))]) kv_X12_orderHere_322 dX12_orderHere_18 rfl rfl (Nat.le_of_ble_eq_true rfl) (Nat.le_of_ble_eq_true rfl) (x_rv hM.1 hM.2 rfl) rfl rfl (c_X12_isWord_e hM hT (e13 he) (i13 he)) rfl (fun h11 e11 => ?_)
      rw [show h11 = h from e11]
      refine i_ifeqb dX12_orderHere_21 (tgt := 26) (by decide) (fun _ => ?_) (fun c => absurd c (by decide))
      refine i_iinc (ls' := [(0, .ref m), (1, .int (iI ((k : Int) + 1)))]) (1) (v := (k : Int) + 1) dX12_orderHere_26 1 rfl (by omega) (by decide) rfl ?_
      refine r_goto dX12_orderHere_29 (tgt := 2) (by decide) ?_
      exact ih (k + 1) (by omega) (by omega)
  show RR G MX12_orderHere 0 [(0, .ref m)] [] h (xm_R MX12_orderHere).cells (xm_R MX12_orderHere).slots (qI (-1) h)
  refine i_const (0) dX12_orderHere_0 ?_
  refine r_istore_n (ls' := [(0, .ref m), (1, .int (iI 0))]) dX12_orderHere_1 (by decide) rfl ?_
  exact L 0 (by omega)
theorem c_X12_orderHere_b {G : xG} {h : xH} {m : Nat} {a : MA} {r : MR} (hM : MO G h m a r) {T : List Int} {p : Nat} {o : Int} (hT : TS r T p 0 o) {gi : Nat → Int32} (hA : AR G h a.2.2.2.2.2.2.1 500 gi) (hl5 : T.length ≤ 500) (hg : ∀ k, k < T.length → gi k = iI (T.getD k 0)) (hb : BYT T) {sa : Nat → Nat} (hGT : GT G sa) (hO : OWS G h a.2.2.2.2.2.2.2.2 sa) {z : Int} (hz : fndC T p = z) : CC G MX12_orderHere [.ref m] h (qI z h) := by
  subst hz; exact c_X12_orderHere_k hM hT hA hl5 hg hb hGT hO
set_option maxRecDepth 20000 in
set_option maxHeartbeats 1000000 in
theorem c_X12_readSecond_ok {G : xG} {h : xH} {m : Nat} {a : MA} {r : MR} (hM : MO G h m a r) {T : List Int} {p : Nat} {o : Int} (hT : TS r T p 0 o) {gi : Nat → Int32} (hA : AR G h a.2.2.2.2.2.2.1 500 gi) (hl5 : T.length ≤ 500) (hg : ∀ k, k < T.length → gi k = iI (T.getD k 0)) (hb : BYT T) {k : Nat} (hk9 : k < 9) {v : Int} {q : Nat} (hs : sSec T k p = .inr (v, q)) : CC G MX12_readSecond [.ref m, .int (iI (k : Int))] h (fun o9 h' => o9 = .inl (some (.int (iI (v)))) ∧ TP G h h' m a r T q 0 o) := by
  rcases k9 hk9 with e9 | e9 | e9 | e9 | e9 | e9 | e9 | e9 | e9 <;> subst e9
  · have hs : sNum T p 2 4 = .inr (v, q) := hs
    show RR G MX12_readSecond 0 [(0, .ref m), (1, .int (iI 0))] [] h (xm_R MX12_readSecond).cells (xm_R MX12_readSecond).slots (fun o9 h' => o9 = .inl (some (.int (iI (v)))) ∧ TP G h h' m a r T q 0 o)
    refine r_iload_n dX12_readSecond_0 1 rfl ?_
    refine r_lookup dX12_readSecond_1 (by decide) (off := 35) (by decide) (tgt := 36) (by decide) ?_
    refine r_aload_n dX12_readSecond_36 0 rfl ?_
    refine i_const (2) dX12_readSecond_37 ?_
    refine i_const (4) dX12_readSecond_38 ?_
    refine p_callV (As := [.int (iI 2), .int (iI 4)]) (b := m) (rest := []) (w := (some (.int (iI v)))) (st' := [.int (iI v)]) kv_X12_readSecond_357 dX12_readSecond_39 rfl rfl (Nat.le_of_ble_eq_true rfl) (Nat.le_of_ble_eq_true rfl) (x_rv hM.1 hM.2 rfl) rfl rfl (t_X12_readNumber_ok hM hT hA hl5 hg hb ⟨by decide, by decide⟩ ⟨by decide, by decide⟩ hs) rfl (fun h1 e1 => ?_)
    obtain ⟨r1, hM1, hK1, hT1, F1⟩ := e1
    have hA1 := hA.obj hM F1
    have hQ1 := hK1
    have hZ1 := F1
    refine r_ireturn rfl rfl dX12_readSecond_42 ?_
    exact ⟨rfl, r1, hM1, hQ1, hT1, hZ1⟩
  · have hs : sNum T p 2 4 = .inr (v, q) := hs
    show RR G MX12_readSecond 0 [(0, .ref m), (1, .int (iI 1))] [] h (xm_R MX12_readSecond).cells (xm_R MX12_readSecond).slots (fun o9 h' => o9 = .inl (some (.int (iI (v)))) ∧ TP G h h' m a r T q 0 o)
    refine r_iload_n dX12_readSecond_0 1 rfl ?_
    refine r_lookup dX12_readSecond_1 (by decide) (off := 35) (by decide) (tgt := 36) (by decide) ?_
    refine r_aload_n dX12_readSecond_36 0 rfl ?_
    refine i_const (2) dX12_readSecond_37 ?_
    refine i_const (4) dX12_readSecond_38 ?_
    refine p_callV (As := [.int (iI 2), .int (iI 4)]) (b := m) (rest := []) (w := (some (.int (iI v)))) (st' := [.int (iI v)]) kv_X12_readSecond_357 dX12_readSecond_39 rfl rfl (Nat.le_of_ble_eq_true rfl) (Nat.le_of_ble_eq_true rfl) (x_rv hM.1 hM.2 rfl) rfl rfl (t_X12_readNumber_ok hM hT hA hl5 hg hb ⟨by decide, by decide⟩ ⟨by decide, by decide⟩ hs) rfl (fun h1 e1 => ?_)
    obtain ⟨r1, hM1, hK1, hT1, F1⟩ := e1
    have hA1 := hA.obj hM F1
    have hQ1 := hK1
    have hZ1 := F1
    refine r_ireturn rfl rfl dX12_readSecond_42 ?_
    exact ⟨rfl, r1, hM1, hQ1, hT1, hZ1⟩
  · have hs : (Sum.inr (0, p) : PR Int) = .inr (v, q) := hs
    cases hs
    show RR G MX12_readSecond 0 [(0, .ref m), (1, .int (iI 2))] [] h (xm_R MX12_readSecond).cells (xm_R MX12_readSecond).slots (fun o9 h' => o9 = .inl (some (.int (iI (0)))) ∧ TP G h h' m a r T p 0 o)
    refine r_iload_n dX12_readSecond_0 1 rfl ?_
    refine r_lookup dX12_readSecond_1 (by decide) (off := 49) (by decide) (tgt := 50) (by decide) ?_
    refine i_const (0) dX12_readSecond_50 ?_
    refine r_ireturn rfl rfl dX12_readSecond_51 ?_
    exact ⟨rfl, r, hM, RT.rf, hT, FRp.rf⟩
  · have hs : (Sum.inr (0, p) : PR Int) = .inr (v, q) := hs
    cases hs
    show RR G MX12_readSecond 0 [(0, .ref m), (1, .int (iI 3))] [] h (xm_R MX12_readSecond).cells (xm_R MX12_readSecond).slots (fun o9 h' => o9 = .inl (some (.int (iI (0)))) ∧ TP G h h' m a r T p 0 o)
    refine r_iload_n dX12_readSecond_0 1 rfl ?_
    refine r_lookup dX12_readSecond_1 (by decide) (off := 49) (by decide) (tgt := 50) (by decide) ?_
    refine i_const (0) dX12_readSecond_50 ?_
    refine r_ireturn rfl rfl dX12_readSecond_51 ?_
    exact ⟨rfl, r, hM, RT.rf, hT, FRp.rf⟩
  · have hs : (Sum.inr (0, p) : PR Int) = .inr (v, q) := hs
    cases hs
    show RR G MX12_readSecond 0 [(0, .ref m), (1, .int (iI 4))] [] h (xm_R MX12_readSecond).cells (xm_R MX12_readSecond).slots (fun o9 h' => o9 = .inl (some (.int (iI (0)))) ∧ TP G h h' m a r T p 0 o)
    refine r_iload_n dX12_readSecond_0 1 rfl ?_
    refine r_lookup dX12_readSecond_1 (by decide) (off := 49) (by decide) (tgt := 50) (by decide) ?_
    refine i_const (0) dX12_readSecond_50 ?_
    refine r_ireturn rfl rfl dX12_readSecond_51 ?_
    exact ⟨rfl, r, hM, RT.rf, hT, FRp.rf⟩
  · have hs : (Sum.inr (0, p) : PR Int) = .inr (v, q) := hs
    cases hs
    show RR G MX12_readSecond 0 [(0, .ref m), (1, .int (iI 5))] [] h (xm_R MX12_readSecond).cells (xm_R MX12_readSecond).slots (fun o9 h' => o9 = .inl (some (.int (iI (0)))) ∧ TP G h h' m a r T p 0 o)
    refine r_iload_n dX12_readSecond_0 1 rfl ?_
    refine r_lookup dX12_readSecond_1 (by decide) (off := 49) (by decide) (tgt := 50) (by decide) ?_
    refine i_const (0) dX12_readSecond_50 ?_
    refine r_ireturn rfl rfl dX12_readSecond_51 ?_
    exact ⟨rfl, r, hM, RT.rf, hT, FRp.rf⟩
  · have hs : (Sum.inr (0, p) : PR Int) = .inr (v, q) := hs
    cases hs
    show RR G MX12_readSecond 0 [(0, .ref m), (1, .int (iI 6))] [] h (xm_R MX12_readSecond).cells (xm_R MX12_readSecond).slots (fun o9 h' => o9 = .inl (some (.int (iI (0)))) ∧ TP G h h' m a r T p 0 o)
    refine r_iload_n dX12_readSecond_0 1 rfl ?_
    refine r_lookup dX12_readSecond_1 (by decide) (off := 49) (by decide) (tgt := 50) (by decide) ?_
    refine i_const (0) dX12_readSecond_50 ?_
    refine r_ireturn rfl rfl dX12_readSecond_51 ?_
    exact ⟨rfl, r, hM, RT.rf, hT, FRp.rf⟩
  · have hs : (Sum.inr (0, p) : PR Int) = .inr (v, q) := hs
    cases hs
    show RR G MX12_readSecond 0 [(0, .ref m), (1, .int (iI 7))] [] h (xm_R MX12_readSecond).cells (xm_R MX12_readSecond).slots (fun o9 h' => o9 = .inl (some (.int (iI (0)))) ∧ TP G h h' m a r T p 0 o)
    refine r_iload_n dX12_readSecond_0 1 rfl ?_
    refine r_lookup dX12_readSecond_1 (by decide) (off := 49) (by decide) (tgt := 50) (by decide) ?_
    refine i_const (0) dX12_readSecond_50 ?_
    refine r_ireturn rfl rfl dX12_readSecond_51 ?_
    exact ⟨rfl, r, hM, RT.rf, hT, FRp.rf⟩
  · have hs : sNum T p 0 5 = .inr (v, q) := hs
    show RR G MX12_readSecond 0 [(0, .ref m), (1, .int (iI 8))] [] h (xm_R MX12_readSecond).cells (xm_R MX12_readSecond).slots (fun o9 h' => o9 = .inl (some (.int (iI (v)))) ∧ TP G h h' m a r T q 0 o)
    refine r_iload_n dX12_readSecond_0 1 rfl ?_
    refine r_lookup dX12_readSecond_1 (by decide) (off := 42) (by decide) (tgt := 43) (by decide) ?_
    refine r_aload_n dX12_readSecond_43 0 rfl ?_
    refine i_const (0) dX12_readSecond_44 ?_
    refine i_const (5) dX12_readSecond_45 ?_
    refine p_callV (As := [.int (iI 0), .int (iI 5)]) (b := m) (rest := []) (w := (some (.int (iI v)))) (st' := [.int (iI v)]) kv_X12_readSecond_357 dX12_readSecond_46 rfl rfl (Nat.le_of_ble_eq_true rfl) (Nat.le_of_ble_eq_true rfl) (x_rv hM.1 hM.2 rfl) rfl rfl (t_X12_readNumber_ok hM hT hA hl5 hg hb ⟨by decide, by decide⟩ ⟨by decide, by decide⟩ hs) rfl (fun h1 e1 => ?_)
    obtain ⟨r1, hM1, hK1, hT1, F1⟩ := e1
    have hA1 := hA.obj hM F1
    have hQ1 := hK1
    have hZ1 := F1
    refine r_ireturn rfl rfl dX12_readSecond_49 ?_
    exact ⟨rfl, r1, hM1, hQ1, hT1, hZ1⟩
set_option maxRecDepth 20000 in
set_option maxHeartbeats 1000000 in
theorem c_X12_readSecond_bad {G : xG} {h : xH} {m : Nat} {a : MA} {r : MR} (hM : MO G h m a r) {T : List Int} {p : Nat} {o : Int} (hT : TS r T p 0 o) {gi : Nat → Int32} (hA : AR G h a.2.2.2.2.2.2.1 500 gi) (hl5 : T.length ≤ 500) (hg : ∀ k, k < T.length → gi k = iI (T.getD k 0)) (hb : BYT T) {k : Nat} (hk9 : k < 9) {c off : Int} (hs : sSec T k p = .inl (c, off)) : (1 ≤ c ∧ c ≤ 3) ∧ CC G MX12_readSecond [.ref m, .int (iI (k : Int))] h (fun o9 h' => o9 = .inl (some (.int (iI ((cLo2 k))))) ∧ TP G h h' m a r T p c off) := by
  rcases k9 hk9 with e9 | e9 | e9 | e9 | e9 | e9 | e9 | e9 | e9 <;> subst e9
  · have hs : sNum T p 2 4 = .inl (c, off) := hs
    have hbq := t_X12_readNumber_bad hM hT hA hl5 hg hb ⟨by decide, by decide⟩ ⟨by decide, by decide⟩ hs
    refine ⟨hbq.1, ?_⟩
    show RR G MX12_readSecond 0 [(0, .ref m), (1, .int (iI 0))] [] h (xm_R MX12_readSecond).cells (xm_R MX12_readSecond).slots (fun o9 h' => o9 = .inl (some (.int (iI (2)))) ∧ TP G h h' m a r T p c off)
    refine r_iload_n dX12_readSecond_0 1 rfl ?_
    refine r_lookup dX12_readSecond_1 (by decide) (off := 35) (by decide) (tgt := 36) (by decide) ?_
    refine r_aload_n dX12_readSecond_36 0 rfl ?_
    refine i_const (2) dX12_readSecond_37 ?_
    refine i_const (4) dX12_readSecond_38 ?_
    refine p_callV (As := [.int (iI 2), .int (iI 4)]) (b := m) (rest := []) (w := (some (.int (iI 2)))) (st' := [.int (iI 2)]) kv_X12_readSecond_357 dX12_readSecond_39 rfl rfl (Nat.le_of_ble_eq_true rfl) (Nat.le_of_ble_eq_true rfl) (x_rv hM.1 hM.2 rfl) rfl rfl (hbq.2) rfl (fun h1 e1 => ?_)
    obtain ⟨r1, hM1, hK1, hT1, F1⟩ := e1
    have hA1 := hA.obj hM F1
    have hQ1 := hK1
    have hZ1 := F1
    refine r_ireturn rfl rfl dX12_readSecond_42 ?_
    exact ⟨rfl, r1, hM1, hQ1, hT1, hZ1⟩
  · have hs : sNum T p 2 4 = .inl (c, off) := hs
    have hbq := t_X12_readNumber_bad hM hT hA hl5 hg hb ⟨by decide, by decide⟩ ⟨by decide, by decide⟩ hs
    refine ⟨hbq.1, ?_⟩
    show RR G MX12_readSecond 0 [(0, .ref m), (1, .int (iI 1))] [] h (xm_R MX12_readSecond).cells (xm_R MX12_readSecond).slots (fun o9 h' => o9 = .inl (some (.int (iI (2)))) ∧ TP G h h' m a r T p c off)
    refine r_iload_n dX12_readSecond_0 1 rfl ?_
    refine r_lookup dX12_readSecond_1 (by decide) (off := 35) (by decide) (tgt := 36) (by decide) ?_
    refine r_aload_n dX12_readSecond_36 0 rfl ?_
    refine i_const (2) dX12_readSecond_37 ?_
    refine i_const (4) dX12_readSecond_38 ?_
    refine p_callV (As := [.int (iI 2), .int (iI 4)]) (b := m) (rest := []) (w := (some (.int (iI 2)))) (st' := [.int (iI 2)]) kv_X12_readSecond_357 dX12_readSecond_39 rfl rfl (Nat.le_of_ble_eq_true rfl) (Nat.le_of_ble_eq_true rfl) (x_rv hM.1 hM.2 rfl) rfl rfl (hbq.2) rfl (fun h1 e1 => ?_)
    obtain ⟨r1, hM1, hK1, hT1, F1⟩ := e1
    have hA1 := hA.obj hM F1
    have hQ1 := hK1
    have hZ1 := F1
    refine r_ireturn rfl rfl dX12_readSecond_42 ?_
    exact ⟨rfl, r1, hM1, hQ1, hT1, hZ1⟩
  · have hs : (Sum.inr (0, p) : PR Int) = .inl (c, off) := hs
    cases hs
  · have hs : (Sum.inr (0, p) : PR Int) = .inl (c, off) := hs
    cases hs
  · have hs : (Sum.inr (0, p) : PR Int) = .inl (c, off) := hs
    cases hs
  · have hs : (Sum.inr (0, p) : PR Int) = .inl (c, off) := hs
    cases hs
  · have hs : (Sum.inr (0, p) : PR Int) = .inl (c, off) := hs
    cases hs
  · have hs : (Sum.inr (0, p) : PR Int) = .inl (c, off) := hs
    cases hs
  · have hs : sNum T p 0 5 = .inl (c, off) := hs
    have hbq := t_X12_readNumber_bad hM hT hA hl5 hg hb ⟨by decide, by decide⟩ ⟨by decide, by decide⟩ hs
    refine ⟨hbq.1, ?_⟩
    show RR G MX12_readSecond 0 [(0, .ref m), (1, .int (iI 8))] [] h (xm_R MX12_readSecond).cells (xm_R MX12_readSecond).slots (fun o9 h' => o9 = .inl (some (.int (iI (0)))) ∧ TP G h h' m a r T p c off)
    refine r_iload_n dX12_readSecond_0 1 rfl ?_
    refine r_lookup dX12_readSecond_1 (by decide) (off := 42) (by decide) (tgt := 43) (by decide) ?_
    refine r_aload_n dX12_readSecond_43 0 rfl ?_
    refine i_const (0) dX12_readSecond_44 ?_
    refine i_const (5) dX12_readSecond_45 ?_
    refine p_callV (As := [.int (iI 0), .int (iI 5)]) (b := m) (rest := []) (w := (some (.int (iI 0)))) (st' := [.int (iI 0)]) kv_X12_readSecond_357 dX12_readSecond_46 rfl rfl (Nat.le_of_ble_eq_true rfl) (Nat.le_of_ble_eq_true rfl) (x_rv hM.1 hM.2 rfl) rfl rfl (hbq.2) rfl (fun h1 e1 => ?_)
    obtain ⟨r1, hM1, hK1, hT1, F1⟩ := e1
    have hA1 := hA.obj hM F1
    have hQ1 := hK1
    have hZ1 := F1
    refine r_ireturn rfl rfl dX12_readSecond_49 ?_
    exact ⟨rfl, r1, hM1, hQ1, hT1, hZ1⟩
set_option maxRecDepth 20000 in
set_option maxHeartbeats 1000000 in
theorem c_X12_readSecond_e {G : xG} {h : xH} {m : Nat} {a : MA} {r : MR} (hM : MO G h m a r) {T : List Int} {p : Nat} {e o : Int} (hT : TS r T p e o) {gi : Nat → Int32} (hA : AR G h a.2.2.2.2.2.2.1 500 gi) (hl5 : T.length ≤ 500) (hg : ∀ k, k < T.length → gi k = iI (T.getD k 0)) (hb : BYT T) {k : Nat} (hk9 : k < 9) (he : 1 ≤ e ∧ e ≤ 3) : CC G MX12_readSecond [.ref m, .int (iI (k : Int))] h (fun o9 h' => o9 = .inl (some (.int (iI ((cLo2 k))))) ∧ TP G h h' m a r T p e o) := by
  rcases k9 hk9 with e9 | e9 | e9 | e9 | e9 | e9 | e9 | e9 | e9 <;> subst e9
  · show RR G MX12_readSecond 0 [(0, .ref m), (1, .int (iI 0))] [] h (xm_R MX12_readSecond).cells (xm_R MX12_readSecond).slots (fun o9 h' => o9 = .inl (some (.int (iI (2)))) ∧ TP G h h' m a r T p e o)
    refine r_iload_n dX12_readSecond_0 1 rfl ?_
    refine r_lookup dX12_readSecond_1 (by decide) (off := 35) (by decide) (tgt := 36) (by decide) ?_
    refine r_aload_n dX12_readSecond_36 0 rfl ?_
    refine i_const (2) dX12_readSecond_37 ?_
    refine i_const (4) dX12_readSecond_38 ?_
    refine p_callV (As := [.int (iI 2), .int (iI 4)]) (b := m) (rest := []) (w := (some (.int (iI 2)))) (st' := [.int (iI 2)]) kv_X12_readSecond_357 dX12_readSecond_39 rfl rfl (Nat.le_of_ble_eq_true rfl) (Nat.le_of_ble_eq_true rfl) (x_rv hM.1 hM.2 rfl) rfl rfl (c_X12_readNumber_e hM hT hA hl5 hg hb ⟨by decide, by decide⟩ ⟨by decide, by decide⟩ he) rfl (fun h1 e1 => ?_)
    obtain ⟨r1, hM1, hK1, hT1, F1⟩ := e1
    have hA1 := hA.obj hM F1
    have hQ1 := hK1
    have hZ1 := F1
    refine r_ireturn rfl rfl dX12_readSecond_42 ?_
    exact ⟨rfl, r1, hM1, hQ1, hT1, hZ1⟩
  · show RR G MX12_readSecond 0 [(0, .ref m), (1, .int (iI 1))] [] h (xm_R MX12_readSecond).cells (xm_R MX12_readSecond).slots (fun o9 h' => o9 = .inl (some (.int (iI (2)))) ∧ TP G h h' m a r T p e o)
    refine r_iload_n dX12_readSecond_0 1 rfl ?_
    refine r_lookup dX12_readSecond_1 (by decide) (off := 35) (by decide) (tgt := 36) (by decide) ?_
    refine r_aload_n dX12_readSecond_36 0 rfl ?_
    refine i_const (2) dX12_readSecond_37 ?_
    refine i_const (4) dX12_readSecond_38 ?_
    refine p_callV (As := [.int (iI 2), .int (iI 4)]) (b := m) (rest := []) (w := (some (.int (iI 2)))) (st' := [.int (iI 2)]) kv_X12_readSecond_357 dX12_readSecond_39 rfl rfl (Nat.le_of_ble_eq_true rfl) (Nat.le_of_ble_eq_true rfl) (x_rv hM.1 hM.2 rfl) rfl rfl (c_X12_readNumber_e hM hT hA hl5 hg hb ⟨by decide, by decide⟩ ⟨by decide, by decide⟩ he) rfl (fun h1 e1 => ?_)
    obtain ⟨r1, hM1, hK1, hT1, F1⟩ := e1
    have hA1 := hA.obj hM F1
    have hQ1 := hK1
    have hZ1 := F1
    refine r_ireturn rfl rfl dX12_readSecond_42 ?_
    exact ⟨rfl, r1, hM1, hQ1, hT1, hZ1⟩
  · show RR G MX12_readSecond 0 [(0, .ref m), (1, .int (iI 2))] [] h (xm_R MX12_readSecond).cells (xm_R MX12_readSecond).slots (fun o9 h' => o9 = .inl (some (.int (iI (0)))) ∧ TP G h h' m a r T p e o)
    refine r_iload_n dX12_readSecond_0 1 rfl ?_
    refine r_lookup dX12_readSecond_1 (by decide) (off := 49) (by decide) (tgt := 50) (by decide) ?_
    refine i_const (0) dX12_readSecond_50 ?_
    refine r_ireturn rfl rfl dX12_readSecond_51 ?_
    exact ⟨rfl, r, hM, RT.rf, hT, FRp.rf⟩
  · show RR G MX12_readSecond 0 [(0, .ref m), (1, .int (iI 3))] [] h (xm_R MX12_readSecond).cells (xm_R MX12_readSecond).slots (fun o9 h' => o9 = .inl (some (.int (iI (0)))) ∧ TP G h h' m a r T p e o)
    refine r_iload_n dX12_readSecond_0 1 rfl ?_
    refine r_lookup dX12_readSecond_1 (by decide) (off := 49) (by decide) (tgt := 50) (by decide) ?_
    refine i_const (0) dX12_readSecond_50 ?_
    refine r_ireturn rfl rfl dX12_readSecond_51 ?_
    exact ⟨rfl, r, hM, RT.rf, hT, FRp.rf⟩
  · show RR G MX12_readSecond 0 [(0, .ref m), (1, .int (iI 4))] [] h (xm_R MX12_readSecond).cells (xm_R MX12_readSecond).slots (fun o9 h' => o9 = .inl (some (.int (iI (0)))) ∧ TP G h h' m a r T p e o)
    refine r_iload_n dX12_readSecond_0 1 rfl ?_
    refine r_lookup dX12_readSecond_1 (by decide) (off := 49) (by decide) (tgt := 50) (by decide) ?_
    refine i_const (0) dX12_readSecond_50 ?_
    refine r_ireturn rfl rfl dX12_readSecond_51 ?_
    exact ⟨rfl, r, hM, RT.rf, hT, FRp.rf⟩
  · show RR G MX12_readSecond 0 [(0, .ref m), (1, .int (iI 5))] [] h (xm_R MX12_readSecond).cells (xm_R MX12_readSecond).slots (fun o9 h' => o9 = .inl (some (.int (iI (0)))) ∧ TP G h h' m a r T p e o)
    refine r_iload_n dX12_readSecond_0 1 rfl ?_
    refine r_lookup dX12_readSecond_1 (by decide) (off := 49) (by decide) (tgt := 50) (by decide) ?_
    refine i_const (0) dX12_readSecond_50 ?_
    refine r_ireturn rfl rfl dX12_readSecond_51 ?_
    exact ⟨rfl, r, hM, RT.rf, hT, FRp.rf⟩
  · show RR G MX12_readSecond 0 [(0, .ref m), (1, .int (iI 6))] [] h (xm_R MX12_readSecond).cells (xm_R MX12_readSecond).slots (fun o9 h' => o9 = .inl (some (.int (iI (0)))) ∧ TP G h h' m a r T p e o)
    refine r_iload_n dX12_readSecond_0 1 rfl ?_
    refine r_lookup dX12_readSecond_1 (by decide) (off := 49) (by decide) (tgt := 50) (by decide) ?_
    refine i_const (0) dX12_readSecond_50 ?_
    refine r_ireturn rfl rfl dX12_readSecond_51 ?_
    exact ⟨rfl, r, hM, RT.rf, hT, FRp.rf⟩
  · show RR G MX12_readSecond 0 [(0, .ref m), (1, .int (iI 7))] [] h (xm_R MX12_readSecond).cells (xm_R MX12_readSecond).slots (fun o9 h' => o9 = .inl (some (.int (iI (0)))) ∧ TP G h h' m a r T p e o)
    refine r_iload_n dX12_readSecond_0 1 rfl ?_
    refine r_lookup dX12_readSecond_1 (by decide) (off := 49) (by decide) (tgt := 50) (by decide) ?_
    refine i_const (0) dX12_readSecond_50 ?_
    refine r_ireturn rfl rfl dX12_readSecond_51 ?_
    exact ⟨rfl, r, hM, RT.rf, hT, FRp.rf⟩
  · show RR G MX12_readSecond 0 [(0, .ref m), (1, .int (iI 8))] [] h (xm_R MX12_readSecond).cells (xm_R MX12_readSecond).slots (fun o9 h' => o9 = .inl (some (.int (iI (0)))) ∧ TP G h h' m a r T p e o)
    refine r_iload_n dX12_readSecond_0 1 rfl ?_
    refine r_lookup dX12_readSecond_1 (by decide) (off := 42) (by decide) (tgt := 43) (by decide) ?_
    refine r_aload_n dX12_readSecond_43 0 rfl ?_
    refine i_const (0) dX12_readSecond_44 ?_
    refine i_const (5) dX12_readSecond_45 ?_
    refine p_callV (As := [.int (iI 0), .int (iI 5)]) (b := m) (rest := []) (w := (some (.int (iI 0)))) (st' := [.int (iI 0)]) kv_X12_readSecond_357 dX12_readSecond_46 rfl rfl (Nat.le_of_ble_eq_true rfl) (Nat.le_of_ble_eq_true rfl) (x_rv hM.1 hM.2 rfl) rfl rfl (c_X12_readNumber_e hM hT hA hl5 hg hb ⟨by decide, by decide⟩ ⟨by decide, by decide⟩ he) rfl (fun h1 e1 => ?_)
    obtain ⟨r1, hM1, hK1, hT1, F1⟩ := e1
    have hA1 := hA.obj hM F1
    have hQ1 := hK1
    have hZ1 := F1
    refine r_ireturn rfl rfl dX12_readSecond_49 ?_
    exact ⟨rfl, r1, hM1, hQ1, hT1, hZ1⟩
set_option maxRecDepth 20000 in
set_option maxHeartbeats 1000000 in
theorem c_X12_readOrder_b1 {G : xG} {h : xH} {m : Nat} {a : MA} {r : MR} (hM : MO G h m a r) {T : List Int} {p : Nat} {o : Int} (hT : TS r T p 0 o) {gi : Nat → Int32} (hA : AR G h a.2.2.2.2.2.2.1 500 gi) (hl5 : T.length ≤ 500) (hg : ∀ k, k < T.length → gi k = iI (T.getD k 0)) (hb : BYT T) {sa : Nat → Nat} (hGT : GT G sa) (hO : OWS G h a.2.2.2.2.2.2.2.2 sa) {gq : Nat → Int32} (hD : AR G h a.2.2.2.2.2.2.2.1 60 gq) {n : Nat} (hn20 : n ≤ 20) (hoc : r.2.2.2.2.2.2.2.2.2.2.2.2.2.2.2.2.2.2.2 = (n : Int)) (hfn : fndC T p = -1) : CC G MX12_readOrder [.ref m] h (fun o9 h' => o9 = .inl none ∧ ∃ r' g' p', MO G h' m a r' ∧ RO r r' ∧ TS r' T p' 1 ((tokAt T p).2.1 : Int) ∧ AR G h' a.2.2.2.2.2.2.2.1 60 g' ∧ FRp [m, a.2.2.2.2.2.2.2.1] h h') := by
  show RR G MX12_readOrder 0 [(0, .ref m)] [] h (xm_R MX12_readOrder).cells (xm_R MX12_readOrder).slots (fun o9 h' => o9 = .inl none ∧ ∃ r' g' p', MO G h' m a r' ∧ RO r r' ∧ TS r' T p' 1 ((tokAt T p).2.1 : Int) ∧ AR G h' a.2.2.2.2.2.2.2.1 60 g' ∧ FRp [m, a.2.2.2.2.2.2.2.1] h h')
  refine r_aload_n dX12_readOrder_0 0 rfl ?_
  refine p_callV (As := []) (b := m) (rest := []) (w := (some (.int (iI ((-1)))))) (st' := [.int (iI ((-1)))]) kv_X12_readOrder_385 dX12_readOrder_1 rfl rfl (Nat.le_of_ble_eq_true rfl) (Nat.le_of_ble_eq_true rfl) (x_rv hM.1 hM.2 rfl) rfl rfl (c_X12_orderHere_b hM hT hA hl5 hg hb hGT hO hfn) rfl (fun h1 e1 => ?_)
  rw [show h1 = h from e1]
  refine r_istore_n (ls' := [(0, .ref m), (1, .int (iI ((-1))))]) dX12_readOrder_4 (by decide) rfl ?_
  refine r_aload_n dX12_readOrder_5 0 rfl ?_
  refine r_iload_n dX12_readOrder_6 1 rfl ?_
  refine i_const (-1) dX12_readOrder_7 ?_
  refine i_icmpeq dX12_readOrder_8 (tgt := 15) (by decide) ⟨by decide, by decide⟩ ⟨by decide, by decide⟩ (fun _ => ?_) (fun c => absurd c (by decide))
  refine i_const (0) dX12_readOrder_15 ?_
  refine i_const (1) dX12_readOrder_16 ?_
  refine p_callV (As := [.int (iI 0), .int (iI 1)]) (b := m) (rest := []) (w := none) (st' := []) kv_X12_readOrder_329 dX12_readOrder_17 rfl rfl (Nat.le_of_ble_eq_true rfl) (Nat.le_of_ble_eq_true rfl) (x_rv hM.1 hM.2 rfl) rfl rfl (c_X12_check_f hM hT (c := 1) (by decide)) rfl (fun h2 e2 => ?_)
  obtain ⟨r2, hM2, hK2, hT2, F2⟩ := e2
  have hA2 := hA.obj hM F2
  have hO2 := hD.obj hM F2
  have FD2 : FRp [m, a.2.2.2.2.2.2.2.1] h h2 := FRm F2
  have hQ2 := hK2.ro
  have hC2 := hK2.2.2.trans hoc
  refine r_aload_n dX12_readOrder_20 0 rfl ?_
  refine r_aload_n dX12_readOrder_21 0 rfl ?_
  refine m_g_er (v := 1) hM2 hT2.2.2.2.2.2.1 kf_X12_303 dX12_readOrder_22 ?_
  refine i_ifne dX12_readOrder_25 (tgt := 37) (by decide) ⟨by decide, by decide⟩ (fun _ => ?_) (fun c => absurd c (by decide))
  refine i_const (1) dX12_readOrder_37 ?_
  refine r_goto dX12_readOrder_38 (tgt := 42) (by decide) ?_
  refine i_const (3) dX12_readOrder_42 ?_
  refine p_callV (As := [.int (iI 1), .int (iI 3)]) (b := m) (rest := []) (w := none) (st' := []) kv_X12_readOrder_329 dX12_readOrder_43 rfl rfl (Nat.le_of_ble_eq_true rfl) (Nat.le_of_ble_eq_true rfl) (x_rv hM2.1 hM2.2 rfl) rfl rfl (c_X12_check_e hM2 hT2 (b := true) (e13 ⟨by decide, by decide⟩) (i13 ⟨by decide, by decide⟩)) rfl (fun h3 e3 => ?_)
  obtain ⟨r3, hM3, hK3, hT3, F3⟩ := e3
  have hA3 := hA2.obj hM2 F3
  have hO3 := hO2.obj hM2 F3
  have FD3 : FRp [m, a.2.2.2.2.2.2.2.1] h h3 := FD2.tr (FRm F3)
  have hQ3 := hQ2.tr hK3.ro
  have hC3 := hK3.2.2.trans hC2
  refine r_aload_n dX12_readOrder_46 0 rfl ?_
  refine p_callV (As := []) (b := m) (rest := []) (w := none) (st' := []) kv_X12_readOrder_333 dX12_readOrder_47 rfl rfl (Nat.le_of_ble_eq_true rfl) (Nat.le_of_ble_eq_true rfl) (x_rv hM3.1 hM3.2 rfl) rfl rfl (c_X12_advance_e hM3 hT3 hA3 hl5 hg hb (e13 ⟨by decide, by decide⟩) (i13 ⟨by decide, by decide⟩)) rfl (fun h4 e4 => ?_)
  obtain ⟨r4, hM4, hK4, hT4, F4⟩ := e4
  have hA4 := hA3.obj hM3 F4
  have hO4 := hO3.obj hM3 F4
  have FD4 : FRp [m, a.2.2.2.2.2.2.2.1] h h4 := FD3.tr (FRm F4)
  have hQ4 := hQ3.tr hK4.ro
  have hC4 := hK4.2.2.trans hC3
  refine r_aload_n dX12_readOrder_50 0 rfl ?_
  refine m_g_er (v := 1) hM4 hT4.2.2.2.2.2.1 kf_X12_303 dX12_readOrder_51 ?_
  refine i_ifeq dX12_readOrder_54 (tgt := 58) (by decide) ⟨by decide, by decide⟩ (fun c => absurd c (by decide)) (fun _ => ?_)
  refine r_return rfl dX12_readOrder_57 ?_
  exact ⟨rfl, _, _, _, hM4, hQ4, hT4, hO4, FD4⟩
set_option maxRecDepth 20000 in
set_option maxHeartbeats 1000000 in
theorem c_X12_readOrder_full {G : xG} {h : xH} {m : Nat} {a : MA} {r : MR} (hM : MO G h m a r) {T : List Int} {p : Nat} {o : Int} (hT : TS r T p 0 o) {gi : Nat → Int32} (hA : AR G h a.2.2.2.2.2.2.1 500 gi) (hl5 : T.length ≤ 500) (hg : ∀ k, k < T.length → gi k = iI (T.getD k 0)) (hb : BYT T) {sa : Nat → Nat} (hGT : GT G sa) (hO : OWS G h a.2.2.2.2.2.2.2.2 sa) {gq : Nat → Int32} (hD : AR G h a.2.2.2.2.2.2.2.1 60 gq) {n : Nat} (hn20 : n ≤ 20) (hoc : r.2.2.2.2.2.2.2.2.2.2.2.2.2.2.2.2.2.2.2 = (n : Int)) {k : Nat} (hfn : fndC T p = (k : Int)) (hk9 : k < 9) (hn2 : n = 20) : CC G MX12_readOrder [.ref m] h (fun o9 h' => o9 = .inl none ∧ ∃ r' g' p', MO G h' m a r' ∧ RO r r' ∧ TS r' T p' 3 ((tokAt T p).2.1 : Int) ∧ AR G h' a.2.2.2.2.2.2.2.1 60 g' ∧ FRp [m, a.2.2.2.2.2.2.2.1] h h') := by
  show RR G MX12_readOrder 0 [(0, .ref m)] [] h (xm_R MX12_readOrder).cells (xm_R MX12_readOrder).slots (fun o9 h' => o9 = .inl none ∧ ∃ r' g' p', MO G h' m a r' ∧ RO r r' ∧ TS r' T p' 3 ((tokAt T p).2.1 : Int) ∧ AR G h' a.2.2.2.2.2.2.2.1 60 g' ∧ FRp [m, a.2.2.2.2.2.2.2.1] h h')
  refine r_aload_n dX12_readOrder_0 0 rfl ?_
  refine p_callV (As := []) (b := m) (rest := []) (w := (some (.int (iI ((k : Int)))))) (st' := [.int (iI ((k : Int)))]) kv_X12_readOrder_385 dX12_readOrder_1 rfl rfl (Nat.le_of_ble_eq_true rfl) (Nat.le_of_ble_eq_true rfl) (x_rv hM.1 hM.2 rfl) rfl rfl (c_X12_orderHere_b hM hT hA hl5 hg hb hGT hO hfn) rfl (fun h1 e1 => ?_)
  rw [show h1 = h from e1]
  refine r_istore_n (ls' := [(0, .ref m), (1, .int (iI ((k : Int))))]) dX12_readOrder_4 (by decide) rfl ?_
  refine r_aload_n dX12_readOrder_5 0 rfl ?_
  refine r_iload_n dX12_readOrder_6 1 rfl ?_
  refine i_const (-1) dX12_readOrder_7 ?_
  refine i_icmpeq dX12_readOrder_8 (tgt := 15) (by decide) (by unfold in32; omega) ⟨by decide, by decide⟩ (fun c => absurd c (by omega)) (fun _ => ?_)
  refine i_const (1) dX12_readOrder_11 ?_
  refine r_goto dX12_readOrder_12 (tgt := 16) (by decide) ?_
  refine i_const (1) dX12_readOrder_16 ?_
  refine p_callV (As := [.int (iI 1), .int (iI 1)]) (b := m) (rest := []) (w := none) (st' := []) kv_X12_readOrder_329 dX12_readOrder_17 rfl rfl (Nat.le_of_ble_eq_true rfl) (Nat.le_of_ble_eq_true rfl) (x_rv hM.1 hM.2 rfl) rfl rfl (c_X12_check_t hM hT) rfl (fun h2 e2 => ?_)
  obtain ⟨r2, hM2, hK2, hT2, F2⟩ := e2
  have hA2 := hA.obj hM F2
  have hO2 := hD.obj hM F2
  have FD2 : FRp [m, a.2.2.2.2.2.2.2.1] h h2 := FRm F2
  have hQ2 := hK2.ro
  have hC2 := hK2.2.2.trans hoc
  refine r_aload_n dX12_readOrder_20 0 rfl ?_
  refine r_aload_n dX12_readOrder_21 0 rfl ?_
  refine m_g_er (v := 0) hM2 hT2.2.2.2.2.2.1 kf_X12_303 dX12_readOrder_22 ?_
  refine i_ifne dX12_readOrder_25 (tgt := 37) (by decide) ⟨by decide, by decide⟩ (fun c => absurd c (by decide)) (fun _ => ?_)
  refine r_aload_n dX12_readOrder_28 0 rfl ?_
  refine m_g_oc (v := (n : Int)) hM2 hC2 kf_X12_388 dX12_readOrder_29 ?_
  refine i_bipush (20) (by decide) dX12_readOrder_32 ?_
  refine i_icmpge dX12_readOrder_34 (tgt := 41) (by decide) (by unfold in32; omega) ⟨by decide, by decide⟩ (fun _ => ?_) (fun c => absurd c (by omega))
  refine i_const (0) dX12_readOrder_41 ?_
  refine i_const (3) dX12_readOrder_42 ?_
  refine p_callV (As := [.int (iI 0), .int (iI 3)]) (b := m) (rest := []) (w := none) (st' := []) kv_X12_readOrder_329 dX12_readOrder_43 rfl rfl (Nat.le_of_ble_eq_true rfl) (Nat.le_of_ble_eq_true rfl) (x_rv hM2.1 hM2.2 rfl) rfl rfl (c_X12_check_f hM2 hT2 (c := 3) (by decide)) rfl (fun h3 e3 => ?_)
  obtain ⟨r3, hM3, hK3, hT3, F3⟩ := e3
  have hA3 := hA2.obj hM2 F3
  have hO3 := hO2.obj hM2 F3
  have FD3 : FRp [m, a.2.2.2.2.2.2.2.1] h h3 := FD2.tr (FRm F3)
  have hQ3 := hQ2.tr hK3.ro
  have hC3 := hK3.2.2.trans hC2
  refine r_aload_n dX12_readOrder_46 0 rfl ?_
  refine p_callV (As := []) (b := m) (rest := []) (w := none) (st' := []) kv_X12_readOrder_333 dX12_readOrder_47 rfl rfl (Nat.le_of_ble_eq_true rfl) (Nat.le_of_ble_eq_true rfl) (x_rv hM3.1 hM3.2 rfl) rfl rfl (c_X12_advance_e hM3 hT3 hA3 hl5 hg hb (e13 ⟨by decide, by decide⟩) (i13 ⟨by decide, by decide⟩)) rfl (fun h4 e4 => ?_)
  obtain ⟨r4, hM4, hK4, hT4, F4⟩ := e4
  have hA4 := hA3.obj hM3 F4
  have hO4 := hO3.obj hM3 F4
  have FD4 : FRp [m, a.2.2.2.2.2.2.2.1] h h4 := FD3.tr (FRm F4)
  have hQ4 := hQ3.tr hK4.ro
  have hC4 := hK4.2.2.trans hC3
  refine r_aload_n dX12_readOrder_50 0 rfl ?_
  refine m_g_er (v := 3) hM4 hT4.2.2.2.2.2.1 kf_X12_303 dX12_readOrder_51 ?_
  refine i_ifeq dX12_readOrder_54 (tgt := 58) (by decide) ⟨by decide, by decide⟩ (fun c => absurd c (by decide)) (fun _ => ?_)
  refine r_return rfl dX12_readOrder_57 ?_
  exact ⟨rfl, _, _, _, hM4, hQ4, hT4, hO4, FD4⟩
set_option maxRecDepth 20000 in
set_option maxHeartbeats 1000000 in
theorem c_X12_readOrder_n {G : xG} {h : xH} {m : Nat} {a : MA} {r : MR} (hM : MO G h m a r) {T : List Int} {p : Nat} {o : Int} (hT : TS r T p 0 o) {gi : Nat → Int32} (hA : AR G h a.2.2.2.2.2.2.1 500 gi) (hl5 : T.length ≤ 500) (hg : ∀ k, k < T.length → gi k = iI (T.getD k 0)) (hb : BYT T) {sa : Nat → Nat} (hGT : GT G sa) (hO : OWS G h a.2.2.2.2.2.2.2.2 sa) {gq : Nat → Int32} (hD : AR G h a.2.2.2.2.2.2.2.1 60 gq) {n : Nat} (hn20 : n ≤ 20) (hoc : r.2.2.2.2.2.2.2.2.2.2.2.2.2.2.2.2.2.2.2 = (n : Int)) {k : Nat} (hfn : fndC T p = (k : Int)) (hk9 : k < 9) (hn2 : n < 20) {c off : Int} (hsn : sNum T (tokAt T p).2.2 (cLo k) (cHi k) = .inl (c, off)) : CC G MX12_readOrder [.ref m] h (fun o9 h' => o9 = .inl none ∧ ∃ r' g' p', MO G h' m a r' ∧ RO r r' ∧ TS r' T p' c off ∧ AR G h' a.2.2.2.2.2.2.2.1 60 g' ∧ FRp [m, a.2.2.2.2.2.2.2.1] h h') := by
  show RR G MX12_readOrder 0 [(0, .ref m)] [] h (xm_R MX12_readOrder).cells (xm_R MX12_readOrder).slots (fun o9 h' => o9 = .inl none ∧ ∃ r' g' p', MO G h' m a r' ∧ RO r r' ∧ TS r' T p' c off ∧ AR G h' a.2.2.2.2.2.2.2.1 60 g' ∧ FRp [m, a.2.2.2.2.2.2.2.1] h h')
  by_cases hk6 : k = 6
  · have hs6 : sNum T (tokAt T p).2.2 1 24 = .inl (c, off) := by rw [hk6] at hsn; exact hsn
    refine r_aload_n dX12_readOrder_0 0 rfl ?_
    refine p_callV (As := []) (b := m) (rest := []) (w := (some (.int (iI ((k : Int)))))) (st' := [.int (iI ((k : Int)))]) kv_X12_readOrder_385 dX12_readOrder_1 rfl rfl (Nat.le_of_ble_eq_true rfl) (Nat.le_of_ble_eq_true rfl) (x_rv hM.1 hM.2 rfl) rfl rfl (c_X12_orderHere_b hM hT hA hl5 hg hb hGT hO hfn) rfl (fun h1 e1 => ?_)
    rw [show h1 = h from e1]
    refine r_istore_n (ls' := [(0, .ref m), (1, .int (iI ((k : Int))))]) dX12_readOrder_4 (by decide) rfl ?_
    refine r_aload_n dX12_readOrder_5 0 rfl ?_
    refine r_iload_n dX12_readOrder_6 1 rfl ?_
    refine i_const (-1) dX12_readOrder_7 ?_
    refine i_icmpeq dX12_readOrder_8 (tgt := 15) (by decide) (by unfold in32; omega) ⟨by decide, by decide⟩ (fun c => absurd c (by omega)) (fun _ => ?_)
    refine i_const (1) dX12_readOrder_11 ?_
    refine r_goto dX12_readOrder_12 (tgt := 16) (by decide) ?_
    refine i_const (1) dX12_readOrder_16 ?_
    refine p_callV (As := [.int (iI 1), .int (iI 1)]) (b := m) (rest := []) (w := none) (st' := []) kv_X12_readOrder_329 dX12_readOrder_17 rfl rfl (Nat.le_of_ble_eq_true rfl) (Nat.le_of_ble_eq_true rfl) (x_rv hM.1 hM.2 rfl) rfl rfl (c_X12_check_t hM hT) rfl (fun h2 e2 => ?_)
    obtain ⟨r2, hM2, hK2, hT2, F2⟩ := e2
    have hA2 := hA.obj hM F2
    have hO2 := hD.obj hM F2
    have FD2 : FRp [m, a.2.2.2.2.2.2.2.1] h h2 := FRm F2
    have hQ2 := hK2.ro
    have hC2 := hK2.2.2.trans hoc
    refine r_aload_n dX12_readOrder_20 0 rfl ?_
    refine r_aload_n dX12_readOrder_21 0 rfl ?_
    refine m_g_er (v := 0) hM2 hT2.2.2.2.2.2.1 kf_X12_303 dX12_readOrder_22 ?_
    refine i_ifne dX12_readOrder_25 (tgt := 37) (by decide) ⟨by decide, by decide⟩ (fun c => absurd c (by decide)) (fun _ => ?_)
    refine r_aload_n dX12_readOrder_28 0 rfl ?_
    refine m_g_oc (v := (n : Int)) hM2 hC2 kf_X12_388 dX12_readOrder_29 ?_
    refine i_bipush (20) (by decide) dX12_readOrder_32 ?_
    refine i_icmpge dX12_readOrder_34 (tgt := 41) (by decide) (by unfold in32; omega) ⟨by decide, by decide⟩ (fun c => absurd c (by omega)) (fun _ => ?_)
    refine i_const (1) dX12_readOrder_37 ?_
    refine r_goto dX12_readOrder_38 (tgt := 42) (by decide) ?_
    refine i_const (3) dX12_readOrder_42 ?_
    refine p_callV (As := [.int (iI 1), .int (iI 3)]) (b := m) (rest := []) (w := none) (st' := []) kv_X12_readOrder_329 dX12_readOrder_43 rfl rfl (Nat.le_of_ble_eq_true rfl) (Nat.le_of_ble_eq_true rfl) (x_rv hM2.1 hM2.2 rfl) rfl rfl (c_X12_check_t hM2 hT2) rfl (fun h3 e3 => ?_)
    obtain ⟨r3, hM3, hK3, hT3, F3⟩ := e3
    have hA3 := hA2.obj hM2 F3
    have hO3 := hO2.obj hM2 F3
    have FD3 : FRp [m, a.2.2.2.2.2.2.2.1] h h3 := FD2.tr (FRm F3)
    have hQ3 := hQ2.tr hK3.ro
    have hC3 := hK3.2.2.trans hC2
    refine r_aload_n dX12_readOrder_46 0 rfl ?_
    refine p_callV (As := []) (b := m) (rest := []) (w := none) (st' := []) kv_X12_readOrder_333 dX12_readOrder_47 rfl rfl (Nat.le_of_ble_eq_true rfl) (Nat.le_of_ble_eq_true rfl) (x_rv hM3.1 hM3.2 rfl) rfl rfl (c_X12_advance_k hM3 hT3 hA3 hl5 hg hb) rfl (fun h4 e4 => ?_)
    obtain ⟨r4, hM4, hK4, hT4, F4⟩ := e4
    have hA4 := hA3.obj hM3 F4
    have hO4 := hO3.obj hM3 F4
    have FD4 : FRp [m, a.2.2.2.2.2.2.2.1] h h4 := FD3.tr (FRm F4)
    have hQ4 := hQ3.tr hK4.ro
    have hC4 := hK4.2.2.trans hC3
    refine r_aload_n dX12_readOrder_50 0 rfl ?_
    refine m_g_er (v := 0) hM4 hT4.2.2.2.2.2.1 kf_X12_303 dX12_readOrder_51 ?_
    refine i_ifeq dX12_readOrder_54 (tgt := 58) (by decide) ⟨by decide, by decide⟩ (fun _ => ?_) (fun c => absurd c (by decide))
    refine i_const (3) dX12_readOrder_58 ?_
    refine r_aload_n dX12_readOrder_59 0 rfl ?_
    refine m_g_oc (v := (n : Int)) hM4 hC4 kf_X12_388 dX12_readOrder_60 ?_
    refine i_mul dX12_readOrder_63 ?_
    refine r_istore_n (ls' := [(0, .ref m), (1, .int (iI ((k : Int)))), (2, .int (iI (3 * (n : Int))))]) dX12_readOrder_64 (by decide) rfl ?_
    refine r_aload_n dX12_readOrder_65 0 rfl ?_
    refine m_g_od (v := a.2.2.2.2.2.2.2.1) hM4 rfl kf_X12_38 dX12_readOrder_66 ?_
    refine r_iload_n dX12_readOrder_69 2 rfl ?_
    refine r_iload_n dX12_readOrder_70 1 rfl ?_
    refine m_st (3 * n) (by omega) hO4 dX12_readOrder_71 (by omega) (by decide) (fun h5 hO5 F5 => ?_)
    have hM5 := hM4.row hO4 F5
    have hA5 := hA4.fr F5 (nm1 (ne_sz hA4.2 hO4.2 (by decide)))
    have FD5 : FRp [m, a.2.2.2.2.2.2.2.1] h h5 := FD4.tr (FRr F5)
    refine r_aload_n dX12_readOrder_72 0 rfl ?_
    refine m_g_od (v := a.2.2.2.2.2.2.2.1) hM5 rfl kf_X12_38 dX12_readOrder_73 ?_
    refine r_iload_n dX12_readOrder_76 2 rfl ?_
    refine i_const (1) dX12_readOrder_77 ?_
    refine i_add dX12_readOrder_78 ?_
    refine r_iload_n dX12_readOrder_79 1 rfl ?_
    refine i_bipush (6) (by decide) dX12_readOrder_80 ?_
    refine i_icmpne dX12_readOrder_82 (tgt := 95) (by decide) (by unfold in32; omega) ⟨by decide, by decide⟩ (fun c => absurd c (by omega)) (fun _ => ?_)
    refine r_aload_n dX12_readOrder_85 0 rfl ?_
    refine i_const (1) dX12_readOrder_86 ?_
    refine i_bipush (24) (by decide) dX12_readOrder_87 ?_
    have hbn89 := t_X12_readNumber_bad hM5 hT4 hA5 hl5 hg hb ⟨by decide, by decide⟩ ⟨by decide, by decide⟩ hs6
    refine p_callV (As := [.int (iI 1), .int (iI 24)]) (b := m) (rest := [.int (iI ((3 * (n : Int)) + 1)), .ref a.2.2.2.2.2.2.2.1]) (w := (some (.int (iI 1)))) (st' := [.int (iI 1), .int (iI ((3 * (n : Int)) + 1)), .ref a.2.2.2.2.2.2.2.1]) kv_X12_readOrder_357 dX12_readOrder_89 rfl rfl (Nat.le_of_ble_eq_true rfl) (Nat.le_of_ble_eq_true rfl) (x_rv hM5.1 hM5.2 rfl) rfl rfl (hbn89.2) rfl (fun h6 e6 => ?_)
    obtain ⟨r6, hM6, hK6, hT6, F6⟩ := e6
    have hA6 := hA5.obj hM5 F6
    have hO6 := hO5.obj hM5 F6
    have FD6 : FRp [m, a.2.2.2.2.2.2.2.1] h h6 := FD5.tr (FRm F6)
    have hQ6 := hQ4.tr hK6.ro
    have hC6 := hK6.2.2.trans hC4
    refine r_goto dX12_readOrder_92 (tgt := 101) (by decide) ?_
    refine m_st (3 * n + 1) (by omega) hO6 dX12_readOrder_101 (by omega) (by decide) (fun h7 hO7 F7 => ?_)
    have hM7 := hM6.row hO6 F7
    have hA7 := hA6.fr F7 (nm1 (ne_sz hA6.2 hO6.2 (by decide)))
    have FD7 : FRp [m, a.2.2.2.2.2.2.2.1] h h7 := FD6.tr (FRr F7)
    refine r_aload_n dX12_readOrder_102 0 rfl ?_
    refine m_g_od (v := a.2.2.2.2.2.2.2.1) hM7 rfl kf_X12_38 dX12_readOrder_103 ?_
    refine r_iload_n dX12_readOrder_106 2 rfl ?_
    refine i_const (2) dX12_readOrder_107 ?_
    refine i_add dX12_readOrder_108 ?_
    refine r_aload_n dX12_readOrder_109 0 rfl ?_
    refine r_iload_n dX12_readOrder_110 1 rfl ?_
    refine p_callV (As := [.int (iI ((k : Int)))]) (b := m) (rest := [.int (iI ((3 * (n : Int)) + 2)), .ref a.2.2.2.2.2.2.2.1]) (w := (some (.int (iI (cLo2 k))))) (st' := [.int (iI (cLo2 k)), .int (iI ((3 * (n : Int)) + 2)), .ref a.2.2.2.2.2.2.2.1]) kv_X12_readOrder_391 dX12_readOrder_111 rfl rfl (Nat.le_of_ble_eq_true rfl) (Nat.le_of_ble_eq_true rfl) (x_rv hM7.1 hM7.2 rfl) rfl rfl (c_X12_readSecond_e hM7 hT6 hA7 hl5 hg hb hk9 hbn89.1) rfl (fun h8 e8 => ?_)
    obtain ⟨r8, hM8, hK8, hT8, F8⟩ := e8
    have hA8 := hA7.obj hM7 F8
    have hO8 := hO7.obj hM7 F8
    have FD8 : FRp [m, a.2.2.2.2.2.2.2.1] h h8 := FD7.tr (FRm F8)
    have hQ8 := hQ6.tr hK8.ro
    have hC8 := hK8.2.2.trans hC6
    refine m_st (3 * n + 2) (by omega) hO8 dX12_readOrder_114 (by omega) (by decide) (fun h9 hO9 F9 => ?_)
    have hM9 := hM8.row hO8 F9
    have hA9 := hA8.fr F9 (nm1 (ne_sz hA8.2 hO8.2 (by decide)))
    have FD9 : FRp [m, a.2.2.2.2.2.2.2.1] h h9 := FD8.tr (FRr F9)
    refine r_aload_n dX12_readOrder_115 0 rfl ?_
    refine i_bipush (59) (by decide) dX12_readOrder_116 ?_
    refine p_callV (As := [.int (iI 59)]) (b := m) (rest := []) (w := none) (st' := []) kv_X12_readOrder_365 dX12_readOrder_118 rfl rfl (Nat.le_of_ble_eq_true rfl) (Nat.le_of_ble_eq_true rfl) (x_rv hM9.1 hM9.2 rfl) rfl rfl (c_X12_expect_e hM9 hT8 hA9 hl5 hg hb hbn89.1) rfl (fun h10 e10 => ?_)
    obtain ⟨r10, hM10, hK10, hT10, F10⟩ := e10
    have hA10 := hA9.obj hM9 F10
    have hO10 := hO9.obj hM9 F10
    have FD10 : FRp [m, a.2.2.2.2.2.2.2.1] h h10 := FD9.tr (FRm F10)
    have hQ10 := hQ8.tr hK10.ro
    have hC10 := hK10.2.2.trans hC8
    refine r_aload_n dX12_readOrder_121 0 rfl ?_
    refine r_dup dX12_readOrder_122 rfl ?_
    refine m_g_oc (v := (n : Int)) hM10 hC10 kf_X12_388 dX12_readOrder_123 ?_
    refine i_const (1) dX12_readOrder_126 ?_
    refine i_add dX12_readOrder_127 ?_
    refine m_p_oc (v := (n : Int) + 1) hM10 kf_X12_388 dX12_readOrder_128 (fun h11 hM11 F11 => ?_)
    have hA11 := hA10.obj hM10 F11
    have hO11 := hO10.obj hM10 F11
    have FD11 : FRp [m, a.2.2.2.2.2.2.2.1] h h11 := FD10.tr (FRm F11)
    have hT11 := ts_oc hT10 ((n : Int) + 1)
    have hQ11 := hQ10.tr (ro_oc _ ((n : Int) + 1))
    refine r_return rfl dX12_readOrder_131 ?_
    exact ⟨rfl, _, _, _, hM11, hQ11, hT11, hO11, FD11⟩
  · have hs6 : sNum T (tokAt T p).2.2 0 5 = .inl (c, off) := by rw [show cLo k = 0 from if_neg hk6, show cHi k = 5 from if_neg hk6] at hsn; exact hsn
    refine r_aload_n dX12_readOrder_0 0 rfl ?_
    refine p_callV (As := []) (b := m) (rest := []) (w := (some (.int (iI ((k : Int)))))) (st' := [.int (iI ((k : Int)))]) kv_X12_readOrder_385 dX12_readOrder_1 rfl rfl (Nat.le_of_ble_eq_true rfl) (Nat.le_of_ble_eq_true rfl) (x_rv hM.1 hM.2 rfl) rfl rfl (c_X12_orderHere_b hM hT hA hl5 hg hb hGT hO hfn) rfl (fun h1 e1 => ?_)
    rw [show h1 = h from e1]
    refine r_istore_n (ls' := [(0, .ref m), (1, .int (iI ((k : Int))))]) dX12_readOrder_4 (by decide) rfl ?_
    refine r_aload_n dX12_readOrder_5 0 rfl ?_
    refine r_iload_n dX12_readOrder_6 1 rfl ?_
    refine i_const (-1) dX12_readOrder_7 ?_
    refine i_icmpeq dX12_readOrder_8 (tgt := 15) (by decide) (by unfold in32; omega) ⟨by decide, by decide⟩ (fun c => absurd c (by omega)) (fun _ => ?_)
    refine i_const (1) dX12_readOrder_11 ?_
    refine r_goto dX12_readOrder_12 (tgt := 16) (by decide) ?_
    refine i_const (1) dX12_readOrder_16 ?_
    refine p_callV (As := [.int (iI 1), .int (iI 1)]) (b := m) (rest := []) (w := none) (st' := []) kv_X12_readOrder_329 dX12_readOrder_17 rfl rfl (Nat.le_of_ble_eq_true rfl) (Nat.le_of_ble_eq_true rfl) (x_rv hM.1 hM.2 rfl) rfl rfl (c_X12_check_t hM hT) rfl (fun h2 e2 => ?_)
    obtain ⟨r2, hM2, hK2, hT2, F2⟩ := e2
    have hA2 := hA.obj hM F2
    have hO2 := hD.obj hM F2
    have FD2 : FRp [m, a.2.2.2.2.2.2.2.1] h h2 := FRm F2
    have hQ2 := hK2.ro
    have hC2 := hK2.2.2.trans hoc
    refine r_aload_n dX12_readOrder_20 0 rfl ?_
    refine r_aload_n dX12_readOrder_21 0 rfl ?_
    refine m_g_er (v := 0) hM2 hT2.2.2.2.2.2.1 kf_X12_303 dX12_readOrder_22 ?_
    refine i_ifne dX12_readOrder_25 (tgt := 37) (by decide) ⟨by decide, by decide⟩ (fun c => absurd c (by decide)) (fun _ => ?_)
    refine r_aload_n dX12_readOrder_28 0 rfl ?_
    refine m_g_oc (v := (n : Int)) hM2 hC2 kf_X12_388 dX12_readOrder_29 ?_
    refine i_bipush (20) (by decide) dX12_readOrder_32 ?_
    refine i_icmpge dX12_readOrder_34 (tgt := 41) (by decide) (by unfold in32; omega) ⟨by decide, by decide⟩ (fun c => absurd c (by omega)) (fun _ => ?_)
    refine i_const (1) dX12_readOrder_37 ?_
    refine r_goto dX12_readOrder_38 (tgt := 42) (by decide) ?_
    refine i_const (3) dX12_readOrder_42 ?_
    refine p_callV (As := [.int (iI 1), .int (iI 3)]) (b := m) (rest := []) (w := none) (st' := []) kv_X12_readOrder_329 dX12_readOrder_43 rfl rfl (Nat.le_of_ble_eq_true rfl) (Nat.le_of_ble_eq_true rfl) (x_rv hM2.1 hM2.2 rfl) rfl rfl (c_X12_check_t hM2 hT2) rfl (fun h3 e3 => ?_)
    obtain ⟨r3, hM3, hK3, hT3, F3⟩ := e3
    have hA3 := hA2.obj hM2 F3
    have hO3 := hO2.obj hM2 F3
    have FD3 : FRp [m, a.2.2.2.2.2.2.2.1] h h3 := FD2.tr (FRm F3)
    have hQ3 := hQ2.tr hK3.ro
    have hC3 := hK3.2.2.trans hC2
    refine r_aload_n dX12_readOrder_46 0 rfl ?_
    refine p_callV (As := []) (b := m) (rest := []) (w := none) (st' := []) kv_X12_readOrder_333 dX12_readOrder_47 rfl rfl (Nat.le_of_ble_eq_true rfl) (Nat.le_of_ble_eq_true rfl) (x_rv hM3.1 hM3.2 rfl) rfl rfl (c_X12_advance_k hM3 hT3 hA3 hl5 hg hb) rfl (fun h4 e4 => ?_)
    obtain ⟨r4, hM4, hK4, hT4, F4⟩ := e4
    have hA4 := hA3.obj hM3 F4
    have hO4 := hO3.obj hM3 F4
    have FD4 : FRp [m, a.2.2.2.2.2.2.2.1] h h4 := FD3.tr (FRm F4)
    have hQ4 := hQ3.tr hK4.ro
    have hC4 := hK4.2.2.trans hC3
    refine r_aload_n dX12_readOrder_50 0 rfl ?_
    refine m_g_er (v := 0) hM4 hT4.2.2.2.2.2.1 kf_X12_303 dX12_readOrder_51 ?_
    refine i_ifeq dX12_readOrder_54 (tgt := 58) (by decide) ⟨by decide, by decide⟩ (fun _ => ?_) (fun c => absurd c (by decide))
    refine i_const (3) dX12_readOrder_58 ?_
    refine r_aload_n dX12_readOrder_59 0 rfl ?_
    refine m_g_oc (v := (n : Int)) hM4 hC4 kf_X12_388 dX12_readOrder_60 ?_
    refine i_mul dX12_readOrder_63 ?_
    refine r_istore_n (ls' := [(0, .ref m), (1, .int (iI ((k : Int)))), (2, .int (iI (3 * (n : Int))))]) dX12_readOrder_64 (by decide) rfl ?_
    refine r_aload_n dX12_readOrder_65 0 rfl ?_
    refine m_g_od (v := a.2.2.2.2.2.2.2.1) hM4 rfl kf_X12_38 dX12_readOrder_66 ?_
    refine r_iload_n dX12_readOrder_69 2 rfl ?_
    refine r_iload_n dX12_readOrder_70 1 rfl ?_
    refine m_st (3 * n) (by omega) hO4 dX12_readOrder_71 (by omega) (by decide) (fun h5 hO5 F5 => ?_)
    have hM5 := hM4.row hO4 F5
    have hA5 := hA4.fr F5 (nm1 (ne_sz hA4.2 hO4.2 (by decide)))
    have FD5 : FRp [m, a.2.2.2.2.2.2.2.1] h h5 := FD4.tr (FRr F5)
    refine r_aload_n dX12_readOrder_72 0 rfl ?_
    refine m_g_od (v := a.2.2.2.2.2.2.2.1) hM5 rfl kf_X12_38 dX12_readOrder_73 ?_
    refine r_iload_n dX12_readOrder_76 2 rfl ?_
    refine i_const (1) dX12_readOrder_77 ?_
    refine i_add dX12_readOrder_78 ?_
    refine r_iload_n dX12_readOrder_79 1 rfl ?_
    refine i_bipush (6) (by decide) dX12_readOrder_80 ?_
    refine i_icmpne dX12_readOrder_82 (tgt := 95) (by decide) (by unfold in32; omega) ⟨by decide, by decide⟩ (fun _ => ?_) (fun c => absurd c (by omega))
    refine r_aload_n dX12_readOrder_95 0 rfl ?_
    refine i_const (0) dX12_readOrder_96 ?_
    refine i_const (5) dX12_readOrder_97 ?_
    have hbn98 := t_X12_readNumber_bad hM5 hT4 hA5 hl5 hg hb ⟨by decide, by decide⟩ ⟨by decide, by decide⟩ hs6
    refine p_callV (As := [.int (iI 0), .int (iI 5)]) (b := m) (rest := [.int (iI ((3 * (n : Int)) + 1)), .ref a.2.2.2.2.2.2.2.1]) (w := (some (.int (iI 0)))) (st' := [.int (iI 0), .int (iI ((3 * (n : Int)) + 1)), .ref a.2.2.2.2.2.2.2.1]) kv_X12_readOrder_357 dX12_readOrder_98 rfl rfl (Nat.le_of_ble_eq_true rfl) (Nat.le_of_ble_eq_true rfl) (x_rv hM5.1 hM5.2 rfl) rfl rfl (hbn98.2) rfl (fun h6 e6 => ?_)
    obtain ⟨r6, hM6, hK6, hT6, F6⟩ := e6
    have hA6 := hA5.obj hM5 F6
    have hO6 := hO5.obj hM5 F6
    have FD6 : FRp [m, a.2.2.2.2.2.2.2.1] h h6 := FD5.tr (FRm F6)
    have hQ6 := hQ4.tr hK6.ro
    have hC6 := hK6.2.2.trans hC4
    refine m_st (3 * n + 1) (by omega) hO6 dX12_readOrder_101 (by omega) (by decide) (fun h7 hO7 F7 => ?_)
    have hM7 := hM6.row hO6 F7
    have hA7 := hA6.fr F7 (nm1 (ne_sz hA6.2 hO6.2 (by decide)))
    have FD7 : FRp [m, a.2.2.2.2.2.2.2.1] h h7 := FD6.tr (FRr F7)
    refine r_aload_n dX12_readOrder_102 0 rfl ?_
    refine m_g_od (v := a.2.2.2.2.2.2.2.1) hM7 rfl kf_X12_38 dX12_readOrder_103 ?_
    refine r_iload_n dX12_readOrder_106 2 rfl ?_
    refine i_const (2) dX12_readOrder_107 ?_
    refine i_add dX12_readOrder_108 ?_
    refine r_aload_n dX12_readOrder_109 0 rfl ?_
    refine r_iload_n dX12_readOrder_110 1 rfl ?_
    refine p_callV (As := [.int (iI ((k : Int)))]) (b := m) (rest := [.int (iI ((3 * (n : Int)) + 2)), .ref a.2.2.2.2.2.2.2.1]) (w := (some (.int (iI (cLo2 k))))) (st' := [.int (iI (cLo2 k)), .int (iI ((3 * (n : Int)) + 2)), .ref a.2.2.2.2.2.2.2.1]) kv_X12_readOrder_391 dX12_readOrder_111 rfl rfl (Nat.le_of_ble_eq_true rfl) (Nat.le_of_ble_eq_true rfl) (x_rv hM7.1 hM7.2 rfl) rfl rfl (c_X12_readSecond_e hM7 hT6 hA7 hl5 hg hb hk9 hbn98.1) rfl (fun h8 e8 => ?_)
    obtain ⟨r8, hM8, hK8, hT8, F8⟩ := e8
    have hA8 := hA7.obj hM7 F8
    have hO8 := hO7.obj hM7 F8
    have FD8 : FRp [m, a.2.2.2.2.2.2.2.1] h h8 := FD7.tr (FRm F8)
    have hQ8 := hQ6.tr hK8.ro
    have hC8 := hK8.2.2.trans hC6
    refine m_st (3 * n + 2) (by omega) hO8 dX12_readOrder_114 (by omega) (by decide) (fun h9 hO9 F9 => ?_)
    have hM9 := hM8.row hO8 F9
    have hA9 := hA8.fr F9 (nm1 (ne_sz hA8.2 hO8.2 (by decide)))
    have FD9 : FRp [m, a.2.2.2.2.2.2.2.1] h h9 := FD8.tr (FRr F9)
    refine r_aload_n dX12_readOrder_115 0 rfl ?_
    refine i_bipush (59) (by decide) dX12_readOrder_116 ?_
    refine p_callV (As := [.int (iI 59)]) (b := m) (rest := []) (w := none) (st' := []) kv_X12_readOrder_365 dX12_readOrder_118 rfl rfl (Nat.le_of_ble_eq_true rfl) (Nat.le_of_ble_eq_true rfl) (x_rv hM9.1 hM9.2 rfl) rfl rfl (c_X12_expect_e hM9 hT8 hA9 hl5 hg hb hbn98.1) rfl (fun h10 e10 => ?_)
    obtain ⟨r10, hM10, hK10, hT10, F10⟩ := e10
    have hA10 := hA9.obj hM9 F10
    have hO10 := hO9.obj hM9 F10
    have FD10 : FRp [m, a.2.2.2.2.2.2.2.1] h h10 := FD9.tr (FRm F10)
    have hQ10 := hQ8.tr hK10.ro
    have hC10 := hK10.2.2.trans hC8
    refine r_aload_n dX12_readOrder_121 0 rfl ?_
    refine r_dup dX12_readOrder_122 rfl ?_
    refine m_g_oc (v := (n : Int)) hM10 hC10 kf_X12_388 dX12_readOrder_123 ?_
    refine i_const (1) dX12_readOrder_126 ?_
    refine i_add dX12_readOrder_127 ?_
    refine m_p_oc (v := (n : Int) + 1) hM10 kf_X12_388 dX12_readOrder_128 (fun h11 hM11 F11 => ?_)
    have hA11 := hA10.obj hM10 F11
    have hO11 := hO10.obj hM10 F11
    have FD11 : FRp [m, a.2.2.2.2.2.2.2.1] h h11 := FD10.tr (FRm F11)
    have hT11 := ts_oc hT10 ((n : Int) + 1)
    have hQ11 := hQ10.tr (ro_oc _ ((n : Int) + 1))
    refine r_return rfl dX12_readOrder_131 ?_
    exact ⟨rfl, _, _, _, hM11, hQ11, hT11, hO11, FD11⟩
set_option maxRecDepth 20000 in
set_option maxHeartbeats 1000000 in
theorem c_X12_readOrder_s {G : xG} {h : xH} {m : Nat} {a : MA} {r : MR} (hM : MO G h m a r) {T : List Int} {p : Nat} {o : Int} (hT : TS r T p 0 o) {gi : Nat → Int32} (hA : AR G h a.2.2.2.2.2.2.1 500 gi) (hl5 : T.length ≤ 500) (hg : ∀ k, k < T.length → gi k = iI (T.getD k 0)) (hb : BYT T) {sa : Nat → Nat} (hGT : GT G sa) (hO : OWS G h a.2.2.2.2.2.2.2.2 sa) {gq : Nat → Int32} (hD : AR G h a.2.2.2.2.2.2.2.1 60 gq) {n : Nat} (hn20 : n ≤ 20) (hoc : r.2.2.2.2.2.2.2.2.2.2.2.2.2.2.2.2.2.2.2 = (n : Int)) {k : Nat} (hfn : fndC T p = (k : Int)) (hk9 : k < 9) (hn2 : n < 20) {x : Int} {q1 : Nat} (hsn : sNum T (tokAt T p).2.2 (cLo k) (cHi k) = .inr (x, q1)) {c off : Int} (hss : sSec T k q1 = .inl (c, off)) : CC G MX12_readOrder [.ref m] h (fun o9 h' => o9 = .inl none ∧ ∃ r' g' p', MO G h' m a r' ∧ RO r r' ∧ TS r' T p' c off ∧ AR G h' a.2.2.2.2.2.2.2.1 60 g' ∧ FRp [m, a.2.2.2.2.2.2.2.1] h h') := by
  show RR G MX12_readOrder 0 [(0, .ref m)] [] h (xm_R MX12_readOrder).cells (xm_R MX12_readOrder).slots (fun o9 h' => o9 = .inl none ∧ ∃ r' g' p', MO G h' m a r' ∧ RO r r' ∧ TS r' T p' c off ∧ AR G h' a.2.2.2.2.2.2.2.1 60 g' ∧ FRp [m, a.2.2.2.2.2.2.2.1] h h')
  by_cases hk6 : k = 6
  · have hs6 : sNum T (tokAt T p).2.2 1 24 = .inr (x, q1) := by rw [hk6] at hsn; exact hsn
    refine r_aload_n dX12_readOrder_0 0 rfl ?_
    refine p_callV (As := []) (b := m) (rest := []) (w := (some (.int (iI ((k : Int)))))) (st' := [.int (iI ((k : Int)))]) kv_X12_readOrder_385 dX12_readOrder_1 rfl rfl (Nat.le_of_ble_eq_true rfl) (Nat.le_of_ble_eq_true rfl) (x_rv hM.1 hM.2 rfl) rfl rfl (c_X12_orderHere_b hM hT hA hl5 hg hb hGT hO hfn) rfl (fun h1 e1 => ?_)
    rw [show h1 = h from e1]
    refine r_istore_n (ls' := [(0, .ref m), (1, .int (iI ((k : Int))))]) dX12_readOrder_4 (by decide) rfl ?_
    refine r_aload_n dX12_readOrder_5 0 rfl ?_
    refine r_iload_n dX12_readOrder_6 1 rfl ?_
    refine i_const (-1) dX12_readOrder_7 ?_
    refine i_icmpeq dX12_readOrder_8 (tgt := 15) (by decide) (by unfold in32; omega) ⟨by decide, by decide⟩ (fun c => absurd c (by omega)) (fun _ => ?_)
    refine i_const (1) dX12_readOrder_11 ?_
    refine r_goto dX12_readOrder_12 (tgt := 16) (by decide) ?_
    refine i_const (1) dX12_readOrder_16 ?_
    refine p_callV (As := [.int (iI 1), .int (iI 1)]) (b := m) (rest := []) (w := none) (st' := []) kv_X12_readOrder_329 dX12_readOrder_17 rfl rfl (Nat.le_of_ble_eq_true rfl) (Nat.le_of_ble_eq_true rfl) (x_rv hM.1 hM.2 rfl) rfl rfl (c_X12_check_t hM hT) rfl (fun h2 e2 => ?_)
    obtain ⟨r2, hM2, hK2, hT2, F2⟩ := e2
    have hA2 := hA.obj hM F2
    have hO2 := hD.obj hM F2
    have FD2 : FRp [m, a.2.2.2.2.2.2.2.1] h h2 := FRm F2
    have hQ2 := hK2.ro
    have hC2 := hK2.2.2.trans hoc
    refine r_aload_n dX12_readOrder_20 0 rfl ?_
    refine r_aload_n dX12_readOrder_21 0 rfl ?_
    refine m_g_er (v := 0) hM2 hT2.2.2.2.2.2.1 kf_X12_303 dX12_readOrder_22 ?_
    refine i_ifne dX12_readOrder_25 (tgt := 37) (by decide) ⟨by decide, by decide⟩ (fun c => absurd c (by decide)) (fun _ => ?_)
    refine r_aload_n dX12_readOrder_28 0 rfl ?_
    refine m_g_oc (v := (n : Int)) hM2 hC2 kf_X12_388 dX12_readOrder_29 ?_
    refine i_bipush (20) (by decide) dX12_readOrder_32 ?_
    refine i_icmpge dX12_readOrder_34 (tgt := 41) (by decide) (by unfold in32; omega) ⟨by decide, by decide⟩ (fun c => absurd c (by omega)) (fun _ => ?_)
    refine i_const (1) dX12_readOrder_37 ?_
    refine r_goto dX12_readOrder_38 (tgt := 42) (by decide) ?_
    refine i_const (3) dX12_readOrder_42 ?_
    refine p_callV (As := [.int (iI 1), .int (iI 3)]) (b := m) (rest := []) (w := none) (st' := []) kv_X12_readOrder_329 dX12_readOrder_43 rfl rfl (Nat.le_of_ble_eq_true rfl) (Nat.le_of_ble_eq_true rfl) (x_rv hM2.1 hM2.2 rfl) rfl rfl (c_X12_check_t hM2 hT2) rfl (fun h3 e3 => ?_)
    obtain ⟨r3, hM3, hK3, hT3, F3⟩ := e3
    have hA3 := hA2.obj hM2 F3
    have hO3 := hO2.obj hM2 F3
    have FD3 : FRp [m, a.2.2.2.2.2.2.2.1] h h3 := FD2.tr (FRm F3)
    have hQ3 := hQ2.tr hK3.ro
    have hC3 := hK3.2.2.trans hC2
    refine r_aload_n dX12_readOrder_46 0 rfl ?_
    refine p_callV (As := []) (b := m) (rest := []) (w := none) (st' := []) kv_X12_readOrder_333 dX12_readOrder_47 rfl rfl (Nat.le_of_ble_eq_true rfl) (Nat.le_of_ble_eq_true rfl) (x_rv hM3.1 hM3.2 rfl) rfl rfl (c_X12_advance_k hM3 hT3 hA3 hl5 hg hb) rfl (fun h4 e4 => ?_)
    obtain ⟨r4, hM4, hK4, hT4, F4⟩ := e4
    have hA4 := hA3.obj hM3 F4
    have hO4 := hO3.obj hM3 F4
    have FD4 : FRp [m, a.2.2.2.2.2.2.2.1] h h4 := FD3.tr (FRm F4)
    have hQ4 := hQ3.tr hK4.ro
    have hC4 := hK4.2.2.trans hC3
    refine r_aload_n dX12_readOrder_50 0 rfl ?_
    refine m_g_er (v := 0) hM4 hT4.2.2.2.2.2.1 kf_X12_303 dX12_readOrder_51 ?_
    refine i_ifeq dX12_readOrder_54 (tgt := 58) (by decide) ⟨by decide, by decide⟩ (fun _ => ?_) (fun c => absurd c (by decide))
    refine i_const (3) dX12_readOrder_58 ?_
    refine r_aload_n dX12_readOrder_59 0 rfl ?_
    refine m_g_oc (v := (n : Int)) hM4 hC4 kf_X12_388 dX12_readOrder_60 ?_
    refine i_mul dX12_readOrder_63 ?_
    refine r_istore_n (ls' := [(0, .ref m), (1, .int (iI ((k : Int)))), (2, .int (iI (3 * (n : Int))))]) dX12_readOrder_64 (by decide) rfl ?_
    refine r_aload_n dX12_readOrder_65 0 rfl ?_
    refine m_g_od (v := a.2.2.2.2.2.2.2.1) hM4 rfl kf_X12_38 dX12_readOrder_66 ?_
    refine r_iload_n dX12_readOrder_69 2 rfl ?_
    refine r_iload_n dX12_readOrder_70 1 rfl ?_
    refine m_st (3 * n) (by omega) hO4 dX12_readOrder_71 (by omega) (by decide) (fun h5 hO5 F5 => ?_)
    have hM5 := hM4.row hO4 F5
    have hA5 := hA4.fr F5 (nm1 (ne_sz hA4.2 hO4.2 (by decide)))
    have FD5 : FRp [m, a.2.2.2.2.2.2.2.1] h h5 := FD4.tr (FRr F5)
    refine r_aload_n dX12_readOrder_72 0 rfl ?_
    refine m_g_od (v := a.2.2.2.2.2.2.2.1) hM5 rfl kf_X12_38 dX12_readOrder_73 ?_
    refine r_iload_n dX12_readOrder_76 2 rfl ?_
    refine i_const (1) dX12_readOrder_77 ?_
    refine i_add dX12_readOrder_78 ?_
    refine r_iload_n dX12_readOrder_79 1 rfl ?_
    refine i_bipush (6) (by decide) dX12_readOrder_80 ?_
    refine i_icmpne dX12_readOrder_82 (tgt := 95) (by decide) (by unfold in32; omega) ⟨by decide, by decide⟩ (fun c => absurd c (by omega)) (fun _ => ?_)
    refine r_aload_n dX12_readOrder_85 0 rfl ?_
    refine i_const (1) dX12_readOrder_86 ?_
    refine i_bipush (24) (by decide) dX12_readOrder_87 ?_
    refine p_callV (As := [.int (iI 1), .int (iI 24)]) (b := m) (rest := [.int (iI ((3 * (n : Int)) + 1)), .ref a.2.2.2.2.2.2.2.1]) (w := (some (.int (iI x)))) (st' := [.int (iI x), .int (iI ((3 * (n : Int)) + 1)), .ref a.2.2.2.2.2.2.2.1]) kv_X12_readOrder_357 dX12_readOrder_89 rfl rfl (Nat.le_of_ble_eq_true rfl) (Nat.le_of_ble_eq_true rfl) (x_rv hM5.1 hM5.2 rfl) rfl rfl (t_X12_readNumber_ok hM5 hT4 hA5 hl5 hg hb ⟨by decide, by decide⟩ ⟨by decide, by decide⟩ hs6) rfl (fun h6 e6 => ?_)
    obtain ⟨r6, hM6, hK6, hT6, F6⟩ := e6
    have hA6 := hA5.obj hM5 F6
    have hO6 := hO5.obj hM5 F6
    have FD6 : FRp [m, a.2.2.2.2.2.2.2.1] h h6 := FD5.tr (FRm F6)
    have hQ6 := hQ4.tr hK6.ro
    have hC6 := hK6.2.2.trans hC4
    refine r_goto dX12_readOrder_92 (tgt := 101) (by decide) ?_
    refine m_st (3 * n + 1) (by omega) hO6 dX12_readOrder_101 (by omega) (by decide) (fun h7 hO7 F7 => ?_)
    have hM7 := hM6.row hO6 F7
    have hA7 := hA6.fr F7 (nm1 (ne_sz hA6.2 hO6.2 (by decide)))
    have FD7 : FRp [m, a.2.2.2.2.2.2.2.1] h h7 := FD6.tr (FRr F7)
    refine r_aload_n dX12_readOrder_102 0 rfl ?_
    refine m_g_od (v := a.2.2.2.2.2.2.2.1) hM7 rfl kf_X12_38 dX12_readOrder_103 ?_
    refine r_iload_n dX12_readOrder_106 2 rfl ?_
    refine i_const (2) dX12_readOrder_107 ?_
    refine i_add dX12_readOrder_108 ?_
    refine r_aload_n dX12_readOrder_109 0 rfl ?_
    refine r_iload_n dX12_readOrder_110 1 rfl ?_
    have hbn111 := c_X12_readSecond_bad hM7 hT6 hA7 hl5 hg hb hk9 hss
    refine p_callV (As := [.int (iI ((k : Int)))]) (b := m) (rest := [.int (iI ((3 * (n : Int)) + 2)), .ref a.2.2.2.2.2.2.2.1]) (w := (some (.int (iI (cLo2 k))))) (st' := [.int (iI (cLo2 k)), .int (iI ((3 * (n : Int)) + 2)), .ref a.2.2.2.2.2.2.2.1]) kv_X12_readOrder_391 dX12_readOrder_111 rfl rfl (Nat.le_of_ble_eq_true rfl) (Nat.le_of_ble_eq_true rfl) (x_rv hM7.1 hM7.2 rfl) rfl rfl (hbn111.2) rfl (fun h8 e8 => ?_)
    obtain ⟨r8, hM8, hK8, hT8, F8⟩ := e8
    have hA8 := hA7.obj hM7 F8
    have hO8 := hO7.obj hM7 F8
    have FD8 : FRp [m, a.2.2.2.2.2.2.2.1] h h8 := FD7.tr (FRm F8)
    have hQ8 := hQ6.tr hK8.ro
    have hC8 := hK8.2.2.trans hC6
    refine m_st (3 * n + 2) (by omega) hO8 dX12_readOrder_114 (by omega) (by decide) (fun h9 hO9 F9 => ?_)
    have hM9 := hM8.row hO8 F9
    have hA9 := hA8.fr F9 (nm1 (ne_sz hA8.2 hO8.2 (by decide)))
    have FD9 : FRp [m, a.2.2.2.2.2.2.2.1] h h9 := FD8.tr (FRr F9)
    refine r_aload_n dX12_readOrder_115 0 rfl ?_
    refine i_bipush (59) (by decide) dX12_readOrder_116 ?_
    refine p_callV (As := [.int (iI 59)]) (b := m) (rest := []) (w := none) (st' := []) kv_X12_readOrder_365 dX12_readOrder_118 rfl rfl (Nat.le_of_ble_eq_true rfl) (Nat.le_of_ble_eq_true rfl) (x_rv hM9.1 hM9.2 rfl) rfl rfl (c_X12_expect_e hM9 hT8 hA9 hl5 hg hb hbn111.1) rfl (fun h10 e10 => ?_)
    obtain ⟨r10, hM10, hK10, hT10, F10⟩ := e10
    have hA10 := hA9.obj hM9 F10
    have hO10 := hO9.obj hM9 F10
    have FD10 : FRp [m, a.2.2.2.2.2.2.2.1] h h10 := FD9.tr (FRm F10)
    have hQ10 := hQ8.tr hK10.ro
    have hC10 := hK10.2.2.trans hC8
    refine r_aload_n dX12_readOrder_121 0 rfl ?_
    refine r_dup dX12_readOrder_122 rfl ?_
    refine m_g_oc (v := (n : Int)) hM10 hC10 kf_X12_388 dX12_readOrder_123 ?_
    refine i_const (1) dX12_readOrder_126 ?_
    refine i_add dX12_readOrder_127 ?_
    refine m_p_oc (v := (n : Int) + 1) hM10 kf_X12_388 dX12_readOrder_128 (fun h11 hM11 F11 => ?_)
    have hA11 := hA10.obj hM10 F11
    have hO11 := hO10.obj hM10 F11
    have FD11 : FRp [m, a.2.2.2.2.2.2.2.1] h h11 := FD10.tr (FRm F11)
    have hT11 := ts_oc hT10 ((n : Int) + 1)
    have hQ11 := hQ10.tr (ro_oc _ ((n : Int) + 1))
    refine r_return rfl dX12_readOrder_131 ?_
    exact ⟨rfl, _, _, _, hM11, hQ11, hT11, hO11, FD11⟩
  · have hs6 : sNum T (tokAt T p).2.2 0 5 = .inr (x, q1) := by rw [show cLo k = 0 from if_neg hk6, show cHi k = 5 from if_neg hk6] at hsn; exact hsn
    refine r_aload_n dX12_readOrder_0 0 rfl ?_
    refine p_callV (As := []) (b := m) (rest := []) (w := (some (.int (iI ((k : Int)))))) (st' := [.int (iI ((k : Int)))]) kv_X12_readOrder_385 dX12_readOrder_1 rfl rfl (Nat.le_of_ble_eq_true rfl) (Nat.le_of_ble_eq_true rfl) (x_rv hM.1 hM.2 rfl) rfl rfl (c_X12_orderHere_b hM hT hA hl5 hg hb hGT hO hfn) rfl (fun h1 e1 => ?_)
    rw [show h1 = h from e1]
    refine r_istore_n (ls' := [(0, .ref m), (1, .int (iI ((k : Int))))]) dX12_readOrder_4 (by decide) rfl ?_
    refine r_aload_n dX12_readOrder_5 0 rfl ?_
    refine r_iload_n dX12_readOrder_6 1 rfl ?_
    refine i_const (-1) dX12_readOrder_7 ?_
    refine i_icmpeq dX12_readOrder_8 (tgt := 15) (by decide) (by unfold in32; omega) ⟨by decide, by decide⟩ (fun c => absurd c (by omega)) (fun _ => ?_)
    refine i_const (1) dX12_readOrder_11 ?_
    refine r_goto dX12_readOrder_12 (tgt := 16) (by decide) ?_
    refine i_const (1) dX12_readOrder_16 ?_
    refine p_callV (As := [.int (iI 1), .int (iI 1)]) (b := m) (rest := []) (w := none) (st' := []) kv_X12_readOrder_329 dX12_readOrder_17 rfl rfl (Nat.le_of_ble_eq_true rfl) (Nat.le_of_ble_eq_true rfl) (x_rv hM.1 hM.2 rfl) rfl rfl (c_X12_check_t hM hT) rfl (fun h2 e2 => ?_)
    obtain ⟨r2, hM2, hK2, hT2, F2⟩ := e2
    have hA2 := hA.obj hM F2
    have hO2 := hD.obj hM F2
    have FD2 : FRp [m, a.2.2.2.2.2.2.2.1] h h2 := FRm F2
    have hQ2 := hK2.ro
    have hC2 := hK2.2.2.trans hoc
    refine r_aload_n dX12_readOrder_20 0 rfl ?_
    refine r_aload_n dX12_readOrder_21 0 rfl ?_
    refine m_g_er (v := 0) hM2 hT2.2.2.2.2.2.1 kf_X12_303 dX12_readOrder_22 ?_
    refine i_ifne dX12_readOrder_25 (tgt := 37) (by decide) ⟨by decide, by decide⟩ (fun c => absurd c (by decide)) (fun _ => ?_)
    refine r_aload_n dX12_readOrder_28 0 rfl ?_
    refine m_g_oc (v := (n : Int)) hM2 hC2 kf_X12_388 dX12_readOrder_29 ?_
    refine i_bipush (20) (by decide) dX12_readOrder_32 ?_
    refine i_icmpge dX12_readOrder_34 (tgt := 41) (by decide) (by unfold in32; omega) ⟨by decide, by decide⟩ (fun c => absurd c (by omega)) (fun _ => ?_)
    refine i_const (1) dX12_readOrder_37 ?_
    refine r_goto dX12_readOrder_38 (tgt := 42) (by decide) ?_
    refine i_const (3) dX12_readOrder_42 ?_
    refine p_callV (As := [.int (iI 1), .int (iI 3)]) (b := m) (rest := []) (w := none) (st' := []) kv_X12_readOrder_329 dX12_readOrder_43 rfl rfl (Nat.le_of_ble_eq_true rfl) (Nat.le_of_ble_eq_true rfl) (x_rv hM2.1 hM2.2 rfl) rfl rfl (c_X12_check_t hM2 hT2) rfl (fun h3 e3 => ?_)
    obtain ⟨r3, hM3, hK3, hT3, F3⟩ := e3
    have hA3 := hA2.obj hM2 F3
    have hO3 := hO2.obj hM2 F3
    have FD3 : FRp [m, a.2.2.2.2.2.2.2.1] h h3 := FD2.tr (FRm F3)
    have hQ3 := hQ2.tr hK3.ro
    have hC3 := hK3.2.2.trans hC2
    refine r_aload_n dX12_readOrder_46 0 rfl ?_
    refine p_callV (As := []) (b := m) (rest := []) (w := none) (st' := []) kv_X12_readOrder_333 dX12_readOrder_47 rfl rfl (Nat.le_of_ble_eq_true rfl) (Nat.le_of_ble_eq_true rfl) (x_rv hM3.1 hM3.2 rfl) rfl rfl (c_X12_advance_k hM3 hT3 hA3 hl5 hg hb) rfl (fun h4 e4 => ?_)
    obtain ⟨r4, hM4, hK4, hT4, F4⟩ := e4
    have hA4 := hA3.obj hM3 F4
    have hO4 := hO3.obj hM3 F4
    have FD4 : FRp [m, a.2.2.2.2.2.2.2.1] h h4 := FD3.tr (FRm F4)
    have hQ4 := hQ3.tr hK4.ro
    have hC4 := hK4.2.2.trans hC3
    refine r_aload_n dX12_readOrder_50 0 rfl ?_
    refine m_g_er (v := 0) hM4 hT4.2.2.2.2.2.1 kf_X12_303 dX12_readOrder_51 ?_
    refine i_ifeq dX12_readOrder_54 (tgt := 58) (by decide) ⟨by decide, by decide⟩ (fun _ => ?_) (fun c => absurd c (by decide))
    refine i_const (3) dX12_readOrder_58 ?_
    refine r_aload_n dX12_readOrder_59 0 rfl ?_
    refine m_g_oc (v := (n : Int)) hM4 hC4 kf_X12_388 dX12_readOrder_60 ?_
    refine i_mul dX12_readOrder_63 ?_
    refine r_istore_n (ls' := [(0, .ref m), (1, .int (iI ((k : Int)))), (2, .int (iI (3 * (n : Int))))]) dX12_readOrder_64 (by decide) rfl ?_
    refine r_aload_n dX12_readOrder_65 0 rfl ?_
    refine m_g_od (v := a.2.2.2.2.2.2.2.1) hM4 rfl kf_X12_38 dX12_readOrder_66 ?_
    refine r_iload_n dX12_readOrder_69 2 rfl ?_
    refine r_iload_n dX12_readOrder_70 1 rfl ?_
    refine m_st (3 * n) (by omega) hO4 dX12_readOrder_71 (by omega) (by decide) (fun h5 hO5 F5 => ?_)
    have hM5 := hM4.row hO4 F5
    have hA5 := hA4.fr F5 (nm1 (ne_sz hA4.2 hO4.2 (by decide)))
    have FD5 : FRp [m, a.2.2.2.2.2.2.2.1] h h5 := FD4.tr (FRr F5)
    refine r_aload_n dX12_readOrder_72 0 rfl ?_
    refine m_g_od (v := a.2.2.2.2.2.2.2.1) hM5 rfl kf_X12_38 dX12_readOrder_73 ?_
    refine r_iload_n dX12_readOrder_76 2 rfl ?_
    refine i_const (1) dX12_readOrder_77 ?_
    refine i_add dX12_readOrder_78 ?_
    refine r_iload_n dX12_readOrder_79 1 rfl ?_
    refine i_bipush (6) (by decide) dX12_readOrder_80 ?_
    refine i_icmpne dX12_readOrder_82 (tgt := 95) (by decide) (by unfold in32; omega) ⟨by decide, by decide⟩ (fun _ => ?_) (fun c => absurd c (by omega))
    refine r_aload_n dX12_readOrder_95 0 rfl ?_
    refine i_const (0) dX12_readOrder_96 ?_
    refine i_const (5) dX12_readOrder_97 ?_
    refine p_callV (As := [.int (iI 0), .int (iI 5)]) (b := m) (rest := [.int (iI ((3 * (n : Int)) + 1)), .ref a.2.2.2.2.2.2.2.1]) (w := (some (.int (iI x)))) (st' := [.int (iI x), .int (iI ((3 * (n : Int)) + 1)), .ref a.2.2.2.2.2.2.2.1]) kv_X12_readOrder_357 dX12_readOrder_98 rfl rfl (Nat.le_of_ble_eq_true rfl) (Nat.le_of_ble_eq_true rfl) (x_rv hM5.1 hM5.2 rfl) rfl rfl (t_X12_readNumber_ok hM5 hT4 hA5 hl5 hg hb ⟨by decide, by decide⟩ ⟨by decide, by decide⟩ hs6) rfl (fun h6 e6 => ?_)
    obtain ⟨r6, hM6, hK6, hT6, F6⟩ := e6
    have hA6 := hA5.obj hM5 F6
    have hO6 := hO5.obj hM5 F6
    have FD6 : FRp [m, a.2.2.2.2.2.2.2.1] h h6 := FD5.tr (FRm F6)
    have hQ6 := hQ4.tr hK6.ro
    have hC6 := hK6.2.2.trans hC4
    refine m_st (3 * n + 1) (by omega) hO6 dX12_readOrder_101 (by omega) (by decide) (fun h7 hO7 F7 => ?_)
    have hM7 := hM6.row hO6 F7
    have hA7 := hA6.fr F7 (nm1 (ne_sz hA6.2 hO6.2 (by decide)))
    have FD7 : FRp [m, a.2.2.2.2.2.2.2.1] h h7 := FD6.tr (FRr F7)
    refine r_aload_n dX12_readOrder_102 0 rfl ?_
    refine m_g_od (v := a.2.2.2.2.2.2.2.1) hM7 rfl kf_X12_38 dX12_readOrder_103 ?_
    refine r_iload_n dX12_readOrder_106 2 rfl ?_
    refine i_const (2) dX12_readOrder_107 ?_
    refine i_add dX12_readOrder_108 ?_
    refine r_aload_n dX12_readOrder_109 0 rfl ?_
    refine r_iload_n dX12_readOrder_110 1 rfl ?_
    have hbn111 := c_X12_readSecond_bad hM7 hT6 hA7 hl5 hg hb hk9 hss
    refine p_callV (As := [.int (iI ((k : Int)))]) (b := m) (rest := [.int (iI ((3 * (n : Int)) + 2)), .ref a.2.2.2.2.2.2.2.1]) (w := (some (.int (iI (cLo2 k))))) (st' := [.int (iI (cLo2 k)), .int (iI ((3 * (n : Int)) + 2)), .ref a.2.2.2.2.2.2.2.1]) kv_X12_readOrder_391 dX12_readOrder_111 rfl rfl (Nat.le_of_ble_eq_true rfl) (Nat.le_of_ble_eq_true rfl) (x_rv hM7.1 hM7.2 rfl) rfl rfl (hbn111.2) rfl (fun h8 e8 => ?_)
    obtain ⟨r8, hM8, hK8, hT8, F8⟩ := e8
    have hA8 := hA7.obj hM7 F8
    have hO8 := hO7.obj hM7 F8
    have FD8 : FRp [m, a.2.2.2.2.2.2.2.1] h h8 := FD7.tr (FRm F8)
    have hQ8 := hQ6.tr hK8.ro
    have hC8 := hK8.2.2.trans hC6
    refine m_st (3 * n + 2) (by omega) hO8 dX12_readOrder_114 (by omega) (by decide) (fun h9 hO9 F9 => ?_)
    have hM9 := hM8.row hO8 F9
    have hA9 := hA8.fr F9 (nm1 (ne_sz hA8.2 hO8.2 (by decide)))
    have FD9 : FRp [m, a.2.2.2.2.2.2.2.1] h h9 := FD8.tr (FRr F9)
    refine r_aload_n dX12_readOrder_115 0 rfl ?_
    refine i_bipush (59) (by decide) dX12_readOrder_116 ?_
    refine p_callV (As := [.int (iI 59)]) (b := m) (rest := []) (w := none) (st' := []) kv_X12_readOrder_365 dX12_readOrder_118 rfl rfl (Nat.le_of_ble_eq_true rfl) (Nat.le_of_ble_eq_true rfl) (x_rv hM9.1 hM9.2 rfl) rfl rfl (c_X12_expect_e hM9 hT8 hA9 hl5 hg hb hbn111.1) rfl (fun h10 e10 => ?_)
    obtain ⟨r10, hM10, hK10, hT10, F10⟩ := e10
    have hA10 := hA9.obj hM9 F10
    have hO10 := hO9.obj hM9 F10
    have FD10 : FRp [m, a.2.2.2.2.2.2.2.1] h h10 := FD9.tr (FRm F10)
    have hQ10 := hQ8.tr hK10.ro
    have hC10 := hK10.2.2.trans hC8
    refine r_aload_n dX12_readOrder_121 0 rfl ?_
    refine r_dup dX12_readOrder_122 rfl ?_
    refine m_g_oc (v := (n : Int)) hM10 hC10 kf_X12_388 dX12_readOrder_123 ?_
    refine i_const (1) dX12_readOrder_126 ?_
    refine i_add dX12_readOrder_127 ?_
    refine m_p_oc (v := (n : Int) + 1) hM10 kf_X12_388 dX12_readOrder_128 (fun h11 hM11 F11 => ?_)
    have hA11 := hA10.obj hM10 F11
    have hO11 := hO10.obj hM10 F11
    have FD11 : FRp [m, a.2.2.2.2.2.2.2.1] h h11 := FD10.tr (FRm F11)
    have hT11 := ts_oc hT10 ((n : Int) + 1)
    have hQ11 := hQ10.tr (ro_oc _ ((n : Int) + 1))
    refine r_return rfl dX12_readOrder_131 ?_
    exact ⟨rfl, _, _, _, hM11, hQ11, hT11, hO11, FD11⟩
set_option maxRecDepth 20000 in
set_option maxHeartbeats 1000000 in
theorem c_X12_readOrder_x {G : xG} {h : xH} {m : Nat} {a : MA} {r : MR} (hM : MO G h m a r) {T : List Int} {p : Nat} {o : Int} (hT : TS r T p 0 o) {gi : Nat → Int32} (hA : AR G h a.2.2.2.2.2.2.1 500 gi) (hl5 : T.length ≤ 500) (hg : ∀ k, k < T.length → gi k = iI (T.getD k 0)) (hb : BYT T) {sa : Nat → Nat} (hGT : GT G sa) (hO : OWS G h a.2.2.2.2.2.2.2.2 sa) {gq : Nat → Int32} (hD : AR G h a.2.2.2.2.2.2.2.1 60 gq) {n : Nat} (hn20 : n ≤ 20) (hoc : r.2.2.2.2.2.2.2.2.2.2.2.2.2.2.2.2.2.2.2 = (n : Int)) {k : Nat} (hfn : fndC T p = (k : Int)) (hk9 : k < 9) (hn2 : n < 20) {x : Int} {q1 : Nat} (hsn : sNum T (tokAt T p).2.2 (cLo k) (cHi k) = .inr (x, q1)) {y : Int} {q2 : Nat} (hss : sSec T k q1 = .inr (y, q2)) {c off : Int} (hsx : sSemi T q2 = .inl (c, off)) : CC G MX12_readOrder [.ref m] h (fun o9 h' => o9 = .inl none ∧ ∃ r' g' p', MO G h' m a r' ∧ RO r r' ∧ TS r' T p' c off ∧ AR G h' a.2.2.2.2.2.2.2.1 60 g' ∧ FRp [m, a.2.2.2.2.2.2.2.1] h h') := by
  show RR G MX12_readOrder 0 [(0, .ref m)] [] h (xm_R MX12_readOrder).cells (xm_R MX12_readOrder).slots (fun o9 h' => o9 = .inl none ∧ ∃ r' g' p', MO G h' m a r' ∧ RO r r' ∧ TS r' T p' c off ∧ AR G h' a.2.2.2.2.2.2.2.1 60 g' ∧ FRp [m, a.2.2.2.2.2.2.2.1] h h')
  by_cases hk6 : k = 6
  · have hs6 : sNum T (tokAt T p).2.2 1 24 = .inr (x, q1) := by rw [hk6] at hsn; exact hsn
    refine r_aload_n dX12_readOrder_0 0 rfl ?_
    refine p_callV (As := []) (b := m) (rest := []) (w := (some (.int (iI ((k : Int)))))) (st' := [.int (iI ((k : Int)))]) kv_X12_readOrder_385 dX12_readOrder_1 rfl rfl (Nat.le_of_ble_eq_true rfl) (Nat.le_of_ble_eq_true rfl) (x_rv hM.1 hM.2 rfl) rfl rfl (c_X12_orderHere_b hM hT hA hl5 hg hb hGT hO hfn) rfl (fun h1 e1 => ?_)
    rw [show h1 = h from e1]
    refine r_istore_n (ls' := [(0, .ref m), (1, .int (iI ((k : Int))))]) dX12_readOrder_4 (by decide) rfl ?_
    refine r_aload_n dX12_readOrder_5 0 rfl ?_
    refine r_iload_n dX12_readOrder_6 1 rfl ?_
    refine i_const (-1) dX12_readOrder_7 ?_
    refine i_icmpeq dX12_readOrder_8 (tgt := 15) (by decide) (by unfold in32; omega) ⟨by decide, by decide⟩ (fun c => absurd c (by omega)) (fun _ => ?_)
    refine i_const (1) dX12_readOrder_11 ?_
    refine r_goto dX12_readOrder_12 (tgt := 16) (by decide) ?_
    refine i_const (1) dX12_readOrder_16 ?_
    refine p_callV (As := [.int (iI 1), .int (iI 1)]) (b := m) (rest := []) (w := none) (st' := []) kv_X12_readOrder_329 dX12_readOrder_17 rfl rfl (Nat.le_of_ble_eq_true rfl) (Nat.le_of_ble_eq_true rfl) (x_rv hM.1 hM.2 rfl) rfl rfl (c_X12_check_t hM hT) rfl (fun h2 e2 => ?_)
    obtain ⟨r2, hM2, hK2, hT2, F2⟩ := e2
    have hA2 := hA.obj hM F2
    have hO2 := hD.obj hM F2
    have FD2 : FRp [m, a.2.2.2.2.2.2.2.1] h h2 := FRm F2
    have hQ2 := hK2.ro
    have hC2 := hK2.2.2.trans hoc
    refine r_aload_n dX12_readOrder_20 0 rfl ?_
    refine r_aload_n dX12_readOrder_21 0 rfl ?_
    refine m_g_er (v := 0) hM2 hT2.2.2.2.2.2.1 kf_X12_303 dX12_readOrder_22 ?_
    refine i_ifne dX12_readOrder_25 (tgt := 37) (by decide) ⟨by decide, by decide⟩ (fun c => absurd c (by decide)) (fun _ => ?_)
    refine r_aload_n dX12_readOrder_28 0 rfl ?_
    refine m_g_oc (v := (n : Int)) hM2 hC2 kf_X12_388 dX12_readOrder_29 ?_
    refine i_bipush (20) (by decide) dX12_readOrder_32 ?_
    refine i_icmpge dX12_readOrder_34 (tgt := 41) (by decide) (by unfold in32; omega) ⟨by decide, by decide⟩ (fun c => absurd c (by omega)) (fun _ => ?_)
    refine i_const (1) dX12_readOrder_37 ?_
    refine r_goto dX12_readOrder_38 (tgt := 42) (by decide) ?_
    refine i_const (3) dX12_readOrder_42 ?_
    refine p_callV (As := [.int (iI 1), .int (iI 3)]) (b := m) (rest := []) (w := none) (st' := []) kv_X12_readOrder_329 dX12_readOrder_43 rfl rfl (Nat.le_of_ble_eq_true rfl) (Nat.le_of_ble_eq_true rfl) (x_rv hM2.1 hM2.2 rfl) rfl rfl (c_X12_check_t hM2 hT2) rfl (fun h3 e3 => ?_)
    obtain ⟨r3, hM3, hK3, hT3, F3⟩ := e3
    have hA3 := hA2.obj hM2 F3
    have hO3 := hO2.obj hM2 F3
    have FD3 : FRp [m, a.2.2.2.2.2.2.2.1] h h3 := FD2.tr (FRm F3)
    have hQ3 := hQ2.tr hK3.ro
    have hC3 := hK3.2.2.trans hC2
    refine r_aload_n dX12_readOrder_46 0 rfl ?_
    refine p_callV (As := []) (b := m) (rest := []) (w := none) (st' := []) kv_X12_readOrder_333 dX12_readOrder_47 rfl rfl (Nat.le_of_ble_eq_true rfl) (Nat.le_of_ble_eq_true rfl) (x_rv hM3.1 hM3.2 rfl) rfl rfl (c_X12_advance_k hM3 hT3 hA3 hl5 hg hb) rfl (fun h4 e4 => ?_)
    obtain ⟨r4, hM4, hK4, hT4, F4⟩ := e4
    have hA4 := hA3.obj hM3 F4
    have hO4 := hO3.obj hM3 F4
    have FD4 : FRp [m, a.2.2.2.2.2.2.2.1] h h4 := FD3.tr (FRm F4)
    have hQ4 := hQ3.tr hK4.ro
    have hC4 := hK4.2.2.trans hC3
    refine r_aload_n dX12_readOrder_50 0 rfl ?_
    refine m_g_er (v := 0) hM4 hT4.2.2.2.2.2.1 kf_X12_303 dX12_readOrder_51 ?_
    refine i_ifeq dX12_readOrder_54 (tgt := 58) (by decide) ⟨by decide, by decide⟩ (fun _ => ?_) (fun c => absurd c (by decide))
    refine i_const (3) dX12_readOrder_58 ?_
    refine r_aload_n dX12_readOrder_59 0 rfl ?_
    refine m_g_oc (v := (n : Int)) hM4 hC4 kf_X12_388 dX12_readOrder_60 ?_
    refine i_mul dX12_readOrder_63 ?_
    refine r_istore_n (ls' := [(0, .ref m), (1, .int (iI ((k : Int)))), (2, .int (iI (3 * (n : Int))))]) dX12_readOrder_64 (by decide) rfl ?_
    refine r_aload_n dX12_readOrder_65 0 rfl ?_
    refine m_g_od (v := a.2.2.2.2.2.2.2.1) hM4 rfl kf_X12_38 dX12_readOrder_66 ?_
    refine r_iload_n dX12_readOrder_69 2 rfl ?_
    refine r_iload_n dX12_readOrder_70 1 rfl ?_
    refine m_st (3 * n) (by omega) hO4 dX12_readOrder_71 (by omega) (by decide) (fun h5 hO5 F5 => ?_)
    have hM5 := hM4.row hO4 F5
    have hA5 := hA4.fr F5 (nm1 (ne_sz hA4.2 hO4.2 (by decide)))
    have FD5 : FRp [m, a.2.2.2.2.2.2.2.1] h h5 := FD4.tr (FRr F5)
    refine r_aload_n dX12_readOrder_72 0 rfl ?_
    refine m_g_od (v := a.2.2.2.2.2.2.2.1) hM5 rfl kf_X12_38 dX12_readOrder_73 ?_
    refine r_iload_n dX12_readOrder_76 2 rfl ?_
    refine i_const (1) dX12_readOrder_77 ?_
    refine i_add dX12_readOrder_78 ?_
    refine r_iload_n dX12_readOrder_79 1 rfl ?_
    refine i_bipush (6) (by decide) dX12_readOrder_80 ?_
    refine i_icmpne dX12_readOrder_82 (tgt := 95) (by decide) (by unfold in32; omega) ⟨by decide, by decide⟩ (fun c => absurd c (by omega)) (fun _ => ?_)
    refine r_aload_n dX12_readOrder_85 0 rfl ?_
    refine i_const (1) dX12_readOrder_86 ?_
    refine i_bipush (24) (by decide) dX12_readOrder_87 ?_
    refine p_callV (As := [.int (iI 1), .int (iI 24)]) (b := m) (rest := [.int (iI ((3 * (n : Int)) + 1)), .ref a.2.2.2.2.2.2.2.1]) (w := (some (.int (iI x)))) (st' := [.int (iI x), .int (iI ((3 * (n : Int)) + 1)), .ref a.2.2.2.2.2.2.2.1]) kv_X12_readOrder_357 dX12_readOrder_89 rfl rfl (Nat.le_of_ble_eq_true rfl) (Nat.le_of_ble_eq_true rfl) (x_rv hM5.1 hM5.2 rfl) rfl rfl (t_X12_readNumber_ok hM5 hT4 hA5 hl5 hg hb ⟨by decide, by decide⟩ ⟨by decide, by decide⟩ hs6) rfl (fun h6 e6 => ?_)
    obtain ⟨r6, hM6, hK6, hT6, F6⟩ := e6
    have hA6 := hA5.obj hM5 F6
    have hO6 := hO5.obj hM5 F6
    have FD6 : FRp [m, a.2.2.2.2.2.2.2.1] h h6 := FD5.tr (FRm F6)
    have hQ6 := hQ4.tr hK6.ro
    have hC6 := hK6.2.2.trans hC4
    refine r_goto dX12_readOrder_92 (tgt := 101) (by decide) ?_
    refine m_st (3 * n + 1) (by omega) hO6 dX12_readOrder_101 (by omega) (by decide) (fun h7 hO7 F7 => ?_)
    have hM7 := hM6.row hO6 F7
    have hA7 := hA6.fr F7 (nm1 (ne_sz hA6.2 hO6.2 (by decide)))
    have FD7 : FRp [m, a.2.2.2.2.2.2.2.1] h h7 := FD6.tr (FRr F7)
    refine r_aload_n dX12_readOrder_102 0 rfl ?_
    refine m_g_od (v := a.2.2.2.2.2.2.2.1) hM7 rfl kf_X12_38 dX12_readOrder_103 ?_
    refine r_iload_n dX12_readOrder_106 2 rfl ?_
    refine i_const (2) dX12_readOrder_107 ?_
    refine i_add dX12_readOrder_108 ?_
    refine r_aload_n dX12_readOrder_109 0 rfl ?_
    refine r_iload_n dX12_readOrder_110 1 rfl ?_
    refine p_callV (As := [.int (iI ((k : Int)))]) (b := m) (rest := [.int (iI ((3 * (n : Int)) + 2)), .ref a.2.2.2.2.2.2.2.1]) (w := (some (.int (iI y)))) (st' := [.int (iI y), .int (iI ((3 * (n : Int)) + 2)), .ref a.2.2.2.2.2.2.2.1]) kv_X12_readOrder_391 dX12_readOrder_111 rfl rfl (Nat.le_of_ble_eq_true rfl) (Nat.le_of_ble_eq_true rfl) (x_rv hM7.1 hM7.2 rfl) rfl rfl (c_X12_readSecond_ok hM7 hT6 hA7 hl5 hg hb hk9 hss) rfl (fun h8 e8 => ?_)
    obtain ⟨r8, hM8, hK8, hT8, F8⟩ := e8
    have hA8 := hA7.obj hM7 F8
    have hO8 := hO7.obj hM7 F8
    have FD8 : FRp [m, a.2.2.2.2.2.2.2.1] h h8 := FD7.tr (FRm F8)
    have hQ8 := hQ6.tr hK8.ro
    have hC8 := hK8.2.2.trans hC6
    refine m_st (3 * n + 2) (by omega) hO8 dX12_readOrder_114 (by omega) (by decide) (fun h9 hO9 F9 => ?_)
    have hM9 := hM8.row hO8 F9
    have hA9 := hA8.fr F9 (nm1 (ne_sz hA8.2 hO8.2 (by decide)))
    have FD9 : FRp [m, a.2.2.2.2.2.2.2.1] h h9 := FD8.tr (FRr F9)
    refine r_aload_n dX12_readOrder_115 0 rfl ?_
    refine i_bipush (59) (by decide) dX12_readOrder_116 ?_
    have hbn118 := t_X12_expect_bad hM9 hT8 hA9 hl5 hg hb hsx
    refine p_callV (As := [.int (iI 59)]) (b := m) (rest := []) (w := none) (st' := []) kv_X12_readOrder_365 dX12_readOrder_118 rfl rfl (Nat.le_of_ble_eq_true rfl) (Nat.le_of_ble_eq_true rfl) (x_rv hM9.1 hM9.2 rfl) rfl rfl (hbn118.2) rfl (fun h10 e10 => ?_)
    obtain ⟨r10, hM10, hK10, hT10, F10⟩ := e10
    have hA10 := hA9.obj hM9 F10
    have hO10 := hO9.obj hM9 F10
    have FD10 : FRp [m, a.2.2.2.2.2.2.2.1] h h10 := FD9.tr (FRm F10)
    have hQ10 := hQ8.tr hK10.ro
    have hC10 := hK10.2.2.trans hC8
    refine r_aload_n dX12_readOrder_121 0 rfl ?_
    refine r_dup dX12_readOrder_122 rfl ?_
    refine m_g_oc (v := (n : Int)) hM10 hC10 kf_X12_388 dX12_readOrder_123 ?_
    refine i_const (1) dX12_readOrder_126 ?_
    refine i_add dX12_readOrder_127 ?_
    refine m_p_oc (v := (n : Int) + 1) hM10 kf_X12_388 dX12_readOrder_128 (fun h11 hM11 F11 => ?_)
    have hA11 := hA10.obj hM10 F11
    have hO11 := hO10.obj hM10 F11
    have FD11 : FRp [m, a.2.2.2.2.2.2.2.1] h h11 := FD10.tr (FRm F11)
    have hT11 := ts_oc hT10 ((n : Int) + 1)
    have hQ11 := hQ10.tr (ro_oc _ ((n : Int) + 1))
    refine r_return rfl dX12_readOrder_131 ?_
    exact ⟨rfl, _, _, _, hM11, hQ11, hT11, hO11, FD11⟩
  · have hs6 : sNum T (tokAt T p).2.2 0 5 = .inr (x, q1) := by rw [show cLo k = 0 from if_neg hk6, show cHi k = 5 from if_neg hk6] at hsn; exact hsn
    refine r_aload_n dX12_readOrder_0 0 rfl ?_
    refine p_callV (As := []) (b := m) (rest := []) (w := (some (.int (iI ((k : Int)))))) (st' := [.int (iI ((k : Int)))]) kv_X12_readOrder_385 dX12_readOrder_1 rfl rfl (Nat.le_of_ble_eq_true rfl) (Nat.le_of_ble_eq_true rfl) (x_rv hM.1 hM.2 rfl) rfl rfl (c_X12_orderHere_b hM hT hA hl5 hg hb hGT hO hfn) rfl (fun h1 e1 => ?_)
    rw [show h1 = h from e1]
    refine r_istore_n (ls' := [(0, .ref m), (1, .int (iI ((k : Int))))]) dX12_readOrder_4 (by decide) rfl ?_
    refine r_aload_n dX12_readOrder_5 0 rfl ?_
    refine r_iload_n dX12_readOrder_6 1 rfl ?_
    refine i_const (-1) dX12_readOrder_7 ?_
    refine i_icmpeq dX12_readOrder_8 (tgt := 15) (by decide) (by unfold in32; omega) ⟨by decide, by decide⟩ (fun c => absurd c (by omega)) (fun _ => ?_)
    refine i_const (1) dX12_readOrder_11 ?_
    refine r_goto dX12_readOrder_12 (tgt := 16) (by decide) ?_
    refine i_const (1) dX12_readOrder_16 ?_
    refine p_callV (As := [.int (iI 1), .int (iI 1)]) (b := m) (rest := []) (w := none) (st' := []) kv_X12_readOrder_329 dX12_readOrder_17 rfl rfl (Nat.le_of_ble_eq_true rfl) (Nat.le_of_ble_eq_true rfl) (x_rv hM.1 hM.2 rfl) rfl rfl (c_X12_check_t hM hT) rfl (fun h2 e2 => ?_)
    obtain ⟨r2, hM2, hK2, hT2, F2⟩ := e2
    have hA2 := hA.obj hM F2
    have hO2 := hD.obj hM F2
    have FD2 : FRp [m, a.2.2.2.2.2.2.2.1] h h2 := FRm F2
    have hQ2 := hK2.ro
    have hC2 := hK2.2.2.trans hoc
    refine r_aload_n dX12_readOrder_20 0 rfl ?_
    refine r_aload_n dX12_readOrder_21 0 rfl ?_
    refine m_g_er (v := 0) hM2 hT2.2.2.2.2.2.1 kf_X12_303 dX12_readOrder_22 ?_
    refine i_ifne dX12_readOrder_25 (tgt := 37) (by decide) ⟨by decide, by decide⟩ (fun c => absurd c (by decide)) (fun _ => ?_)
    refine r_aload_n dX12_readOrder_28 0 rfl ?_
    refine m_g_oc (v := (n : Int)) hM2 hC2 kf_X12_388 dX12_readOrder_29 ?_
    refine i_bipush (20) (by decide) dX12_readOrder_32 ?_
    refine i_icmpge dX12_readOrder_34 (tgt := 41) (by decide) (by unfold in32; omega) ⟨by decide, by decide⟩ (fun c => absurd c (by omega)) (fun _ => ?_)
    refine i_const (1) dX12_readOrder_37 ?_
    refine r_goto dX12_readOrder_38 (tgt := 42) (by decide) ?_
    refine i_const (3) dX12_readOrder_42 ?_
    refine p_callV (As := [.int (iI 1), .int (iI 3)]) (b := m) (rest := []) (w := none) (st' := []) kv_X12_readOrder_329 dX12_readOrder_43 rfl rfl (Nat.le_of_ble_eq_true rfl) (Nat.le_of_ble_eq_true rfl) (x_rv hM2.1 hM2.2 rfl) rfl rfl (c_X12_check_t hM2 hT2) rfl (fun h3 e3 => ?_)
    obtain ⟨r3, hM3, hK3, hT3, F3⟩ := e3
    have hA3 := hA2.obj hM2 F3
    have hO3 := hO2.obj hM2 F3
    have FD3 : FRp [m, a.2.2.2.2.2.2.2.1] h h3 := FD2.tr (FRm F3)
    have hQ3 := hQ2.tr hK3.ro
    have hC3 := hK3.2.2.trans hC2
    refine r_aload_n dX12_readOrder_46 0 rfl ?_
    refine p_callV (As := []) (b := m) (rest := []) (w := none) (st' := []) kv_X12_readOrder_333 dX12_readOrder_47 rfl rfl (Nat.le_of_ble_eq_true rfl) (Nat.le_of_ble_eq_true rfl) (x_rv hM3.1 hM3.2 rfl) rfl rfl (c_X12_advance_k hM3 hT3 hA3 hl5 hg hb) rfl (fun h4 e4 => ?_)
    obtain ⟨r4, hM4, hK4, hT4, F4⟩ := e4
    have hA4 := hA3.obj hM3 F4
    have hO4 := hO3.obj hM3 F4
    have FD4 : FRp [m, a.2.2.2.2.2.2.2.1] h h4 := FD3.tr (FRm F4)
    have hQ4 := hQ3.tr hK4.ro
    have hC4 := hK4.2.2.trans hC3
    refine r_aload_n dX12_readOrder_50 0 rfl ?_
    refine m_g_er (v := 0) hM4 hT4.2.2.2.2.2.1 kf_X12_303 dX12_readOrder_51 ?_
    refine i_ifeq dX12_readOrder_54 (tgt := 58) (by decide) ⟨by decide, by decide⟩ (fun _ => ?_) (fun c => absurd c (by decide))
    refine i_const (3) dX12_readOrder_58 ?_
    refine r_aload_n dX12_readOrder_59 0 rfl ?_
    refine m_g_oc (v := (n : Int)) hM4 hC4 kf_X12_388 dX12_readOrder_60 ?_
    refine i_mul dX12_readOrder_63 ?_
    refine r_istore_n (ls' := [(0, .ref m), (1, .int (iI ((k : Int)))), (2, .int (iI (3 * (n : Int))))]) dX12_readOrder_64 (by decide) rfl ?_
    refine r_aload_n dX12_readOrder_65 0 rfl ?_
    refine m_g_od (v := a.2.2.2.2.2.2.2.1) hM4 rfl kf_X12_38 dX12_readOrder_66 ?_
    refine r_iload_n dX12_readOrder_69 2 rfl ?_
    refine r_iload_n dX12_readOrder_70 1 rfl ?_
    refine m_st (3 * n) (by omega) hO4 dX12_readOrder_71 (by omega) (by decide) (fun h5 hO5 F5 => ?_)
    have hM5 := hM4.row hO4 F5
    have hA5 := hA4.fr F5 (nm1 (ne_sz hA4.2 hO4.2 (by decide)))
    have FD5 : FRp [m, a.2.2.2.2.2.2.2.1] h h5 := FD4.tr (FRr F5)
    refine r_aload_n dX12_readOrder_72 0 rfl ?_
    refine m_g_od (v := a.2.2.2.2.2.2.2.1) hM5 rfl kf_X12_38 dX12_readOrder_73 ?_
    refine r_iload_n dX12_readOrder_76 2 rfl ?_
    refine i_const (1) dX12_readOrder_77 ?_
    refine i_add dX12_readOrder_78 ?_
    refine r_iload_n dX12_readOrder_79 1 rfl ?_
    refine i_bipush (6) (by decide) dX12_readOrder_80 ?_
    refine i_icmpne dX12_readOrder_82 (tgt := 95) (by decide) (by unfold in32; omega) ⟨by decide, by decide⟩ (fun _ => ?_) (fun c => absurd c (by omega))
    refine r_aload_n dX12_readOrder_95 0 rfl ?_
    refine i_const (0) dX12_readOrder_96 ?_
    refine i_const (5) dX12_readOrder_97 ?_
    refine p_callV (As := [.int (iI 0), .int (iI 5)]) (b := m) (rest := [.int (iI ((3 * (n : Int)) + 1)), .ref a.2.2.2.2.2.2.2.1]) (w := (some (.int (iI x)))) (st' := [.int (iI x), .int (iI ((3 * (n : Int)) + 1)), .ref a.2.2.2.2.2.2.2.1]) kv_X12_readOrder_357 dX12_readOrder_98 rfl rfl (Nat.le_of_ble_eq_true rfl) (Nat.le_of_ble_eq_true rfl) (x_rv hM5.1 hM5.2 rfl) rfl rfl (t_X12_readNumber_ok hM5 hT4 hA5 hl5 hg hb ⟨by decide, by decide⟩ ⟨by decide, by decide⟩ hs6) rfl (fun h6 e6 => ?_)
    obtain ⟨r6, hM6, hK6, hT6, F6⟩ := e6
    have hA6 := hA5.obj hM5 F6
    have hO6 := hO5.obj hM5 F6
    have FD6 : FRp [m, a.2.2.2.2.2.2.2.1] h h6 := FD5.tr (FRm F6)
    have hQ6 := hQ4.tr hK6.ro
    have hC6 := hK6.2.2.trans hC4
    refine m_st (3 * n + 1) (by omega) hO6 dX12_readOrder_101 (by omega) (by decide) (fun h7 hO7 F7 => ?_)
    have hM7 := hM6.row hO6 F7
    have hA7 := hA6.fr F7 (nm1 (ne_sz hA6.2 hO6.2 (by decide)))
    have FD7 : FRp [m, a.2.2.2.2.2.2.2.1] h h7 := FD6.tr (FRr F7)
    refine r_aload_n dX12_readOrder_102 0 rfl ?_
    refine m_g_od (v := a.2.2.2.2.2.2.2.1) hM7 rfl kf_X12_38 dX12_readOrder_103 ?_
    refine r_iload_n dX12_readOrder_106 2 rfl ?_
    refine i_const (2) dX12_readOrder_107 ?_
    refine i_add dX12_readOrder_108 ?_
    refine r_aload_n dX12_readOrder_109 0 rfl ?_
    refine r_iload_n dX12_readOrder_110 1 rfl ?_
    refine p_callV (As := [.int (iI ((k : Int)))]) (b := m) (rest := [.int (iI ((3 * (n : Int)) + 2)), .ref a.2.2.2.2.2.2.2.1]) (w := (some (.int (iI y)))) (st' := [.int (iI y), .int (iI ((3 * (n : Int)) + 2)), .ref a.2.2.2.2.2.2.2.1]) kv_X12_readOrder_391 dX12_readOrder_111 rfl rfl (Nat.le_of_ble_eq_true rfl) (Nat.le_of_ble_eq_true rfl) (x_rv hM7.1 hM7.2 rfl) rfl rfl (c_X12_readSecond_ok hM7 hT6 hA7 hl5 hg hb hk9 hss) rfl (fun h8 e8 => ?_)
    obtain ⟨r8, hM8, hK8, hT8, F8⟩ := e8
    have hA8 := hA7.obj hM7 F8
    have hO8 := hO7.obj hM7 F8
    have FD8 : FRp [m, a.2.2.2.2.2.2.2.1] h h8 := FD7.tr (FRm F8)
    have hQ8 := hQ6.tr hK8.ro
    have hC8 := hK8.2.2.trans hC6
    refine m_st (3 * n + 2) (by omega) hO8 dX12_readOrder_114 (by omega) (by decide) (fun h9 hO9 F9 => ?_)
    have hM9 := hM8.row hO8 F9
    have hA9 := hA8.fr F9 (nm1 (ne_sz hA8.2 hO8.2 (by decide)))
    have FD9 : FRp [m, a.2.2.2.2.2.2.2.1] h h9 := FD8.tr (FRr F9)
    refine r_aload_n dX12_readOrder_115 0 rfl ?_
    refine i_bipush (59) (by decide) dX12_readOrder_116 ?_
    have hbn118 := t_X12_expect_bad hM9 hT8 hA9 hl5 hg hb hsx
    refine p_callV (As := [.int (iI 59)]) (b := m) (rest := []) (w := none) (st' := []) kv_X12_readOrder_365 dX12_readOrder_118 rfl rfl (Nat.le_of_ble_eq_true rfl) (Nat.le_of_ble_eq_true rfl) (x_rv hM9.1 hM9.2 rfl) rfl rfl (hbn118.2) rfl (fun h10 e10 => ?_)
    obtain ⟨r10, hM10, hK10, hT10, F10⟩ := e10
    have hA10 := hA9.obj hM9 F10
    have hO10 := hO9.obj hM9 F10
    have FD10 : FRp [m, a.2.2.2.2.2.2.2.1] h h10 := FD9.tr (FRm F10)
    have hQ10 := hQ8.tr hK10.ro
    have hC10 := hK10.2.2.trans hC8
    refine r_aload_n dX12_readOrder_121 0 rfl ?_
    refine r_dup dX12_readOrder_122 rfl ?_
    refine m_g_oc (v := (n : Int)) hM10 hC10 kf_X12_388 dX12_readOrder_123 ?_
    refine i_const (1) dX12_readOrder_126 ?_
    refine i_add dX12_readOrder_127 ?_
    refine m_p_oc (v := (n : Int) + 1) hM10 kf_X12_388 dX12_readOrder_128 (fun h11 hM11 F11 => ?_)
    have hA11 := hA10.obj hM10 F11
    have hO11 := hO10.obj hM10 F11
    have FD11 : FRp [m, a.2.2.2.2.2.2.2.1] h h11 := FD10.tr (FRm F11)
    have hT11 := ts_oc hT10 ((n : Int) + 1)
    have hQ11 := hQ10.tr (ro_oc _ ((n : Int) + 1))
    refine r_return rfl dX12_readOrder_131 ?_
    exact ⟨rfl, _, _, _, hM11, hQ11, hT11, hO11, FD11⟩
set_option maxRecDepth 20000 in
set_option maxHeartbeats 1000000 in
theorem c_X12_readOrder_ok {G : xG} {h : xH} {m : Nat} {a : MA} {r : MR} (hM : MO G h m a r) {T : List Int} {p : Nat} {o : Int} (hT : TS r T p 0 o) {gi : Nat → Int32} (hA : AR G h a.2.2.2.2.2.2.1 500 gi) (hl5 : T.length ≤ 500) (hg : ∀ k, k < T.length → gi k = iI (T.getD k 0)) (hb : BYT T) {sa : Nat → Nat} (hGT : GT G sa) (hO : OWS G h a.2.2.2.2.2.2.2.2 sa) {gq : Nat → Int32} (hD : AR G h a.2.2.2.2.2.2.2.1 60 gq) {n : Nat} (hn20 : n ≤ 20) (hoc : r.2.2.2.2.2.2.2.2.2.2.2.2.2.2.2.2.2.2.2 = (n : Int)) {k : Nat} (hfn : fndC T p = (k : Int)) (hk9 : k < 9) (hn2 : n < 20) {x : Int} {q1 : Nat} (hsn : sNum T (tokAt T p).2.2 (cLo k) (cHi k) = .inr (x, q1)) {y : Int} {q2 : Nat} (hss : sSec T k q1 = .inr (y, q2)) {q3 : Nat} (hsx : sSemi T q2 = .inr ((), q3)) : CC G MX12_readOrder [.ref m] h (fun o9 h' => o9 = .inl none ∧ ∃ r' o', MO G h' m a r' ∧ RO r r' ∧ r'.2.2.2.2.2.2.2.2.2.2.2.2.2.2.2.2.2.2.2 = (n : Int) + 1 ∧ TS r' T q3 0 o' ∧ AR G h' a.2.2.2.2.2.2.2.1 60 (upd (upd (upd gq (3 * n) (iI (k : Int))) (3 * n + 1) (iI x)) (3 * n + 2) (iI y)) ∧ FRp [m, a.2.2.2.2.2.2.2.1] h h') := by
  show RR G MX12_readOrder 0 [(0, .ref m)] [] h (xm_R MX12_readOrder).cells (xm_R MX12_readOrder).slots (fun o9 h' => o9 = .inl none ∧ ∃ r' o', MO G h' m a r' ∧ RO r r' ∧ r'.2.2.2.2.2.2.2.2.2.2.2.2.2.2.2.2.2.2.2 = (n : Int) + 1 ∧ TS r' T q3 0 o' ∧ AR G h' a.2.2.2.2.2.2.2.1 60 (upd (upd (upd gq (3 * n) (iI (k : Int))) (3 * n + 1) (iI x)) (3 * n + 2) (iI y)) ∧ FRp [m, a.2.2.2.2.2.2.2.1] h h')
  by_cases hk6 : k = 6
  · have hs6 : sNum T (tokAt T p).2.2 1 24 = .inr (x, q1) := by rw [hk6] at hsn; exact hsn
    refine r_aload_n dX12_readOrder_0 0 rfl ?_
    refine p_callV (As := []) (b := m) (rest := []) (w := (some (.int (iI ((k : Int)))))) (st' := [.int (iI ((k : Int)))]) kv_X12_readOrder_385 dX12_readOrder_1 rfl rfl (Nat.le_of_ble_eq_true rfl) (Nat.le_of_ble_eq_true rfl) (x_rv hM.1 hM.2 rfl) rfl rfl (c_X12_orderHere_b hM hT hA hl5 hg hb hGT hO hfn) rfl (fun h1 e1 => ?_)
    rw [show h1 = h from e1]
    refine r_istore_n (ls' := [(0, .ref m), (1, .int (iI ((k : Int))))]) dX12_readOrder_4 (by decide) rfl ?_
    refine r_aload_n dX12_readOrder_5 0 rfl ?_
    refine r_iload_n dX12_readOrder_6 1 rfl ?_
    refine i_const (-1) dX12_readOrder_7 ?_
    refine i_icmpeq dX12_readOrder_8 (tgt := 15) (by decide) (by unfold in32; omega) ⟨by decide, by decide⟩ (fun c => absurd c (by omega)) (fun _ => ?_)
    refine i_const (1) dX12_readOrder_11 ?_
    refine r_goto dX12_readOrder_12 (tgt := 16) (by decide) ?_
    refine i_const (1) dX12_readOrder_16 ?_
    refine p_callV (As := [.int (iI 1), .int (iI 1)]) (b := m) (rest := []) (w := none) (st' := []) kv_X12_readOrder_329 dX12_readOrder_17 rfl rfl (Nat.le_of_ble_eq_true rfl) (Nat.le_of_ble_eq_true rfl) (x_rv hM.1 hM.2 rfl) rfl rfl (c_X12_check_t hM hT) rfl (fun h2 e2 => ?_)
    obtain ⟨r2, hM2, hK2, hT2, F2⟩ := e2
    have hA2 := hA.obj hM F2
    have hO2 := hD.obj hM F2
    have FD2 : FRp [m, a.2.2.2.2.2.2.2.1] h h2 := FRm F2
    have hQ2 := hK2.ro
    have hC2 := hK2.2.2.trans hoc
    refine r_aload_n dX12_readOrder_20 0 rfl ?_
    refine r_aload_n dX12_readOrder_21 0 rfl ?_
    refine m_g_er (v := 0) hM2 hT2.2.2.2.2.2.1 kf_X12_303 dX12_readOrder_22 ?_
    refine i_ifne dX12_readOrder_25 (tgt := 37) (by decide) ⟨by decide, by decide⟩ (fun c => absurd c (by decide)) (fun _ => ?_)
    refine r_aload_n dX12_readOrder_28 0 rfl ?_
    refine m_g_oc (v := (n : Int)) hM2 hC2 kf_X12_388 dX12_readOrder_29 ?_
    refine i_bipush (20) (by decide) dX12_readOrder_32 ?_
    refine i_icmpge dX12_readOrder_34 (tgt := 41) (by decide) (by unfold in32; omega) ⟨by decide, by decide⟩ (fun c => absurd c (by omega)) (fun _ => ?_)
    refine i_const (1) dX12_readOrder_37 ?_
    refine r_goto dX12_readOrder_38 (tgt := 42) (by decide) ?_
    refine i_const (3) dX12_readOrder_42 ?_
    refine p_callV (As := [.int (iI 1), .int (iI 3)]) (b := m) (rest := []) (w := none) (st' := []) kv_X12_readOrder_329 dX12_readOrder_43 rfl rfl (Nat.le_of_ble_eq_true rfl) (Nat.le_of_ble_eq_true rfl) (x_rv hM2.1 hM2.2 rfl) rfl rfl (c_X12_check_t hM2 hT2) rfl (fun h3 e3 => ?_)
    obtain ⟨r3, hM3, hK3, hT3, F3⟩ := e3
    have hA3 := hA2.obj hM2 F3
    have hO3 := hO2.obj hM2 F3
    have FD3 : FRp [m, a.2.2.2.2.2.2.2.1] h h3 := FD2.tr (FRm F3)
    have hQ3 := hQ2.tr hK3.ro
    have hC3 := hK3.2.2.trans hC2
    refine r_aload_n dX12_readOrder_46 0 rfl ?_
    refine p_callV (As := []) (b := m) (rest := []) (w := none) (st' := []) kv_X12_readOrder_333 dX12_readOrder_47 rfl rfl (Nat.le_of_ble_eq_true rfl) (Nat.le_of_ble_eq_true rfl) (x_rv hM3.1 hM3.2 rfl) rfl rfl (c_X12_advance_k hM3 hT3 hA3 hl5 hg hb) rfl (fun h4 e4 => ?_)
    obtain ⟨r4, hM4, hK4, hT4, F4⟩ := e4
    have hA4 := hA3.obj hM3 F4
    have hO4 := hO3.obj hM3 F4
    have FD4 : FRp [m, a.2.2.2.2.2.2.2.1] h h4 := FD3.tr (FRm F4)
    have hQ4 := hQ3.tr hK4.ro
    have hC4 := hK4.2.2.trans hC3
    refine r_aload_n dX12_readOrder_50 0 rfl ?_
    refine m_g_er (v := 0) hM4 hT4.2.2.2.2.2.1 kf_X12_303 dX12_readOrder_51 ?_
    refine i_ifeq dX12_readOrder_54 (tgt := 58) (by decide) ⟨by decide, by decide⟩ (fun _ => ?_) (fun c => absurd c (by decide))
    refine i_const (3) dX12_readOrder_58 ?_
    refine r_aload_n dX12_readOrder_59 0 rfl ?_
    refine m_g_oc (v := (n : Int)) hM4 hC4 kf_X12_388 dX12_readOrder_60 ?_
    refine i_mul dX12_readOrder_63 ?_
    refine r_istore_n (ls' := [(0, .ref m), (1, .int (iI ((k : Int)))), (2, .int (iI (3 * (n : Int))))]) dX12_readOrder_64 (by decide) rfl ?_
    refine r_aload_n dX12_readOrder_65 0 rfl ?_
    refine m_g_od (v := a.2.2.2.2.2.2.2.1) hM4 rfl kf_X12_38 dX12_readOrder_66 ?_
    refine r_iload_n dX12_readOrder_69 2 rfl ?_
    refine r_iload_n dX12_readOrder_70 1 rfl ?_
    refine m_st (3 * n) (by omega) hO4 dX12_readOrder_71 (by omega) (by decide) (fun h5 hO5 F5 => ?_)
    have hM5 := hM4.row hO4 F5
    have hA5 := hA4.fr F5 (nm1 (ne_sz hA4.2 hO4.2 (by decide)))
    have FD5 : FRp [m, a.2.2.2.2.2.2.2.1] h h5 := FD4.tr (FRr F5)
    refine r_aload_n dX12_readOrder_72 0 rfl ?_
    refine m_g_od (v := a.2.2.2.2.2.2.2.1) hM5 rfl kf_X12_38 dX12_readOrder_73 ?_
    refine r_iload_n dX12_readOrder_76 2 rfl ?_
    refine i_const (1) dX12_readOrder_77 ?_
    refine i_add dX12_readOrder_78 ?_
    refine r_iload_n dX12_readOrder_79 1 rfl ?_
    refine i_bipush (6) (by decide) dX12_readOrder_80 ?_
    refine i_icmpne dX12_readOrder_82 (tgt := 95) (by decide) (by unfold in32; omega) ⟨by decide, by decide⟩ (fun c => absurd c (by omega)) (fun _ => ?_)
    refine r_aload_n dX12_readOrder_85 0 rfl ?_
    refine i_const (1) dX12_readOrder_86 ?_
    refine i_bipush (24) (by decide) dX12_readOrder_87 ?_
    refine p_callV (As := [.int (iI 1), .int (iI 24)]) (b := m) (rest := [.int (iI ((3 * (n : Int)) + 1)), .ref a.2.2.2.2.2.2.2.1]) (w := (some (.int (iI x)))) (st' := [.int (iI x), .int (iI ((3 * (n : Int)) + 1)), .ref a.2.2.2.2.2.2.2.1]) kv_X12_readOrder_357 dX12_readOrder_89 rfl rfl (Nat.le_of_ble_eq_true rfl) (Nat.le_of_ble_eq_true rfl) (x_rv hM5.1 hM5.2 rfl) rfl rfl (t_X12_readNumber_ok hM5 hT4 hA5 hl5 hg hb ⟨by decide, by decide⟩ ⟨by decide, by decide⟩ hs6) rfl (fun h6 e6 => ?_)
    obtain ⟨r6, hM6, hK6, hT6, F6⟩ := e6
    have hA6 := hA5.obj hM5 F6
    have hO6 := hO5.obj hM5 F6
    have FD6 : FRp [m, a.2.2.2.2.2.2.2.1] h h6 := FD5.tr (FRm F6)
    have hQ6 := hQ4.tr hK6.ro
    have hC6 := hK6.2.2.trans hC4
    refine r_goto dX12_readOrder_92 (tgt := 101) (by decide) ?_
    refine m_st (3 * n + 1) (by omega) hO6 dX12_readOrder_101 (by omega) (by decide) (fun h7 hO7 F7 => ?_)
    have hM7 := hM6.row hO6 F7
    have hA7 := hA6.fr F7 (nm1 (ne_sz hA6.2 hO6.2 (by decide)))
    have FD7 : FRp [m, a.2.2.2.2.2.2.2.1] h h7 := FD6.tr (FRr F7)
    refine r_aload_n dX12_readOrder_102 0 rfl ?_
    refine m_g_od (v := a.2.2.2.2.2.2.2.1) hM7 rfl kf_X12_38 dX12_readOrder_103 ?_
    refine r_iload_n dX12_readOrder_106 2 rfl ?_
    refine i_const (2) dX12_readOrder_107 ?_
    refine i_add dX12_readOrder_108 ?_
    refine r_aload_n dX12_readOrder_109 0 rfl ?_
    refine r_iload_n dX12_readOrder_110 1 rfl ?_
    refine p_callV (As := [.int (iI ((k : Int)))]) (b := m) (rest := [.int (iI ((3 * (n : Int)) + 2)), .ref a.2.2.2.2.2.2.2.1]) (w := (some (.int (iI y)))) (st' := [.int (iI y), .int (iI ((3 * (n : Int)) + 2)), .ref a.2.2.2.2.2.2.2.1]) kv_X12_readOrder_391 dX12_readOrder_111 rfl rfl (Nat.le_of_ble_eq_true rfl) (Nat.le_of_ble_eq_true rfl) (x_rv hM7.1 hM7.2 rfl) rfl rfl (c_X12_readSecond_ok hM7 hT6 hA7 hl5 hg hb hk9 hss) rfl (fun h8 e8 => ?_)
    obtain ⟨r8, hM8, hK8, hT8, F8⟩ := e8
    have hA8 := hA7.obj hM7 F8
    have hO8 := hO7.obj hM7 F8
    have FD8 : FRp [m, a.2.2.2.2.2.2.2.1] h h8 := FD7.tr (FRm F8)
    have hQ8 := hQ6.tr hK8.ro
    have hC8 := hK8.2.2.trans hC6
    refine m_st (3 * n + 2) (by omega) hO8 dX12_readOrder_114 (by omega) (by decide) (fun h9 hO9 F9 => ?_)
    have hM9 := hM8.row hO8 F9
    have hA9 := hA8.fr F9 (nm1 (ne_sz hA8.2 hO8.2 (by decide)))
    have FD9 : FRp [m, a.2.2.2.2.2.2.2.1] h h9 := FD8.tr (FRr F9)
    refine r_aload_n dX12_readOrder_115 0 rfl ?_
    refine i_bipush (59) (by decide) dX12_readOrder_116 ?_
    refine p_callV (As := [.int (iI 59)]) (b := m) (rest := []) (w := none) (st' := []) kv_X12_readOrder_365 dX12_readOrder_118 rfl rfl (Nat.le_of_ble_eq_true rfl) (Nat.le_of_ble_eq_true rfl) (x_rv hM9.1 hM9.2 rfl) rfl rfl (t_X12_expect_ok hM9 hT8 hA9 hl5 hg hb hsx) rfl (fun h10 e10 => ?_)
    obtain ⟨r10, hM10, hK10, hT10, F10⟩ := e10
    have hA10 := hA9.obj hM9 F10
    have hO10 := hO9.obj hM9 F10
    have FD10 : FRp [m, a.2.2.2.2.2.2.2.1] h h10 := FD9.tr (FRm F10)
    have hQ10 := hQ8.tr hK10.ro
    have hC10 := hK10.2.2.trans hC8
    refine r_aload_n dX12_readOrder_121 0 rfl ?_
    refine r_dup dX12_readOrder_122 rfl ?_
    refine m_g_oc (v := (n : Int)) hM10 hC10 kf_X12_388 dX12_readOrder_123 ?_
    refine i_const (1) dX12_readOrder_126 ?_
    refine i_add dX12_readOrder_127 ?_
    refine m_p_oc (v := (n : Int) + 1) hM10 kf_X12_388 dX12_readOrder_128 (fun h11 hM11 F11 => ?_)
    have hA11 := hA10.obj hM10 F11
    have hO11 := hO10.obj hM10 F11
    have FD11 : FRp [m, a.2.2.2.2.2.2.2.1] h h11 := FD10.tr (FRm F11)
    have hT11 := ts_oc hT10 ((n : Int) + 1)
    have hQ11 := hQ10.tr (ro_oc _ ((n : Int) + 1))
    refine r_return rfl dX12_readOrder_131 ?_
    exact ⟨rfl, _, _, hM11, hQ11, rfl, hT11, hO11, FD11⟩
  · have hs6 : sNum T (tokAt T p).2.2 0 5 = .inr (x, q1) := by rw [show cLo k = 0 from if_neg hk6, show cHi k = 5 from if_neg hk6] at hsn; exact hsn
    refine r_aload_n dX12_readOrder_0 0 rfl ?_
    refine p_callV (As := []) (b := m) (rest := []) (w := (some (.int (iI ((k : Int)))))) (st' := [.int (iI ((k : Int)))]) kv_X12_readOrder_385 dX12_readOrder_1 rfl rfl (Nat.le_of_ble_eq_true rfl) (Nat.le_of_ble_eq_true rfl) (x_rv hM.1 hM.2 rfl) rfl rfl (c_X12_orderHere_b hM hT hA hl5 hg hb hGT hO hfn) rfl (fun h1 e1 => ?_)
    rw [show h1 = h from e1]
    refine r_istore_n (ls' := [(0, .ref m), (1, .int (iI ((k : Int))))]) dX12_readOrder_4 (by decide) rfl ?_
    refine r_aload_n dX12_readOrder_5 0 rfl ?_
    refine r_iload_n dX12_readOrder_6 1 rfl ?_
    refine i_const (-1) dX12_readOrder_7 ?_
    refine i_icmpeq dX12_readOrder_8 (tgt := 15) (by decide) (by unfold in32; omega) ⟨by decide, by decide⟩ (fun c => absurd c (by omega)) (fun _ => ?_)
    refine i_const (1) dX12_readOrder_11 ?_
    refine r_goto dX12_readOrder_12 (tgt := 16) (by decide) ?_
    refine i_const (1) dX12_readOrder_16 ?_
    refine p_callV (As := [.int (iI 1), .int (iI 1)]) (b := m) (rest := []) (w := none) (st' := []) kv_X12_readOrder_329 dX12_readOrder_17 rfl rfl (Nat.le_of_ble_eq_true rfl) (Nat.le_of_ble_eq_true rfl) (x_rv hM.1 hM.2 rfl) rfl rfl (c_X12_check_t hM hT) rfl (fun h2 e2 => ?_)
    obtain ⟨r2, hM2, hK2, hT2, F2⟩ := e2
    have hA2 := hA.obj hM F2
    have hO2 := hD.obj hM F2
    have FD2 : FRp [m, a.2.2.2.2.2.2.2.1] h h2 := FRm F2
    have hQ2 := hK2.ro
    have hC2 := hK2.2.2.trans hoc
    refine r_aload_n dX12_readOrder_20 0 rfl ?_
    refine r_aload_n dX12_readOrder_21 0 rfl ?_
    refine m_g_er (v := 0) hM2 hT2.2.2.2.2.2.1 kf_X12_303 dX12_readOrder_22 ?_
    refine i_ifne dX12_readOrder_25 (tgt := 37) (by decide) ⟨by decide, by decide⟩ (fun c => absurd c (by decide)) (fun _ => ?_)
    refine r_aload_n dX12_readOrder_28 0 rfl ?_
    refine m_g_oc (v := (n : Int)) hM2 hC2 kf_X12_388 dX12_readOrder_29 ?_
    refine i_bipush (20) (by decide) dX12_readOrder_32 ?_
    refine i_icmpge dX12_readOrder_34 (tgt := 41) (by decide) (by unfold in32; omega) ⟨by decide, by decide⟩ (fun c => absurd c (by omega)) (fun _ => ?_)
    refine i_const (1) dX12_readOrder_37 ?_
    refine r_goto dX12_readOrder_38 (tgt := 42) (by decide) ?_
    refine i_const (3) dX12_readOrder_42 ?_
    refine p_callV (As := [.int (iI 1), .int (iI 3)]) (b := m) (rest := []) (w := none) (st' := []) kv_X12_readOrder_329 dX12_readOrder_43 rfl rfl (Nat.le_of_ble_eq_true rfl) (Nat.le_of_ble_eq_true rfl) (x_rv hM2.1 hM2.2 rfl) rfl rfl (c_X12_check_t hM2 hT2) rfl (fun h3 e3 => ?_)
    obtain ⟨r3, hM3, hK3, hT3, F3⟩ := e3
    have hA3 := hA2.obj hM2 F3
    have hO3 := hO2.obj hM2 F3
    have FD3 : FRp [m, a.2.2.2.2.2.2.2.1] h h3 := FD2.tr (FRm F3)
    have hQ3 := hQ2.tr hK3.ro
    have hC3 := hK3.2.2.trans hC2
    refine r_aload_n dX12_readOrder_46 0 rfl ?_
    refine p_callV (As := []) (b := m) (rest := []) (w := none) (st' := []) kv_X12_readOrder_333 dX12_readOrder_47 rfl rfl (Nat.le_of_ble_eq_true rfl) (Nat.le_of_ble_eq_true rfl) (x_rv hM3.1 hM3.2 rfl) rfl rfl (c_X12_advance_k hM3 hT3 hA3 hl5 hg hb) rfl (fun h4 e4 => ?_)
    obtain ⟨r4, hM4, hK4, hT4, F4⟩ := e4
    have hA4 := hA3.obj hM3 F4
    have hO4 := hO3.obj hM3 F4
    have FD4 : FRp [m, a.2.2.2.2.2.2.2.1] h h4 := FD3.tr (FRm F4)
    have hQ4 := hQ3.tr hK4.ro
    have hC4 := hK4.2.2.trans hC3
    refine r_aload_n dX12_readOrder_50 0 rfl ?_
    refine m_g_er (v := 0) hM4 hT4.2.2.2.2.2.1 kf_X12_303 dX12_readOrder_51 ?_
    refine i_ifeq dX12_readOrder_54 (tgt := 58) (by decide) ⟨by decide, by decide⟩ (fun _ => ?_) (fun c => absurd c (by decide))
    refine i_const (3) dX12_readOrder_58 ?_
    refine r_aload_n dX12_readOrder_59 0 rfl ?_
    refine m_g_oc (v := (n : Int)) hM4 hC4 kf_X12_388 dX12_readOrder_60 ?_
    refine i_mul dX12_readOrder_63 ?_
    refine r_istore_n (ls' := [(0, .ref m), (1, .int (iI ((k : Int)))), (2, .int (iI (3 * (n : Int))))]) dX12_readOrder_64 (by decide) rfl ?_
    refine r_aload_n dX12_readOrder_65 0 rfl ?_
    refine m_g_od (v := a.2.2.2.2.2.2.2.1) hM4 rfl kf_X12_38 dX12_readOrder_66 ?_
    refine r_iload_n dX12_readOrder_69 2 rfl ?_
    refine r_iload_n dX12_readOrder_70 1 rfl ?_
    refine m_st (3 * n) (by omega) hO4 dX12_readOrder_71 (by omega) (by decide) (fun h5 hO5 F5 => ?_)
    have hM5 := hM4.row hO4 F5
    have hA5 := hA4.fr F5 (nm1 (ne_sz hA4.2 hO4.2 (by decide)))
    have FD5 : FRp [m, a.2.2.2.2.2.2.2.1] h h5 := FD4.tr (FRr F5)
    refine r_aload_n dX12_readOrder_72 0 rfl ?_
    refine m_g_od (v := a.2.2.2.2.2.2.2.1) hM5 rfl kf_X12_38 dX12_readOrder_73 ?_
    refine r_iload_n dX12_readOrder_76 2 rfl ?_
    refine i_const (1) dX12_readOrder_77 ?_
    refine i_add dX12_readOrder_78 ?_
    refine r_iload_n dX12_readOrder_79 1 rfl ?_
    refine i_bipush (6) (by decide) dX12_readOrder_80 ?_
    refine i_icmpne dX12_readOrder_82 (tgt := 95) (by decide) (by unfold in32; omega) ⟨by decide, by decide⟩ (fun _ => ?_) (fun c => absurd c (by omega))
    refine r_aload_n dX12_readOrder_95 0 rfl ?_
    refine i_const (0) dX12_readOrder_96 ?_
    refine i_const (5) dX12_readOrder_97 ?_
    refine p_callV (As := [.int (iI 0), .int (iI 5)]) (b := m) (rest := [.int (iI ((3 * (n : Int)) + 1)), .ref a.2.2.2.2.2.2.2.1]) (w := (some (.int (iI x)))) (st' := [.int (iI x), .int (iI ((3 * (n : Int)) + 1)), .ref a.2.2.2.2.2.2.2.1]) kv_X12_readOrder_357 dX12_readOrder_98 rfl rfl (Nat.le_of_ble_eq_true rfl) (Nat.le_of_ble_eq_true rfl) (x_rv hM5.1 hM5.2 rfl) rfl rfl (t_X12_readNumber_ok hM5 hT4 hA5 hl5 hg hb ⟨by decide, by decide⟩ ⟨by decide, by decide⟩ hs6) rfl (fun h6 e6 => ?_)
    obtain ⟨r6, hM6, hK6, hT6, F6⟩ := e6
    have hA6 := hA5.obj hM5 F6
    have hO6 := hO5.obj hM5 F6
    have FD6 : FRp [m, a.2.2.2.2.2.2.2.1] h h6 := FD5.tr (FRm F6)
    have hQ6 := hQ4.tr hK6.ro
    have hC6 := hK6.2.2.trans hC4
    refine m_st (3 * n + 1) (by omega) hO6 dX12_readOrder_101 (by omega) (by decide) (fun h7 hO7 F7 => ?_)
    have hM7 := hM6.row hO6 F7
    have hA7 := hA6.fr F7 (nm1 (ne_sz hA6.2 hO6.2 (by decide)))
    have FD7 : FRp [m, a.2.2.2.2.2.2.2.1] h h7 := FD6.tr (FRr F7)
    refine r_aload_n dX12_readOrder_102 0 rfl ?_
    refine m_g_od (v := a.2.2.2.2.2.2.2.1) hM7 rfl kf_X12_38 dX12_readOrder_103 ?_
    refine r_iload_n dX12_readOrder_106 2 rfl ?_
    refine i_const (2) dX12_readOrder_107 ?_
    refine i_add dX12_readOrder_108 ?_
    refine r_aload_n dX12_readOrder_109 0 rfl ?_
    refine r_iload_n dX12_readOrder_110 1 rfl ?_
    refine p_callV (As := [.int (iI ((k : Int)))]) (b := m) (rest := [.int (iI ((3 * (n : Int)) + 2)), .ref a.2.2.2.2.2.2.2.1]) (w := (some (.int (iI y)))) (st' := [.int (iI y), .int (iI ((3 * (n : Int)) + 2)), .ref a.2.2.2.2.2.2.2.1]) kv_X12_readOrder_391 dX12_readOrder_111 rfl rfl (Nat.le_of_ble_eq_true rfl) (Nat.le_of_ble_eq_true rfl) (x_rv hM7.1 hM7.2 rfl) rfl rfl (c_X12_readSecond_ok hM7 hT6 hA7 hl5 hg hb hk9 hss) rfl (fun h8 e8 => ?_)
    obtain ⟨r8, hM8, hK8, hT8, F8⟩ := e8
    have hA8 := hA7.obj hM7 F8
    have hO8 := hO7.obj hM7 F8
    have FD8 : FRp [m, a.2.2.2.2.2.2.2.1] h h8 := FD7.tr (FRm F8)
    have hQ8 := hQ6.tr hK8.ro
    have hC8 := hK8.2.2.trans hC6
    refine m_st (3 * n + 2) (by omega) hO8 dX12_readOrder_114 (by omega) (by decide) (fun h9 hO9 F9 => ?_)
    have hM9 := hM8.row hO8 F9
    have hA9 := hA8.fr F9 (nm1 (ne_sz hA8.2 hO8.2 (by decide)))
    have FD9 : FRp [m, a.2.2.2.2.2.2.2.1] h h9 := FD8.tr (FRr F9)
    refine r_aload_n dX12_readOrder_115 0 rfl ?_
    refine i_bipush (59) (by decide) dX12_readOrder_116 ?_
    refine p_callV (As := [.int (iI 59)]) (b := m) (rest := []) (w := none) (st' := []) kv_X12_readOrder_365 dX12_readOrder_118 rfl rfl (Nat.le_of_ble_eq_true rfl) (Nat.le_of_ble_eq_true rfl) (x_rv hM9.1 hM9.2 rfl) rfl rfl (t_X12_expect_ok hM9 hT8 hA9 hl5 hg hb hsx) rfl (fun h10 e10 => ?_)
    obtain ⟨r10, hM10, hK10, hT10, F10⟩ := e10
    have hA10 := hA9.obj hM9 F10
    have hO10 := hO9.obj hM9 F10
    have FD10 : FRp [m, a.2.2.2.2.2.2.2.1] h h10 := FD9.tr (FRm F10)
    have hQ10 := hQ8.tr hK10.ro
    have hC10 := hK10.2.2.trans hC8
    refine r_aload_n dX12_readOrder_121 0 rfl ?_
    refine r_dup dX12_readOrder_122 rfl ?_
    refine m_g_oc (v := (n : Int)) hM10 hC10 kf_X12_388 dX12_readOrder_123 ?_
    refine i_const (1) dX12_readOrder_126 ?_
    refine i_add dX12_readOrder_127 ?_
    refine m_p_oc (v := (n : Int) + 1) hM10 kf_X12_388 dX12_readOrder_128 (fun h11 hM11 F11 => ?_)
    have hA11 := hA10.obj hM10 F11
    have hO11 := hO10.obj hM10 F11
    have FD11 : FRp [m, a.2.2.2.2.2.2.2.1] h h11 := FD10.tr (FRm F11)
    have hT11 := ts_oc hT10 ((n : Int) + 1)
    have hQ11 := hQ10.tr (ro_oc _ ((n : Int) + 1))
    refine r_return rfl dX12_readOrder_131 ?_
    exact ⟨rfl, _, _, hM11, hQ11, rfl, hT11, hO11, FD11⟩
