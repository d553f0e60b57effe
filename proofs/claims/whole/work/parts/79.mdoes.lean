/-! ===== the reference: a script that is done ===== -/
def ORL (g : Nat → Int32) : Nat → List CM → Prop
  | _, [] => True
  | j, c :: cs => (g (3 * j) = iI (c.1 : Int) ∧ g (3 * j + 1) = iI c.2.1 ∧ g (3 * j + 2) = iI c.2.2) ∧ ORL g (j + 1) cs
theorem ORL.push {g g' : Nat → Int32} {c : CM} : ∀ {cs : List CM} {j : Nat}, ORL g j cs → (∀ k, k < 3 * (j + cs.length) → g' k = g k) → (g' (3 * (j + cs.length)) = iI (c.1 : Int) ∧ g' (3 * (j + cs.length) + 1) = iI c.2.1 ∧ g' (3 * (j + cs.length) + 2) = iI c.2.2) → ORL g' j (cs ++ [c]) := by
  intro cs
  induction cs with
  | nil => intro j h he hc; exact ⟨hc, True.intro⟩
  | cons d cs ih =>
    intro j h he hc
    have hl : (d :: cs).length = cs.length + 1 := rfl
    rw [hl] at he hc
    refine ⟨⟨(he _ (by omega)).trans h.1.1, (he _ (by omega)).trans h.1.2.1, (he _ (by omega)).trans h.1.2.2⟩, ih h.2 (fun k hk => he k (by omega)) ?_⟩
    rw [show j + 1 + cs.length = j + (cs.length + 1) by omega]
    exact hc
theorem OWS.fr {G : xG} {h h' : xH} {ow : Nat} {sa : Nat → Nat} {fp : List Nat} (hO : OWS G h ow sa) (hF : FRp fp h h') (hn : ow ∉ fp) : OWS G h' ow sa := by
  obtain ⟨o1, gw, o2, o3⟩ := hO
  exact ⟨by rw [hF.1]; exact o1, gw, (hF.2 _ hn).trans o2, o3⟩
theorem OWS.nmo {G : xG} {h : xH} {m : Nat} {a : MA} {r : MR} {od : Nat} {gq : Nat → Int32} {ow : Nat} {sa : Nat → Nat} (hO : OWS G h ow sa) (hM : MO G h m a r) (hD : AR G h od 60 gq) : ow ∉ [m, od] := by
  obtain ⟨o1, gw, o2, o3⟩ := hO
  exact nm2 (ne_oi hM.2 o2).symm (ne_qi o2 hD.2)
set_option maxRecDepth 20000 in
set_option maxHeartbeats 1000000 in
theorem b_X12_does_0 {G : xG} {h : xH} {sa : Nat → Nat} {m : Nat} {a : MA} {r : MR} {S : XS} {kb : Option AB} (hB : MBr G h sa m a r S kb) (hWB : WB S.2.2.1) (hcb : cnt isC S.2.2.1.2 ≤ 3) {gq : Nat → Int32} (hD : AR G h a.2.2.2.2.2.2.2.1 60 gq) {j : Nat} (hj : j < 20) {k : Nat} {x y : Int} (hcm : CMok (k, x, y)) (q0 : gq (3 * j) = iI (k : Int)) (q1 : gq (3 * j + 1) = iI x) (q2 : gq (3 * j + 2) = iI y) (h0 : rCmd k S.2.2.1 x y = 0) : CC G MX12_does [.ref m, .int (iI (3 * (j : Int)))] h (fun o9 h' => o9 = .inl (some (.int (iI 0))) ∧ ∃ r', MBr G h' sa m a r' (S.1, S.2.1, aCmd k S.2.2.1 x y, S.2.2.2) kb ∧ RT r r' ∧ FRp [m, r.1] h h') := by
  obtain ⟨g, hR, hRW⟩ := hB.now
  have hyy0 := hcm.2.2.2
  have hy : in32 y := by have z : 0 ≤ y ∧ y ≤ 5 := hyy0; unfold in32; omega
  rcases k9 hcm.1 with e9 | e9 | e9 | e9 | e9 | e9 | e9 | e9 | e9 <;> (dsimp only at e9; subst e9)
  · have hxx : 0 ≤ x ∧ x ≤ 5 := hcm.2.1
    have hx : in32 x := by unfold in32; omega
    have hyy : 2 ≤ y ∧ y ≤ 4 := hcm.2.2.1 (show (0 : Nat) ≤ 1 by decide)
    show RR G MX12_does 0 [(0, .ref m), (1, .int (iI (3 * (j : Int))))] [] h (xm_R MX12_does).cells (xm_R MX12_does).slots (fun o9 h' => o9 = .inl (some (.int (iI 0))) ∧ ∃ r', MBr G h' sa m a r' (S.1, S.2.1, aCmd 0 S.2.2.1 x y, S.2.2.2) kb ∧ RT r r' ∧ FRp [m, r.1] h h')
    refine r_aload_n dX12_does_0 0 rfl ?_
    refine m_g_od (v := a.2.2.2.2.2.2.2.1) hB.1 rfl kf_X12_38 dX12_does_1 ?_
    refine r_iload_n dX12_does_4 1 rfl ?_
    refine i_const (1) dX12_does_5 ?_
    refine i_add dX12_does_6 ?_
    refine m_ld (v := iI x) (3 * j + 1) (by omega) q1 hD dX12_does_7 (by omega) (by decide) ?_
    refine r_istore_n (ls' := [(0, .ref m), (1, .int (iI (3 * (j : Int)))), (2, .int (iI x))]) dX12_does_8 (by decide) rfl ?_
    refine r_aload_n dX12_does_9 0 rfl ?_
    refine m_g_od (v := a.2.2.2.2.2.2.2.1) hB.1 rfl kf_X12_38 dX12_does_10 ?_
    refine r_iload_n dX12_does_13 1 rfl ?_
    refine i_const (2) dX12_does_14 ?_
    refine i_add dX12_does_15 ?_
    refine m_ld (v := iI y) (3 * j + 2) (by omega) q2 hD dX12_does_16 (by omega) (by decide) ?_
    refine r_istore_n (ls' := [(0, .ref m), (1, .int (iI (3 * (j : Int)))), (2, .int (iI x)), (3, .int (iI y))]) dX12_does_17 (by decide) rfl ?_
    refine r_aload_n dX12_does_18 0 rfl ?_
    refine m_g_od (v := a.2.2.2.2.2.2.2.1) hB.1 rfl kf_X12_38 dX12_does_19 ?_
    refine r_iload_n dX12_does_22 1 rfl ?_
    refine m_ld (v := iI 0) (3 * j) (by omega) q0 hD dX12_does_23 (by omega) (by decide) ?_
    refine r_tableIn dX12_does_24 (by decide) (by decide) (off := 48) (by decide) (tgt := 72) (by decide) ?_
    refine r_aload_n dX12_does_72 0 rfl ?_
    refine r_iload_n dX12_does_73 2 rfl ?_
    refine r_iload_n dX12_does_74 3 rfl ?_
    refine p_callV (As := [.int (iI x), .int (iI y)]) (b := m) (rest := []) (w := (some (.int (iI 0)))) (st' := [.int (iI 0)]) kv_X12_does_233 dX12_does_75 rfl rfl (Nat.le_of_ble_eq_true rfl) (Nat.le_of_ble_eq_true rfl) (x_rv hB.1.1 hB.1.2 rfl) rfl rfl (d0_X12_doFold hB.1 hR hRW hWB hcb hx hy h0) rfl (fun h1 e1 => ?_)
    obtain ⟨r1, g1, hM1, hK1, hV1, hR1, hW1, F1⟩ := e1
    refine r_ireturn rfl rfl dX12_does_78 ?_
    exact ⟨rfl, r1, hB.row hM1 hK1.1 hR1 hW1 F1, hK1, F1⟩
  · have hxx : 0 ≤ x ∧ x ≤ 5 := hcm.2.1
    have hx : in32 x := by unfold in32; omega
    have hyy : 2 ≤ y ∧ y ≤ 4 := hcm.2.2.1 (show (1 : Nat) ≤ 1 by decide)
    show RR G MX12_does 0 [(0, .ref m), (1, .int (iI (3 * (j : Int))))] [] h (xm_R MX12_does).cells (xm_R MX12_does).slots (fun o9 h' => o9 = .inl (some (.int (iI 0))) ∧ ∃ r', MBr G h' sa m a r' (S.1, S.2.1, aCmd 1 S.2.2.1 x y, S.2.2.2) kb ∧ RT r r' ∧ FRp [m, r.1] h h')
    refine r_aload_n dX12_does_0 0 rfl ?_
    refine m_g_od (v := a.2.2.2.2.2.2.2.1) hB.1 rfl kf_X12_38 dX12_does_1 ?_
    refine r_iload_n dX12_does_4 1 rfl ?_
    refine i_const (1) dX12_does_5 ?_
    refine i_add dX12_does_6 ?_
    refine m_ld (v := iI x) (3 * j + 1) (by omega) q1 hD dX12_does_7 (by omega) (by decide) ?_
    refine r_istore_n (ls' := [(0, .ref m), (1, .int (iI (3 * (j : Int)))), (2, .int (iI x))]) dX12_does_8 (by decide) rfl ?_
    refine r_aload_n dX12_does_9 0 rfl ?_
    refine m_g_od (v := a.2.2.2.2.2.2.2.1) hB.1 rfl kf_X12_38 dX12_does_10 ?_
    refine r_iload_n dX12_does_13 1 rfl ?_
    refine i_const (2) dX12_does_14 ?_
    refine i_add dX12_does_15 ?_
    refine m_ld (v := iI y) (3 * j + 2) (by omega) q2 hD dX12_does_16 (by omega) (by decide) ?_
    refine r_istore_n (ls' := [(0, .ref m), (1, .int (iI (3 * (j : Int)))), (2, .int (iI x)), (3, .int (iI y))]) dX12_does_17 (by decide) rfl ?_
    refine r_aload_n dX12_does_18 0 rfl ?_
    refine m_g_od (v := a.2.2.2.2.2.2.2.1) hB.1 rfl kf_X12_38 dX12_does_19 ?_
    refine r_iload_n dX12_does_22 1 rfl ?_
    refine m_ld (v := iI 1) (3 * j) (by omega) q0 hD dX12_does_23 (by omega) (by decide) ?_
    refine r_tableIn dX12_does_24 (by decide) (by decide) (off := 55) (by decide) (tgt := 79) (by decide) ?_
    refine r_aload_n dX12_does_79 0 rfl ?_
    refine r_iload_n dX12_does_80 2 rfl ?_
    refine r_iload_n dX12_does_81 3 rfl ?_
    refine p_callV (As := [.int (iI x), .int (iI y)]) (b := m) (rest := []) (w := (some (.int (iI 0)))) (st' := [.int (iI 0)]) kv_X12_does_239 dX12_does_82 rfl rfl (Nat.le_of_ble_eq_true rfl) (Nat.le_of_ble_eq_true rfl) (x_rv hB.1.1 hB.1.2 rfl) rfl rfl (d0_X12_doRoll hB.1 hR hRW hWB hcb hx hy h0) rfl (fun h1 e1 => ?_)
    obtain ⟨r1, g1, hM1, hK1, hV1, hR1, hW1, F1⟩ := e1
    refine r_ireturn rfl rfl dX12_does_85 ?_
    exact ⟨rfl, r1, hB.row hM1 hK1.1 hR1 hW1 F1, hK1, F1⟩
  · have hxx : 0 ≤ x ∧ x ≤ 5 := hcm.2.1
    have hx : in32 x := by unfold in32; omega
    show RR G MX12_does 0 [(0, .ref m), (1, .int (iI (3 * (j : Int))))] [] h (xm_R MX12_does).cells (xm_R MX12_does).slots (fun o9 h' => o9 = .inl (some (.int (iI 0))) ∧ ∃ r', MBr G h' sa m a r' (S.1, S.2.1, aCmd 2 S.2.2.1 x y, S.2.2.2) kb ∧ RT r r' ∧ FRp [m, r.1] h h')
    refine r_aload_n dX12_does_0 0 rfl ?_
    refine m_g_od (v := a.2.2.2.2.2.2.2.1) hB.1 rfl kf_X12_38 dX12_does_1 ?_
    refine r_iload_n dX12_does_4 1 rfl ?_
    refine i_const (1) dX12_does_5 ?_
    refine i_add dX12_does_6 ?_
    refine m_ld (v := iI x) (3 * j + 1) (by omega) q1 hD dX12_does_7 (by omega) (by decide) ?_
    refine r_istore_n (ls' := [(0, .ref m), (1, .int (iI (3 * (j : Int)))), (2, .int (iI x))]) dX12_does_8 (by decide) rfl ?_
    refine r_aload_n dX12_does_9 0 rfl ?_
    refine m_g_od (v := a.2.2.2.2.2.2.2.1) hB.1 rfl kf_X12_38 dX12_does_10 ?_
    refine r_iload_n dX12_does_13 1 rfl ?_
    refine i_const (2) dX12_does_14 ?_
    refine i_add dX12_does_15 ?_
    refine m_ld (v := iI y) (3 * j + 2) (by omega) q2 hD dX12_does_16 (by omega) (by decide) ?_
    refine r_istore_n (ls' := [(0, .ref m), (1, .int (iI (3 * (j : Int)))), (2, .int (iI x)), (3, .int (iI y))]) dX12_does_17 (by decide) rfl ?_
    refine r_aload_n dX12_does_18 0 rfl ?_
    refine m_g_od (v := a.2.2.2.2.2.2.2.1) hB.1 rfl kf_X12_38 dX12_does_19 ?_
    refine r_iload_n dX12_does_22 1 rfl ?_
    refine m_ld (v := iI 2) (3 * j) (by omega) q0 hD dX12_does_23 (by omega) (by decide) ?_
    refine r_tableIn dX12_does_24 (by decide) (by decide) (off := 62) (by decide) (tgt := 86) (by decide) ?_
    refine r_aload_n dX12_does_86 0 rfl ?_
    refine r_iload_n dX12_does_87 2 rfl ?_
    refine p_callV (As := [.int (iI x)]) (b := m) (rest := []) (w := (some (.int (iI 0)))) (st' := [.int (iI 0)]) kv_X12_does_242 dX12_does_88 rfl rfl (Nat.le_of_ble_eq_true rfl) (Nat.le_of_ble_eq_true rfl) (x_rv hB.1.1 hB.1.2 rfl) rfl rfl (d0_X12_doDust hB.1 hR hRW hWB hcb hx hy h0) rfl (fun h1 e1 => ?_)
    obtain ⟨r1, g1, hM1, hK1, hV1, hR1, hW1, F1⟩ := e1
    refine r_ireturn rfl rfl dX12_does_91 ?_
    exact ⟨rfl, r1, hB.row hM1 hK1.1 hR1 hW1 F1, hK1, F1⟩
  · have hxx : 0 ≤ x ∧ x ≤ 5 := hcm.2.1
    have hx : in32 x := by unfold in32; omega
    show RR G MX12_does 0 [(0, .ref m), (1, .int (iI (3 * (j : Int))))] [] h (xm_R MX12_does).cells (xm_R MX12_does).slots (fun o9 h' => o9 = .inl (some (.int (iI 0))) ∧ ∃ r', MBr G h' sa m a r' (S.1, S.2.1, aCmd 3 S.2.2.1 x y, S.2.2.2) kb ∧ RT r r' ∧ FRp [m, r.1] h h')
    refine r_aload_n dX12_does_0 0 rfl ?_
    refine m_g_od (v := a.2.2.2.2.2.2.2.1) hB.1 rfl kf_X12_38 dX12_does_1 ?_
    refine r_iload_n dX12_does_4 1 rfl ?_
    refine i_const (1) dX12_does_5 ?_
    refine i_add dX12_does_6 ?_
    refine m_ld (v := iI x) (3 * j + 1) (by omega) q1 hD dX12_does_7 (by omega) (by decide) ?_
    refine r_istore_n (ls' := [(0, .ref m), (1, .int (iI (3 * (j : Int)))), (2, .int (iI x))]) dX12_does_8 (by decide) rfl ?_
    refine r_aload_n dX12_does_9 0 rfl ?_
    refine m_g_od (v := a.2.2.2.2.2.2.2.1) hB.1 rfl kf_X12_38 dX12_does_10 ?_
    refine r_iload_n dX12_does_13 1 rfl ?_
    refine i_const (2) dX12_does_14 ?_
    refine i_add dX12_does_15 ?_
    refine m_ld (v := iI y) (3 * j + 2) (by omega) q2 hD dX12_does_16 (by omega) (by decide) ?_
    refine r_istore_n (ls' := [(0, .ref m), (1, .int (iI (3 * (j : Int)))), (2, .int (iI x)), (3, .int (iI y))]) dX12_does_17 (by decide) rfl ?_
    refine r_aload_n dX12_does_18 0 rfl ?_
    refine m_g_od (v := a.2.2.2.2.2.2.2.1) hB.1 rfl kf_X12_38 dX12_does_19 ?_
    refine r_iload_n dX12_does_22 1 rfl ?_
    refine m_ld (v := iI 3) (3 * j) (by omega) q0 hD dX12_does_23 (by omega) (by decide) ?_
    refine r_tableIn dX12_does_24 (by decide) (by decide) (off := 68) (by decide) (tgt := 92) (by decide) ?_
    refine r_aload_n dX12_does_92 0 rfl ?_
    refine r_iload_n dX12_does_93 2 rfl ?_
    refine p_callV (As := [.int (iI x)]) (b := m) (rest := []) (w := (some (.int (iI 0)))) (st' := [.int (iI 0)]) kv_X12_does_245 dX12_does_94 rfl rfl (Nat.le_of_ble_eq_true rfl) (Nat.le_of_ble_eq_true rfl) (x_rv hB.1.1 hB.1.2 rfl) rfl rfl (d0_X12_doSeal hB.1 hR hRW hWB hcb hx hy h0) rfl (fun h1 e1 => ?_)
    obtain ⟨r1, g1, hM1, hK1, hV1, hR1, hW1, F1⟩ := e1
    refine r_ireturn rfl rfl dX12_does_97 ?_
    exact ⟨rfl, r1, hB.row hM1 hK1.1 hR1 hW1 F1, hK1, F1⟩
  · have hxx : 0 ≤ x ∧ x ≤ 5 := hcm.2.1
    have hx : in32 x := by unfold in32; omega
    show RR G MX12_does 0 [(0, .ref m), (1, .int (iI (3 * (j : Int))))] [] h (xm_R MX12_does).cells (xm_R MX12_does).slots (fun o9 h' => o9 = .inl (some (.int (iI 0))) ∧ ∃ r', MBr G h' sa m a r' (S.1, S.2.1, aCmd 4 S.2.2.1 x y, S.2.2.2) kb ∧ RT r r' ∧ FRp [m, r.1] h h')
    refine r_aload_n dX12_does_0 0 rfl ?_
    refine m_g_od (v := a.2.2.2.2.2.2.2.1) hB.1 rfl kf_X12_38 dX12_does_1 ?_
    refine r_iload_n dX12_does_4 1 rfl ?_
    refine i_const (1) dX12_does_5 ?_
    refine i_add dX12_does_6 ?_
    refine m_ld (v := iI x) (3 * j + 1) (by omega) q1 hD dX12_does_7 (by omega) (by decide) ?_
    refine r_istore_n (ls' := [(0, .ref m), (1, .int (iI (3 * (j : Int)))), (2, .int (iI x))]) dX12_does_8 (by decide) rfl ?_
    refine r_aload_n dX12_does_9 0 rfl ?_
    refine m_g_od (v := a.2.2.2.2.2.2.2.1) hB.1 rfl kf_X12_38 dX12_does_10 ?_
    refine r_iload_n dX12_does_13 1 rfl ?_
    refine i_const (2) dX12_does_14 ?_
    refine i_add dX12_does_15 ?_
    refine m_ld (v := iI y) (3 * j + 2) (by omega) q2 hD dX12_does_16 (by omega) (by decide) ?_
    refine r_istore_n (ls' := [(0, .ref m), (1, .int (iI (3 * (j : Int)))), (2, .int (iI x)), (3, .int (iI y))]) dX12_does_17 (by decide) rfl ?_
    refine r_aload_n dX12_does_18 0 rfl ?_
    refine m_g_od (v := a.2.2.2.2.2.2.2.1) hB.1 rfl kf_X12_38 dX12_does_19 ?_
    refine r_iload_n dX12_does_22 1 rfl ?_
    refine m_ld (v := iI 4) (3 * j) (by omega) q0 hD dX12_does_23 (by omega) (by decide) ?_
    refine r_tableIn dX12_does_24 (by decide) (by decide) (off := 74) (by decide) (tgt := 98) (by decide) ?_
    refine r_aload_n dX12_does_98 0 rfl ?_
    refine r_iload_n dX12_does_99 2 rfl ?_
    refine p_callV (As := [.int (iI x)]) (b := m) (rest := []) (w := (some (.int (iI 0)))) (st' := [.int (iI 0)]) kv_X12_does_248 dX12_does_100 rfl rfl (Nat.le_of_ble_eq_true rfl) (Nat.le_of_ble_eq_true rfl) (x_rv hB.1.1 hB.1.2 rfl) rfl rfl (d0_X12_doCool hB.1 hR hRW hWB hcb hx hy h0) rfl (fun h1 e1 => ?_)
    obtain ⟨r1, g1, hM1, hK1, hV1, hR1, hW1, F1⟩ := e1
    refine r_ireturn rfl rfl dX12_does_103 ?_
    exact ⟨rfl, r1, hB.row hM1 hK1.1 hR1 hW1 F1, hK1, F1⟩
  · have hxx : 0 ≤ x ∧ x ≤ 5 := hcm.2.1
    have hx : in32 x := by unfold in32; omega
    show RR G MX12_does 0 [(0, .ref m), (1, .int (iI (3 * (j : Int))))] [] h (xm_R MX12_does).cells (xm_R MX12_does).slots (fun o9 h' => o9 = .inl (some (.int (iI 0))) ∧ ∃ r', MBr G h' sa m a r' (S.1, S.2.1, aCmd 5 S.2.2.1 x y, S.2.2.2) kb ∧ RT r r' ∧ FRp [m, r.1] h h')
    refine r_aload_n dX12_does_0 0 rfl ?_
    refine m_g_od (v := a.2.2.2.2.2.2.2.1) hB.1 rfl kf_X12_38 dX12_does_1 ?_
    refine r_iload_n dX12_does_4 1 rfl ?_
    refine i_const (1) dX12_does_5 ?_
    refine i_add dX12_does_6 ?_
    refine m_ld (v := iI x) (3 * j + 1) (by omega) q1 hD dX12_does_7 (by omega) (by decide) ?_
    refine r_istore_n (ls' := [(0, .ref m), (1, .int (iI (3 * (j : Int)))), (2, .int (iI x))]) dX12_does_8 (by decide) rfl ?_
    refine r_aload_n dX12_does_9 0 rfl ?_
    refine m_g_od (v := a.2.2.2.2.2.2.2.1) hB.1 rfl kf_X12_38 dX12_does_10 ?_
    refine r_iload_n dX12_does_13 1 rfl ?_
    refine i_const (2) dX12_does_14 ?_
    refine i_add dX12_does_15 ?_
    refine m_ld (v := iI y) (3 * j + 2) (by omega) q2 hD dX12_does_16 (by omega) (by decide) ?_
    refine r_istore_n (ls' := [(0, .ref m), (1, .int (iI (3 * (j : Int)))), (2, .int (iI x)), (3, .int (iI y))]) dX12_does_17 (by decide) rfl ?_
    refine r_aload_n dX12_does_18 0 rfl ?_
    refine m_g_od (v := a.2.2.2.2.2.2.2.1) hB.1 rfl kf_X12_38 dX12_does_19 ?_
    refine r_iload_n dX12_does_22 1 rfl ?_
    refine m_ld (v := iI 5) (3 * j) (by omega) q0 hD dX12_does_23 (by omega) (by decide) ?_
    refine r_tableIn dX12_does_24 (by decide) (by decide) (off := 80) (by decide) (tgt := 104) (by decide) ?_
    refine r_aload_n dX12_does_104 0 rfl ?_
    refine r_iload_n dX12_does_105 2 rfl ?_
    refine p_callV (As := [.int (iI x)]) (b := m) (rest := []) (w := (some (.int (iI 0)))) (st' := [.int (iI 0)]) kv_X12_does_251 dX12_does_106 rfl rfl (Nat.le_of_ble_eq_true rfl) (Nat.le_of_ble_eq_true rfl) (x_rv hB.1.1 hB.1.2 rfl) rfl rfl (d0_X12_doTakeOut hB.1 hR hRW hWB hcb hx hy h0) rfl (fun h1 e1 => ?_)
    obtain ⟨r1, g1, hM1, hK1, hV1, hR1, hW1, F1⟩ := e1
    refine r_ireturn rfl rfl dX12_does_109 ?_
    exact ⟨rfl, r1, hB.row hM1 hK1.1 hR1 hW1 F1, hK1, F1⟩
  · have hxx : 1 ≤ x ∧ x ≤ 24 := hcm.2.1
    have hx : in32 x := by unfold in32; omega
    show RR G MX12_does 0 [(0, .ref m), (1, .int (iI (3 * (j : Int))))] [] h (xm_R MX12_does).cells (xm_R MX12_does).slots (fun o9 h' => o9 = .inl (some (.int (iI 0))) ∧ ∃ r', MBr G h' sa m a r' (S.1, S.2.1, aCmd 6 S.2.2.1 x y, S.2.2.2) kb ∧ RT r r' ∧ FRp [m, r.1] h h')
    refine r_aload_n dX12_does_0 0 rfl ?_
    refine m_g_od (v := a.2.2.2.2.2.2.2.1) hB.1 rfl kf_X12_38 dX12_does_1 ?_
    refine r_iload_n dX12_does_4 1 rfl ?_
    refine i_const (1) dX12_does_5 ?_
    refine i_add dX12_does_6 ?_
    refine m_ld (v := iI x) (3 * j + 1) (by omega) q1 hD dX12_does_7 (by omega) (by decide) ?_
    refine r_istore_n (ls' := [(0, .ref m), (1, .int (iI (3 * (j : Int)))), (2, .int (iI x))]) dX12_does_8 (by decide) rfl ?_
    refine r_aload_n dX12_does_9 0 rfl ?_
    refine m_g_od (v := a.2.2.2.2.2.2.2.1) hB.1 rfl kf_X12_38 dX12_does_10 ?_
    refine r_iload_n dX12_does_13 1 rfl ?_
    refine i_const (2) dX12_does_14 ?_
    refine i_add dX12_does_15 ?_
    refine m_ld (v := iI y) (3 * j + 2) (by omega) q2 hD dX12_does_16 (by omega) (by decide) ?_
    refine r_istore_n (ls' := [(0, .ref m), (1, .int (iI (3 * (j : Int)))), (2, .int (iI x)), (3, .int (iI y))]) dX12_does_17 (by decide) rfl ?_
    refine r_aload_n dX12_does_18 0 rfl ?_
    refine m_g_od (v := a.2.2.2.2.2.2.2.1) hB.1 rfl kf_X12_38 dX12_does_19 ?_
    refine r_iload_n dX12_does_22 1 rfl ?_
    refine m_ld (v := iI 6) (3 * j) (by omega) q0 hD dX12_does_23 (by omega) (by decide) ?_
    refine r_tableIn dX12_does_24 (by decide) (by decide) (off := 86) (by decide) (tgt := 110) (by decide) ?_
    refine r_aload_n dX12_does_110 0 rfl ?_
    refine r_iload_n dX12_does_111 2 rfl ?_
    refine p_callV (As := [.int (iI x)]) (b := m) (rest := []) (w := (some (.int (iI 0)))) (st' := [.int (iI 0)]) kv_X12_does_254 dX12_does_112 rfl rfl (Nat.le_of_ble_eq_true rfl) (Nat.le_of_ble_eq_true rfl) (x_rv hB.1.1 hB.1.2 rfl) rfl rfl (d0_X12_doHours hB.1 hR hRW hWB hcb hx hy h0) rfl (fun h1 e1 => ?_)
    obtain ⟨r1, g1, hM1, hK1, hV1, hR1, hW1, F1⟩ := e1
    refine r_ireturn rfl rfl dX12_does_115 ?_
    exact ⟨rfl, r1, hB.row hM1 hK1.1 hR1 hW1 F1, hK1, F1⟩
  · have hxx : 0 ≤ x ∧ x ≤ 5 := hcm.2.1
    have hx : in32 x := by unfold in32; omega
    show RR G MX12_does 0 [(0, .ref m), (1, .int (iI (3 * (j : Int))))] [] h (xm_R MX12_does).cells (xm_R MX12_does).slots (fun o9 h' => o9 = .inl (some (.int (iI 0))) ∧ ∃ r', MBr G h' sa m a r' (S.1, S.2.1, aCmd 7 S.2.2.1 x y, S.2.2.2) kb ∧ RT r r' ∧ FRp [m, r.1] h h')
    refine r_aload_n dX12_does_0 0 rfl ?_
    refine m_g_od (v := a.2.2.2.2.2.2.2.1) hB.1 rfl kf_X12_38 dX12_does_1 ?_
    refine r_iload_n dX12_does_4 1 rfl ?_
    refine i_const (1) dX12_does_5 ?_
    refine i_add dX12_does_6 ?_
    refine m_ld (v := iI x) (3 * j + 1) (by omega) q1 hD dX12_does_7 (by omega) (by decide) ?_
    refine r_istore_n (ls' := [(0, .ref m), (1, .int (iI (3 * (j : Int)))), (2, .int (iI x))]) dX12_does_8 (by decide) rfl ?_
    refine r_aload_n dX12_does_9 0 rfl ?_
    refine m_g_od (v := a.2.2.2.2.2.2.2.1) hB.1 rfl kf_X12_38 dX12_does_10 ?_
    refine r_iload_n dX12_does_13 1 rfl ?_
    refine i_const (2) dX12_does_14 ?_
    refine i_add dX12_does_15 ?_
    refine m_ld (v := iI y) (3 * j + 2) (by omega) q2 hD dX12_does_16 (by omega) (by decide) ?_
    refine r_istore_n (ls' := [(0, .ref m), (1, .int (iI (3 * (j : Int)))), (2, .int (iI x)), (3, .int (iI y))]) dX12_does_17 (by decide) rfl ?_
    refine r_aload_n dX12_does_18 0 rfl ?_
    refine m_g_od (v := a.2.2.2.2.2.2.2.1) hB.1 rfl kf_X12_38 dX12_does_19 ?_
    refine r_iload_n dX12_does_22 1 rfl ?_
    refine m_ld (v := iI 7) (3 * j) (by omega) q0 hD dX12_does_23 (by omega) (by decide) ?_
    refine r_tableIn dX12_does_24 (by decide) (by decide) (off := 92) (by decide) (tgt := 116) (by decide) ?_
    refine r_aload_n dX12_does_116 0 rfl ?_
    refine r_iload_n dX12_does_117 2 rfl ?_
    refine p_callV (As := [.int (iI x)]) (b := m) (rest := []) (w := (some (.int (iI 0)))) (st' := [.int (iI 0)]) kv_X12_does_257 dX12_does_118 rfl rfl (Nat.le_of_ble_eq_true rfl) (Nat.le_of_ble_eq_true rfl) (x_rv hB.1.1 hB.1.2 rfl) rfl rfl (d0_X12_doCut hB.1 hR hRW hWB hcb hx hy h0) rfl (fun h1 e1 => ?_)
    obtain ⟨r1, g1, hM1, hK1, hV1, hR1, hW1, F1⟩ := e1
    refine r_ireturn rfl rfl dX12_does_121 ?_
    exact ⟨rfl, r1, hB.row hM1 hK1.1 hR1 hW1 F1, hK1, F1⟩
  · have hxx : 0 ≤ x ∧ x ≤ 5 := hcm.2.1
    have hx : in32 x := by unfold in32; omega
    show RR G MX12_does 0 [(0, .ref m), (1, .int (iI (3 * (j : Int))))] [] h (xm_R MX12_does).cells (xm_R MX12_does).slots (fun o9 h' => o9 = .inl (some (.int (iI 0))) ∧ ∃ r', MBr G h' sa m a r' (S.1, S.2.1, aCmd 8 S.2.2.1 x y, S.2.2.2) kb ∧ RT r r' ∧ FRp [m, r.1] h h')
    refine r_aload_n dX12_does_0 0 rfl ?_
    refine m_g_od (v := a.2.2.2.2.2.2.2.1) hB.1 rfl kf_X12_38 dX12_does_1 ?_
    refine r_iload_n dX12_does_4 1 rfl ?_
    refine i_const (1) dX12_does_5 ?_
    refine i_add dX12_does_6 ?_
    refine m_ld (v := iI x) (3 * j + 1) (by omega) q1 hD dX12_does_7 (by omega) (by decide) ?_
    refine r_istore_n (ls' := [(0, .ref m), (1, .int (iI (3 * (j : Int)))), (2, .int (iI x))]) dX12_does_8 (by decide) rfl ?_
    refine r_aload_n dX12_does_9 0 rfl ?_
    refine m_g_od (v := a.2.2.2.2.2.2.2.1) hB.1 rfl kf_X12_38 dX12_does_10 ?_
    refine r_iload_n dX12_does_13 1 rfl ?_
    refine i_const (2) dX12_does_14 ?_
    refine i_add dX12_does_15 ?_
    refine m_ld (v := iI y) (3 * j + 2) (by omega) q2 hD dX12_does_16 (by omega) (by decide) ?_
    refine r_istore_n (ls' := [(0, .ref m), (1, .int (iI (3 * (j : Int)))), (2, .int (iI x)), (3, .int (iI y))]) dX12_does_17 (by decide) rfl ?_
    refine r_aload_n dX12_does_18 0 rfl ?_
    refine m_g_od (v := a.2.2.2.2.2.2.2.1) hB.1 rfl kf_X12_38 dX12_does_19 ?_
    refine r_iload_n dX12_does_22 1 rfl ?_
    refine m_ld (v := iI 8) (3 * j) (by omega) q0 hD dX12_does_23 (by omega) (by decide) ?_
    refine r_tableOut dX12_does_24 (Or.inr (by decide)) (tgt := 122) (by decide) ?_
    refine r_aload_n dX12_does_122 0 rfl ?_
    refine r_iload_n dX12_does_123 2 rfl ?_
    refine r_iload_n dX12_does_124 3 rfl ?_
    refine p_callV (As := [.int (iI x), .int (iI y)]) (b := m) (rest := []) (w := (some (.int (iI 0)))) (st' := [.int (iI 0)]) kv_X12_does_260 dX12_does_125 rfl rfl (Nat.le_of_ble_eq_true rfl) (Nat.le_of_ble_eq_true rfl) (x_rv hB.1.1 hB.1.2 rfl) rfl rfl (d0_X12_doStack hB.1 hR hRW hWB hcb hx hy h0) rfl (fun h1 e1 => ?_)
    obtain ⟨r1, g1, hM1, hK1, hV1, hR1, hW1, F1⟩ := e1
    refine r_ireturn rfl rfl dX12_does_128 ?_
    exact ⟨rfl, r1, hB.row hM1 hK1.1 hR1 hW1 F1, hK1, F1⟩
set_option maxRecDepth 20000 in
set_option maxHeartbeats 1000000 in
theorem b_X12_does_n {G : xG} {h : xH} {sa : Nat → Nat} {m : Nat} {a : MA} {r : MR} {S : XS} {kb : Option AB} (hB : MBr G h sa m a r S kb) (hWB : WB S.2.2.1) (hcb : cnt isC S.2.2.1.2 ≤ 3) {gq : Nat → Int32} (hD : AR G h a.2.2.2.2.2.2.2.1 60 gq) {j : Nat} (hj : j < 20) {k : Nat} {x y : Int} (hcm : CMok (k, x, y)) (q0 : gq (3 * j) = iI (k : Int)) (q1 : gq (3 * j + 1) = iI x) (q2 : gq (3 * j + 2) = iI y) (h0 : rCmd k S.2.2.1 x y ≠ 0) : CC G MX12_does [.ref m, .int (iI (3 * (j : Int)))] h (fun o9 h' => o9 = .inl (some (.int (iI (codeC k (rCmd k S.2.2.1 x y))))) ∧ ∃ r', MBr G h' sa m a r' (S.1, S.2.1, S.2.2.1, S.2.2.2) kb ∧ RT r r' ∧ FRp [m, r.1] h h') := by
  obtain ⟨g, hR, hRW⟩ := hB.now
  have hyy0 := hcm.2.2.2
  have hy : in32 y := by have z : 0 ≤ y ∧ y ≤ 5 := hyy0; unfold in32; omega
  rcases k9 hcm.1 with e9 | e9 | e9 | e9 | e9 | e9 | e9 | e9 | e9 <;> (dsimp only at e9; subst e9)
  · have hxx : 0 ≤ x ∧ x ≤ 5 := hcm.2.1
    have hx : in32 x := by unfold in32; omega
    have hyy : 2 ≤ y ∧ y ≤ 4 := hcm.2.2.1 (show (0 : Nat) ≤ 1 by decide)
    show RR G MX12_does 0 [(0, .ref m), (1, .int (iI (3 * (j : Int))))] [] h (xm_R MX12_does).cells (xm_R MX12_does).slots (fun o9 h' => o9 = .inl (some (.int (iI (codeC 0 (rCmd 0 S.2.2.1 x y))))) ∧ ∃ r', MBr G h' sa m a r' (S.1, S.2.1, S.2.2.1, S.2.2.2) kb ∧ RT r r' ∧ FRp [m, r.1] h h')
    refine r_aload_n dX12_does_0 0 rfl ?_
    refine m_g_od (v := a.2.2.2.2.2.2.2.1) hB.1 rfl kf_X12_38 dX12_does_1 ?_
    refine r_iload_n dX12_does_4 1 rfl ?_
    refine i_const (1) dX12_does_5 ?_
    refine i_add dX12_does_6 ?_
    refine m_ld (v := iI x) (3 * j + 1) (by omega) q1 hD dX12_does_7 (by omega) (by decide) ?_
    refine r_istore_n (ls' := [(0, .ref m), (1, .int (iI (3 * (j : Int)))), (2, .int (iI x))]) dX12_does_8 (by decide) rfl ?_
    refine r_aload_n dX12_does_9 0 rfl ?_
    refine m_g_od (v := a.2.2.2.2.2.2.2.1) hB.1 rfl kf_X12_38 dX12_does_10 ?_
    refine r_iload_n dX12_does_13 1 rfl ?_
    refine i_const (2) dX12_does_14 ?_
    refine i_add dX12_does_15 ?_
    refine m_ld (v := iI y) (3 * j + 2) (by omega) q2 hD dX12_does_16 (by omega) (by decide) ?_
    refine r_istore_n (ls' := [(0, .ref m), (1, .int (iI (3 * (j : Int)))), (2, .int (iI x)), (3, .int (iI y))]) dX12_does_17 (by decide) rfl ?_
    refine r_aload_n dX12_does_18 0 rfl ?_
    refine m_g_od (v := a.2.2.2.2.2.2.2.1) hB.1 rfl kf_X12_38 dX12_does_19 ?_
    refine r_iload_n dX12_does_22 1 rfl ?_
    refine m_ld (v := iI 0) (3 * j) (by omega) q0 hD dX12_does_23 (by omega) (by decide) ?_
    refine r_tableIn dX12_does_24 (by decide) (by decide) (off := 48) (by decide) (tgt := 72) (by decide) ?_
    refine r_aload_n dX12_does_72 0 rfl ?_
    refine r_iload_n dX12_does_73 2 rfl ?_
    refine r_iload_n dX12_does_74 3 rfl ?_
    refine p_callV (As := [.int (iI x), .int (iI y)]) (b := m) (rest := []) (w := (some (.int (iI (codeC 0 (rCmd 0 S.2.2.1 x y)))))) (st' := [.int (iI (codeC 0 (rCmd 0 S.2.2.1 x y)))]) kv_X12_does_233 dX12_does_75 rfl rfl (Nat.le_of_ble_eq_true rfl) (Nat.le_of_ble_eq_true rfl) (x_rv hB.1.1 hB.1.2 rfl) rfl rfl (dn_X12_doFold hB.1 hR hRW hWB hcb hx hy (by unfold isFac; rw [decide_eq_true hyy.1, decide_eq_true hyy.2]; rfl) h0) rfl (fun h1 e1 => ?_)
    obtain ⟨r1, g1, hM1, hK1, hR1, hW1, F1⟩ := e1
    refine r_ireturn rfl rfl dX12_does_78 ?_
    exact ⟨rfl, r1, hB.row hM1 hK1.1 hR1 hW1 F1, hK1, F1⟩
  · have hxx : 0 ≤ x ∧ x ≤ 5 := hcm.2.1
    have hx : in32 x := by unfold in32; omega
    have hyy : 2 ≤ y ∧ y ≤ 4 := hcm.2.2.1 (show (1 : Nat) ≤ 1 by decide)
    show RR G MX12_does 0 [(0, .ref m), (1, .int (iI (3 * (j : Int))))] [] h (xm_R MX12_does).cells (xm_R MX12_does).slots (fun o9 h' => o9 = .inl (some (.int (iI (codeC 1 (rCmd 1 S.2.2.1 x y))))) ∧ ∃ r', MBr G h' sa m a r' (S.1, S.2.1, S.2.2.1, S.2.2.2) kb ∧ RT r r' ∧ FRp [m, r.1] h h')
    refine r_aload_n dX12_does_0 0 rfl ?_
    refine m_g_od (v := a.2.2.2.2.2.2.2.1) hB.1 rfl kf_X12_38 dX12_does_1 ?_
    refine r_iload_n dX12_does_4 1 rfl ?_
    refine i_const (1) dX12_does_5 ?_
    refine i_add dX12_does_6 ?_
    refine m_ld (v := iI x) (3 * j + 1) (by omega) q1 hD dX12_does_7 (by omega) (by decide) ?_
    refine r_istore_n (ls' := [(0, .ref m), (1, .int (iI (3 * (j : Int)))), (2, .int (iI x))]) dX12_does_8 (by decide) rfl ?_
    refine r_aload_n dX12_does_9 0 rfl ?_
    refine m_g_od (v := a.2.2.2.2.2.2.2.1) hB.1 rfl kf_X12_38 dX12_does_10 ?_
    refine r_iload_n dX12_does_13 1 rfl ?_
    refine i_const (2) dX12_does_14 ?_
    refine i_add dX12_does_15 ?_
    refine m_ld (v := iI y) (3 * j + 2) (by omega) q2 hD dX12_does_16 (by omega) (by decide) ?_
    refine r_istore_n (ls' := [(0, .ref m), (1, .int (iI (3 * (j : Int)))), (2, .int (iI x)), (3, .int (iI y))]) dX12_does_17 (by decide) rfl ?_
    refine r_aload_n dX12_does_18 0 rfl ?_
    refine m_g_od (v := a.2.2.2.2.2.2.2.1) hB.1 rfl kf_X12_38 dX12_does_19 ?_
    refine r_iload_n dX12_does_22 1 rfl ?_
    refine m_ld (v := iI 1) (3 * j) (by omega) q0 hD dX12_does_23 (by omega) (by decide) ?_
    refine r_tableIn dX12_does_24 (by decide) (by decide) (off := 55) (by decide) (tgt := 79) (by decide) ?_
    refine r_aload_n dX12_does_79 0 rfl ?_
    refine r_iload_n dX12_does_80 2 rfl ?_
    refine r_iload_n dX12_does_81 3 rfl ?_
    refine p_callV (As := [.int (iI x), .int (iI y)]) (b := m) (rest := []) (w := (some (.int (iI (codeC 1 (rCmd 1 S.2.2.1 x y)))))) (st' := [.int (iI (codeC 1 (rCmd 1 S.2.2.1 x y)))]) kv_X12_does_239 dX12_does_82 rfl rfl (Nat.le_of_ble_eq_true rfl) (Nat.le_of_ble_eq_true rfl) (x_rv hB.1.1 hB.1.2 rfl) rfl rfl (dn_X12_doRoll hB.1 hR hRW hWB hcb hx hy (by unfold isFac; rw [decide_eq_true hyy.1, decide_eq_true hyy.2]; rfl) h0) rfl (fun h1 e1 => ?_)
    obtain ⟨r1, g1, hM1, hK1, hR1, hW1, F1⟩ := e1
    refine r_ireturn rfl rfl dX12_does_85 ?_
    exact ⟨rfl, r1, hB.row hM1 hK1.1 hR1 hW1 F1, hK1, F1⟩
  · have hxx : 0 ≤ x ∧ x ≤ 5 := hcm.2.1
    have hx : in32 x := by unfold in32; omega
    show RR G MX12_does 0 [(0, .ref m), (1, .int (iI (3 * (j : Int))))] [] h (xm_R MX12_does).cells (xm_R MX12_does).slots (fun o9 h' => o9 = .inl (some (.int (iI (codeC 2 (rCmd 2 S.2.2.1 x y))))) ∧ ∃ r', MBr G h' sa m a r' (S.1, S.2.1, S.2.2.1, S.2.2.2) kb ∧ RT r r' ∧ FRp [m, r.1] h h')
    refine r_aload_n dX12_does_0 0 rfl ?_
    refine m_g_od (v := a.2.2.2.2.2.2.2.1) hB.1 rfl kf_X12_38 dX12_does_1 ?_
    refine r_iload_n dX12_does_4 1 rfl ?_
    refine i_const (1) dX12_does_5 ?_
    refine i_add dX12_does_6 ?_
    refine m_ld (v := iI x) (3 * j + 1) (by omega) q1 hD dX12_does_7 (by omega) (by decide) ?_
    refine r_istore_n (ls' := [(0, .ref m), (1, .int (iI (3 * (j : Int)))), (2, .int (iI x))]) dX12_does_8 (by decide) rfl ?_
    refine r_aload_n dX12_does_9 0 rfl ?_
    refine m_g_od (v := a.2.2.2.2.2.2.2.1) hB.1 rfl kf_X12_38 dX12_does_10 ?_
    refine r_iload_n dX12_does_13 1 rfl ?_
    refine i_const (2) dX12_does_14 ?_
    refine i_add dX12_does_15 ?_
    refine m_ld (v := iI y) (3 * j + 2) (by omega) q2 hD dX12_does_16 (by omega) (by decide) ?_
    refine r_istore_n (ls' := [(0, .ref m), (1, .int (iI (3 * (j : Int)))), (2, .int (iI x)), (3, .int (iI y))]) dX12_does_17 (by decide) rfl ?_
    refine r_aload_n dX12_does_18 0 rfl ?_
    refine m_g_od (v := a.2.2.2.2.2.2.2.1) hB.1 rfl kf_X12_38 dX12_does_19 ?_
    refine r_iload_n dX12_does_22 1 rfl ?_
    refine m_ld (v := iI 2) (3 * j) (by omega) q0 hD dX12_does_23 (by omega) (by decide) ?_
    refine r_tableIn dX12_does_24 (by decide) (by decide) (off := 62) (by decide) (tgt := 86) (by decide) ?_
    refine r_aload_n dX12_does_86 0 rfl ?_
    refine r_iload_n dX12_does_87 2 rfl ?_
    refine p_callV (As := [.int (iI x)]) (b := m) (rest := []) (w := (some (.int (iI (codeC 2 (rCmd 2 S.2.2.1 x y)))))) (st' := [.int (iI (codeC 2 (rCmd 2 S.2.2.1 x y)))]) kv_X12_does_242 dX12_does_88 rfl rfl (Nat.le_of_ble_eq_true rfl) (Nat.le_of_ble_eq_true rfl) (x_rv hB.1.1 hB.1.2 rfl) rfl rfl (dn_X12_doDust hB.1 hR hRW hWB hcb hx hy h0) rfl (fun h1 e1 => ?_)
    obtain ⟨r1, g1, hM1, hK1, hR1, hW1, F1⟩ := e1
    refine r_ireturn rfl rfl dX12_does_91 ?_
    exact ⟨rfl, r1, hB.row hM1 hK1.1 hR1 hW1 F1, hK1, F1⟩
  · have hxx : 0 ≤ x ∧ x ≤ 5 := hcm.2.1
    have hx : in32 x := by unfold in32; omega
    show RR G MX12_does 0 [(0, .ref m), (1, .int (iI (3 * (j : Int))))] [] h (xm_R MX12_does).cells (xm_R MX12_does).slots (fun o9 h' => o9 = .inl (some (.int (iI (codeC 3 (rCmd 3 S.2.2.1 x y))))) ∧ ∃ r', MBr G h' sa m a r' (S.1, S.2.1, S.2.2.1, S.2.2.2) kb ∧ RT r r' ∧ FRp [m, r.1] h h')
    refine r_aload_n dX12_does_0 0 rfl ?_
    refine m_g_od (v := a.2.2.2.2.2.2.2.1) hB.1 rfl kf_X12_38 dX12_does_1 ?_
    refine r_iload_n dX12_does_4 1 rfl ?_
    refine i_const (1) dX12_does_5 ?_
    refine i_add dX12_does_6 ?_
    refine m_ld (v := iI x) (3 * j + 1) (by omega) q1 hD dX12_does_7 (by omega) (by decide) ?_
    refine r_istore_n (ls' := [(0, .ref m), (1, .int (iI (3 * (j : Int)))), (2, .int (iI x))]) dX12_does_8 (by decide) rfl ?_
    refine r_aload_n dX12_does_9 0 rfl ?_
    refine m_g_od (v := a.2.2.2.2.2.2.2.1) hB.1 rfl kf_X12_38 dX12_does_10 ?_
    refine r_iload_n dX12_does_13 1 rfl ?_
    refine i_const (2) dX12_does_14 ?_
    refine i_add dX12_does_15 ?_
    refine m_ld (v := iI y) (3 * j + 2) (by omega) q2 hD dX12_does_16 (by omega) (by decide) ?_
    refine r_istore_n (ls' := [(0, .ref m), (1, .int (iI (3 * (j : Int)))), (2, .int (iI x)), (3, .int (iI y))]) dX12_does_17 (by decide) rfl ?_
    refine r_aload_n dX12_does_18 0 rfl ?_
    refine m_g_od (v := a.2.2.2.2.2.2.2.1) hB.1 rfl kf_X12_38 dX12_does_19 ?_
    refine r_iload_n dX12_does_22 1 rfl ?_
    refine m_ld (v := iI 3) (3 * j) (by omega) q0 hD dX12_does_23 (by omega) (by decide) ?_
    refine r_tableIn dX12_does_24 (by decide) (by decide) (off := 68) (by decide) (tgt := 92) (by decide) ?_
    refine r_aload_n dX12_does_92 0 rfl ?_
    refine r_iload_n dX12_does_93 2 rfl ?_
    refine p_callV (As := [.int (iI x)]) (b := m) (rest := []) (w := (some (.int (iI (codeC 3 (rCmd 3 S.2.2.1 x y)))))) (st' := [.int (iI (codeC 3 (rCmd 3 S.2.2.1 x y)))]) kv_X12_does_245 dX12_does_94 rfl rfl (Nat.le_of_ble_eq_true rfl) (Nat.le_of_ble_eq_true rfl) (x_rv hB.1.1 hB.1.2 rfl) rfl rfl (dn_X12_doSeal hB.1 hR hRW hWB hcb hx hy h0) rfl (fun h1 e1 => ?_)
    obtain ⟨r1, g1, hM1, hK1, hR1, hW1, F1⟩ := e1
    refine r_ireturn rfl rfl dX12_does_97 ?_
    exact ⟨rfl, r1, hB.row hM1 hK1.1 hR1 hW1 F1, hK1, F1⟩
  · have hxx : 0 ≤ x ∧ x ≤ 5 := hcm.2.1
    have hx : in32 x := by unfold in32; omega
    show RR G MX12_does 0 [(0, .ref m), (1, .int (iI (3 * (j : Int))))] [] h (xm_R MX12_does).cells (xm_R MX12_does).slots (fun o9 h' => o9 = .inl (some (.int (iI (codeC 4 (rCmd 4 S.2.2.1 x y))))) ∧ ∃ r', MBr G h' sa m a r' (S.1, S.2.1, S.2.2.1, S.2.2.2) kb ∧ RT r r' ∧ FRp [m, r.1] h h')
    refine r_aload_n dX12_does_0 0 rfl ?_
    refine m_g_od (v := a.2.2.2.2.2.2.2.1) hB.1 rfl kf_X12_38 dX12_does_1 ?_
    refine r_iload_n dX12_does_4 1 rfl ?_
    refine i_const (1) dX12_does_5 ?_
    refine i_add dX12_does_6 ?_
    refine m_ld (v := iI x) (3 * j + 1) (by omega) q1 hD dX12_does_7 (by omega) (by decide) ?_
    refine r_istore_n (ls' := [(0, .ref m), (1, .int (iI (3 * (j : Int)))), (2, .int (iI x))]) dX12_does_8 (by decide) rfl ?_
    refine r_aload_n dX12_does_9 0 rfl ?_
    refine m_g_od (v := a.2.2.2.2.2.2.2.1) hB.1 rfl kf_X12_38 dX12_does_10 ?_
    refine r_iload_n dX12_does_13 1 rfl ?_
    refine i_const (2) dX12_does_14 ?_
    refine i_add dX12_does_15 ?_
    refine m_ld (v := iI y) (3 * j + 2) (by omega) q2 hD dX12_does_16 (by omega) (by decide) ?_
    refine r_istore_n (ls' := [(0, .ref m), (1, .int (iI (3 * (j : Int)))), (2, .int (iI x)), (3, .int (iI y))]) dX12_does_17 (by decide) rfl ?_
    refine r_aload_n dX12_does_18 0 rfl ?_
    refine m_g_od (v := a.2.2.2.2.2.2.2.1) hB.1 rfl kf_X12_38 dX12_does_19 ?_
    refine r_iload_n dX12_does_22 1 rfl ?_
    refine m_ld (v := iI 4) (3 * j) (by omega) q0 hD dX12_does_23 (by omega) (by decide) ?_
    refine r_tableIn dX12_does_24 (by decide) (by decide) (off := 74) (by decide) (tgt := 98) (by decide) ?_
    refine r_aload_n dX12_does_98 0 rfl ?_
    refine r_iload_n dX12_does_99 2 rfl ?_
    refine p_callV (As := [.int (iI x)]) (b := m) (rest := []) (w := (some (.int (iI (codeC 4 (rCmd 4 S.2.2.1 x y)))))) (st' := [.int (iI (codeC 4 (rCmd 4 S.2.2.1 x y)))]) kv_X12_does_248 dX12_does_100 rfl rfl (Nat.le_of_ble_eq_true rfl) (Nat.le_of_ble_eq_true rfl) (x_rv hB.1.1 hB.1.2 rfl) rfl rfl (dn_X12_doCool hB.1 hR hRW hWB hcb hx hy h0) rfl (fun h1 e1 => ?_)
    obtain ⟨r1, g1, hM1, hK1, hR1, hW1, F1⟩ := e1
    refine r_ireturn rfl rfl dX12_does_103 ?_
    exact ⟨rfl, r1, hB.row hM1 hK1.1 hR1 hW1 F1, hK1, F1⟩
  · have hxx : 0 ≤ x ∧ x ≤ 5 := hcm.2.1
    have hx : in32 x := by unfold in32; omega
    show RR G MX12_does 0 [(0, .ref m), (1, .int (iI (3 * (j : Int))))] [] h (xm_R MX12_does).cells (xm_R MX12_does).slots (fun o9 h' => o9 = .inl (some (.int (iI (codeC 5 (rCmd 5 S.2.2.1 x y))))) ∧ ∃ r', MBr G h' sa m a r' (S.1, S.2.1, S.2.2.1, S.2.2.2) kb ∧ RT r r' ∧ FRp [m, r.1] h h')
    refine r_aload_n dX12_does_0 0 rfl ?_
    refine m_g_od (v := a.2.2.2.2.2.2.2.1) hB.1 rfl kf_X12_38 dX12_does_1 ?_
    refine r_iload_n dX12_does_4 1 rfl ?_
    refine i_const (1) dX12_does_5 ?_
    refine i_add dX12_does_6 ?_
    refine m_ld (v := iI x) (3 * j + 1) (by omega) q1 hD dX12_does_7 (by omega) (by decide) ?_
    refine r_istore_n (ls' := [(0, .ref m), (1, .int (iI (3 * (j : Int)))), (2, .int (iI x))]) dX12_does_8 (by decide) rfl ?_
    refine r_aload_n dX12_does_9 0 rfl ?_
    refine m_g_od (v := a.2.2.2.2.2.2.2.1) hB.1 rfl kf_X12_38 dX12_does_10 ?_
    refine r_iload_n dX12_does_13 1 rfl ?_
    refine i_const (2) dX12_does_14 ?_
    refine i_add dX12_does_15 ?_
    refine m_ld (v := iI y) (3 * j + 2) (by omega) q2 hD dX12_does_16 (by omega) (by decide) ?_
    refine r_istore_n (ls' := [(0, .ref m), (1, .int (iI (3 * (j : Int)))), (2, .int (iI x)), (3, .int (iI y))]) dX12_does_17 (by decide) rfl ?_
    refine r_aload_n dX12_does_18 0 rfl ?_
    refine m_g_od (v := a.2.2.2.2.2.2.2.1) hB.1 rfl kf_X12_38 dX12_does_19 ?_
    refine r_iload_n dX12_does_22 1 rfl ?_
    refine m_ld (v := iI 5) (3 * j) (by omega) q0 hD dX12_does_23 (by omega) (by decide) ?_
    refine r_tableIn dX12_does_24 (by decide) (by decide) (off := 80) (by decide) (tgt := 104) (by decide) ?_
    refine r_aload_n dX12_does_104 0 rfl ?_
    refine r_iload_n dX12_does_105 2 rfl ?_
    refine p_callV (As := [.int (iI x)]) (b := m) (rest := []) (w := (some (.int (iI (codeC 5 (rCmd 5 S.2.2.1 x y)))))) (st' := [.int (iI (codeC 5 (rCmd 5 S.2.2.1 x y)))]) kv_X12_does_251 dX12_does_106 rfl rfl (Nat.le_of_ble_eq_true rfl) (Nat.le_of_ble_eq_true rfl) (x_rv hB.1.1 hB.1.2 rfl) rfl rfl (dn_X12_doTakeOut hB.1 hR hRW hWB hcb hx hy h0) rfl (fun h1 e1 => ?_)
    obtain ⟨r1, g1, hM1, hK1, hR1, hW1, F1⟩ := e1
    refine r_ireturn rfl rfl dX12_does_109 ?_
    exact ⟨rfl, r1, hB.row hM1 hK1.1 hR1 hW1 F1, hK1, F1⟩
  · have hxx : 1 ≤ x ∧ x ≤ 24 := hcm.2.1
    have hx : in32 x := by unfold in32; omega
    show RR G MX12_does 0 [(0, .ref m), (1, .int (iI (3 * (j : Int))))] [] h (xm_R MX12_does).cells (xm_R MX12_does).slots (fun o9 h' => o9 = .inl (some (.int (iI (codeC 6 (rCmd 6 S.2.2.1 x y))))) ∧ ∃ r', MBr G h' sa m a r' (S.1, S.2.1, S.2.2.1, S.2.2.2) kb ∧ RT r r' ∧ FRp [m, r.1] h h')
    refine r_aload_n dX12_does_0 0 rfl ?_
    refine m_g_od (v := a.2.2.2.2.2.2.2.1) hB.1 rfl kf_X12_38 dX12_does_1 ?_
    refine r_iload_n dX12_does_4 1 rfl ?_
    refine i_const (1) dX12_does_5 ?_
    refine i_add dX12_does_6 ?_
    refine m_ld (v := iI x) (3 * j + 1) (by omega) q1 hD dX12_does_7 (by omega) (by decide) ?_
    refine r_istore_n (ls' := [(0, .ref m), (1, .int (iI (3 * (j : Int)))), (2, .int (iI x))]) dX12_does_8 (by decide) rfl ?_
    refine r_aload_n dX12_does_9 0 rfl ?_
    refine m_g_od (v := a.2.2.2.2.2.2.2.1) hB.1 rfl kf_X12_38 dX12_does_10 ?_
    refine r_iload_n dX12_does_13 1 rfl ?_
    refine i_const (2) dX12_does_14 ?_
    refine i_add dX12_does_15 ?_
    refine m_ld (v := iI y) (3 * j + 2) (by omega) q2 hD dX12_does_16 (by omega) (by decide) ?_
    refine r_istore_n (ls' := [(0, .ref m), (1, .int (iI (3 * (j : Int)))), (2, .int (iI x)), (3, .int (iI y))]) dX12_does_17 (by decide) rfl ?_
    refine r_aload_n dX12_does_18 0 rfl ?_
    refine m_g_od (v := a.2.2.2.2.2.2.2.1) hB.1 rfl kf_X12_38 dX12_does_19 ?_
    refine r_iload_n dX12_does_22 1 rfl ?_
    refine m_ld (v := iI 6) (3 * j) (by omega) q0 hD dX12_does_23 (by omega) (by decide) ?_
    refine r_tableIn dX12_does_24 (by decide) (by decide) (off := 86) (by decide) (tgt := 110) (by decide) ?_
    refine r_aload_n dX12_does_110 0 rfl ?_
    refine r_iload_n dX12_does_111 2 rfl ?_
    refine p_callV (As := [.int (iI x)]) (b := m) (rest := []) (w := (some (.int (iI (codeC 6 (rCmd 6 S.2.2.1 x y)))))) (st' := [.int (iI (codeC 6 (rCmd 6 S.2.2.1 x y)))]) kv_X12_does_254 dX12_does_112 rfl rfl (Nat.le_of_ble_eq_true rfl) (Nat.le_of_ble_eq_true rfl) (x_rv hB.1.1 hB.1.2 rfl) rfl rfl (dn_X12_doHours hB.1 hR hRW hWB hcb hx hy hxx h0) rfl (fun h1 e1 => ?_)
    obtain ⟨r1, g1, hM1, hK1, hR1, hW1, F1⟩ := e1
    refine r_ireturn rfl rfl dX12_does_115 ?_
    exact ⟨rfl, r1, hB.row hM1 hK1.1 hR1 hW1 F1, hK1, F1⟩
  · have hxx : 0 ≤ x ∧ x ≤ 5 := hcm.2.1
    have hx : in32 x := by unfold in32; omega
    show RR G MX12_does 0 [(0, .ref m), (1, .int (iI (3 * (j : Int))))] [] h (xm_R MX12_does).cells (xm_R MX12_does).slots (fun o9 h' => o9 = .inl (some (.int (iI (codeC 7 (rCmd 7 S.2.2.1 x y))))) ∧ ∃ r', MBr G h' sa m a r' (S.1, S.2.1, S.2.2.1, S.2.2.2) kb ∧ RT r r' ∧ FRp [m, r.1] h h')
    refine r_aload_n dX12_does_0 0 rfl ?_
    refine m_g_od (v := a.2.2.2.2.2.2.2.1) hB.1 rfl kf_X12_38 dX12_does_1 ?_
    refine r_iload_n dX12_does_4 1 rfl ?_
    refine i_const (1) dX12_does_5 ?_
    refine i_add dX12_does_6 ?_
    refine m_ld (v := iI x) (3 * j + 1) (by omega) q1 hD dX12_does_7 (by omega) (by decide) ?_
    refine r_istore_n (ls' := [(0, .ref m), (1, .int (iI (3 * (j : Int)))), (2, .int (iI x))]) dX12_does_8 (by decide) rfl ?_
    refine r_aload_n dX12_does_9 0 rfl ?_
    refine m_g_od (v := a.2.2.2.2.2.2.2.1) hB.1 rfl kf_X12_38 dX12_does_10 ?_
    refine r_iload_n dX12_does_13 1 rfl ?_
    refine i_const (2) dX12_does_14 ?_
    refine i_add dX12_does_15 ?_
    refine m_ld (v := iI y) (3 * j + 2) (by omega) q2 hD dX12_does_16 (by omega) (by decide) ?_
    refine r_istore_n (ls' := [(0, .ref m), (1, .int (iI (3 * (j : Int)))), (2, .int (iI x)), (3, .int (iI y))]) dX12_does_17 (by decide) rfl ?_
    refine r_aload_n dX12_does_18 0 rfl ?_
    refine m_g_od (v := a.2.2.2.2.2.2.2.1) hB.1 rfl kf_X12_38 dX12_does_19 ?_
    refine r_iload_n dX12_does_22 1 rfl ?_
    refine m_ld (v := iI 7) (3 * j) (by omega) q0 hD dX12_does_23 (by omega) (by decide) ?_
    refine r_tableIn dX12_does_24 (by decide) (by decide) (off := 92) (by decide) (tgt := 116) (by decide) ?_
    refine r_aload_n dX12_does_116 0 rfl ?_
    refine r_iload_n dX12_does_117 2 rfl ?_
    refine p_callV (As := [.int (iI x)]) (b := m) (rest := []) (w := (some (.int (iI (codeC 7 (rCmd 7 S.2.2.1 x y)))))) (st' := [.int (iI (codeC 7 (rCmd 7 S.2.2.1 x y)))]) kv_X12_does_257 dX12_does_118 rfl rfl (Nat.le_of_ble_eq_true rfl) (Nat.le_of_ble_eq_true rfl) (x_rv hB.1.1 hB.1.2 rfl) rfl rfl (dn_X12_doCut hB.1 hR hRW hWB hcb hx hy h0) rfl (fun h1 e1 => ?_)
    obtain ⟨r1, g1, hM1, hK1, hR1, hW1, F1⟩ := e1
    refine r_ireturn rfl rfl dX12_does_121 ?_
    exact ⟨rfl, r1, hB.row hM1 hK1.1 hR1 hW1 F1, hK1, F1⟩
  · have hxx : 0 ≤ x ∧ x ≤ 5 := hcm.2.1
    have hx : in32 x := by unfold in32; omega
    show RR G MX12_does 0 [(0, .ref m), (1, .int (iI (3 * (j : Int))))] [] h (xm_R MX12_does).cells (xm_R MX12_does).slots (fun o9 h' => o9 = .inl (some (.int (iI (codeC 8 (rCmd 8 S.2.2.1 x y))))) ∧ ∃ r', MBr G h' sa m a r' (S.1, S.2.1, S.2.2.1, S.2.2.2) kb ∧ RT r r' ∧ FRp [m, r.1] h h')
    refine r_aload_n dX12_does_0 0 rfl ?_
    refine m_g_od (v := a.2.2.2.2.2.2.2.1) hB.1 rfl kf_X12_38 dX12_does_1 ?_
    refine r_iload_n dX12_does_4 1 rfl ?_
    refine i_const (1) dX12_does_5 ?_
    refine i_add dX12_does_6 ?_
    refine m_ld (v := iI x) (3 * j + 1) (by omega) q1 hD dX12_does_7 (by omega) (by decide) ?_
    refine r_istore_n (ls' := [(0, .ref m), (1, .int (iI (3 * (j : Int)))), (2, .int (iI x))]) dX12_does_8 (by decide) rfl ?_
    refine r_aload_n dX12_does_9 0 rfl ?_
    refine m_g_od (v := a.2.2.2.2.2.2.2.1) hB.1 rfl kf_X12_38 dX12_does_10 ?_
    refine r_iload_n dX12_does_13 1 rfl ?_
    refine i_const (2) dX12_does_14 ?_
    refine i_add dX12_does_15 ?_
    refine m_ld (v := iI y) (3 * j + 2) (by omega) q2 hD dX12_does_16 (by omega) (by decide) ?_
    refine r_istore_n (ls' := [(0, .ref m), (1, .int (iI (3 * (j : Int)))), (2, .int (iI x)), (3, .int (iI y))]) dX12_does_17 (by decide) rfl ?_
    refine r_aload_n dX12_does_18 0 rfl ?_
    refine m_g_od (v := a.2.2.2.2.2.2.2.1) hB.1 rfl kf_X12_38 dX12_does_19 ?_
    refine r_iload_n dX12_does_22 1 rfl ?_
    refine m_ld (v := iI 8) (3 * j) (by omega) q0 hD dX12_does_23 (by omega) (by decide) ?_
    refine r_tableOut dX12_does_24 (Or.inr (by decide)) (tgt := 122) (by decide) ?_
    refine r_aload_n dX12_does_122 0 rfl ?_
    refine r_iload_n dX12_does_123 2 rfl ?_
    refine r_iload_n dX12_does_124 3 rfl ?_
    refine p_callV (As := [.int (iI x), .int (iI y)]) (b := m) (rest := []) (w := (some (.int (iI (codeC 8 (rCmd 8 S.2.2.1 x y)))))) (st' := [.int (iI (codeC 8 (rCmd 8 S.2.2.1 x y)))]) kv_X12_does_260 dX12_does_125 rfl rfl (Nat.le_of_ble_eq_true rfl) (Nat.le_of_ble_eq_true rfl) (x_rv hB.1.1 hB.1.2 rfl) rfl rfl (dn_X12_doStack hB.1 hR hRW hWB hcb hx hy h0) rfl (fun h1 e1 => ?_)
    obtain ⟨r1, g1, hM1, hK1, hR1, hW1, F1⟩ := e1
    refine r_ireturn rfl rfl dX12_does_128 ?_
    exact ⟨rfl, r1, hB.row hM1 hK1.1 hR1 hW1 F1, hK1, F1⟩
set_option maxRecDepth 20000 in
set_option maxHeartbeats 1000000 in
theorem rr_X12_runScript_64 {G : xG} {sa : Nat → Nat} {m : Nat} {a : MA} {v : Int32} : ∀ (cs : List CM) {h : xH} {r : MR} {S : XS} {j : Nat} {gq : Nat → Int32}, MBr G h sa m a r S none → WB S.2.2.1 → cnt isC S.2.2.1.2 ≤ 3 → j + cs.length ≤ 20 → r.2.2.2.2.2.2.2.2.2.2.2.2.2.2.2.2.2.2.2 = ((j + cs.length : Nat) : Int) → r.2.2.1 = 0 → AR G h a.2.2.2.2.2.2.2.1 60 gq → ORL gq j cs → (∀ c ∈ cs, CMok c) → RR G MX12_runScript 64 [(0, .ref m), (1, .int v), (2, .int (iI ((j : Int))))] [] h (xm_R MX12_runScript).cells (xm_R MX12_runScript).slots (fun o9 h' => o9 = .inl (some (.int (iI ((j + (exeL cs S.2.2.1).1 : Nat) : Int)))) ∧ MB G h' sa m a (S.1, S.2.1, (exeL cs S.2.2.1).2, S.2.2.2) 0 ∧ FRp (fpM m a) h h') := by
  intro cs
  induction cs with
  | nil =>
    intro h r S j gq hB hWB hcb hj hoc hth hD hL hCM
    have hoc0 : r.2.2.2.2.2.2.2.2.2.2.2.2.2.2.2.2.2.2.2 = (j : Int) := hoc
    show RR G MX12_runScript 64 [(0, .ref m), (1, .int v), (2, .int (iI ((j : Int))))] [] h (xm_R MX12_runScript).cells (xm_R MX12_runScript).slots (fun o9 h' => o9 = .inl (some (.int (iI ((j + (exeL [] S.2.2.1).1 : Nat) : Int)))) ∧ MB G h' sa m a (S.1, S.2.1, (exeL [] S.2.2.1).2, S.2.2.2) 0 ∧ FRp (fpM m a) h h')
    refine r_iload_n dX12_runScript_64 2 rfl ?_
    refine r_aload_n dX12_runScript_65 0 rfl ?_
    refine m_g_oc (v := (j : Int)) hB.1 hoc0 kf_X12_388 dX12_runScript_66 ?_
    refine i_icmpge dX12_runScript_69 (tgt := 88) (by decide) (by unfold in32; omega) (by unfold in32; omega) (fun _ => ?_) (fun c => absurd c (by omega))
    refine r_iload_n dX12_runScript_88 2 rfl ?_
    refine r_ireturn rfl rfl dX12_runScript_89 ?_
    exact ⟨rfl, MB.mk hB hth, FRp.rf⟩
  | cons c cs ih =>
    obtain ⟨k, x, y⟩ := c
    intro h r S j gq hB hWB hcb hj hoc hth hD hL hCM
    have hcm := hCM _ List.mem_cons_self
    have hj : j + (cs.length + 1) ≤ 20 := hj
    have hoc : r.2.2.2.2.2.2.2.2.2.2.2.2.2.2.2.2.2.2.2 = ((j + (cs.length + 1) : Nat) : Int) := hoc
    by_cases h0 : rCmd k S.2.2.1 x y = 0
    · refine rr_mono (Q' := (fun o9 h' => o9 = .inl (some (.int (iI ((j + 1 + (exeL cs (aCmd k S.2.2.1 x y)).1 : Nat) : Int)))) ∧ MB G h' sa m a (S.1, S.2.1, (exeL cs (aCmd k S.2.2.1 x y)).2, S.2.2.2) 0 ∧ FRp (fpM m a) h h')) ?_ (fun o9 h9 q9 => ?_)
      · refine r_iload_n dX12_runScript_64 2 rfl ?_
        refine r_aload_n dX12_runScript_65 0 rfl ?_
        refine m_g_oc (v := ((j + (cs.length + 1) : Nat) : Int)) hB.1 hoc kf_X12_388 dX12_runScript_66 ?_
        refine i_icmpge dX12_runScript_69 (tgt := 88) (by decide) (by unfold in32; omega) (by unfold in32; omega) (fun c => absurd c (by omega)) (fun _ => ?_)
        refine r_aload_n dX12_runScript_72 0 rfl ?_
        refine i_const (3) dX12_runScript_73 ?_
        refine r_iload_n dX12_runScript_74 2 rfl ?_
        refine i_mul dX12_runScript_75 ?_
        refine p_callV (As := [.int (iI (3 * (j : Int)))]) (b := m) (rest := []) (w := (some (.int (iI 0)))) (st' := [.int (iI 0)]) kv_X12_runScript_397 dX12_runScript_76 rfl rfl (Nat.le_of_ble_eq_true rfl) (Nat.le_of_ble_eq_true rfl) (x_rv hB.1.1 hB.1.2 rfl) rfl rfl (b_X12_does_0 hB hWB hcb hD (by omega) hcm hL.1.1 hL.1.2.1 hL.1.2.2 h0) rfl (fun h1 e1 => ?_)
        obtain ⟨r1, hB1, hK1, F1⟩ := e1
        refine i_ifne dX12_runScript_79 (tgt := 88) (by decide) ⟨by decide, by decide⟩ (fun c => absurd c (by decide)) (fun _ => ?_)
        refine i_iinc (ls' := [(0, .ref m), (1, .int v), (2, .int (iI ((j : Int) + 1)))]) (1) (v := (j : Int) + 1) dX12_runScript_82 2 rfl (by omega) (by decide) rfl ?_
        refine r_goto dX12_runScript_85 (tgt := 64) (by decide) ?_
        obtain ⟨g9, hR9, hRW9⟩ := hB.now
        have hl9 : (((k, x, y) :: cs : List CM).length) = cs.length + 1 := rfl
        exact rr_mono (ih (j := j + 1) hB1 (hWB.cmd h0) (CB_cmd h0 hcb) (by omega) (hK1.2.2.trans (hoc.trans (by omega))) (hK1.2.1.trans hth) (hD.fr F1 (nm2 (hB.1.ne hD).symm (ne_sz hD.2 hR9.2 (by decide)))) hL.2 (fun c hc => hCM c (List.mem_cons_of_mem _ hc))) (fun o9 h9 z => ⟨z.1, z.2.1, (fpm_r F1 hB.2.1.1).tr z.2.2⟩)
      · rw [exeL, if_pos h0]
        dsimp only
        rw [show j + ((exeL cs (aCmd k S.2.2.1 x y)).1 + 1) = j + 1 + (exeL cs (aCmd k S.2.2.1 x y)).1 by omega]
        exact q9
    · refine rr_mono (Q' := (fun o9 h' => o9 = .inl (some (.int (iI (j : Int)))) ∧ MB G h' sa m a (S.1, S.2.1, S.2.2.1, S.2.2.2) 0 ∧ FRp (fpM m a) h h')) ?_ (fun o9 h9 q9 => ?_)
      · refine r_iload_n dX12_runScript_64 2 rfl ?_
        refine r_aload_n dX12_runScript_65 0 rfl ?_
        refine m_g_oc (v := ((j + (cs.length + 1) : Nat) : Int)) hB.1 hoc kf_X12_388 dX12_runScript_66 ?_
        refine i_icmpge dX12_runScript_69 (tgt := 88) (by decide) (by first | exact (codeC_nz h0 rCmd_lt).2 | (unfold in32; omega)) (by first | exact (codeC_nz h0 rCmd_lt).2 | (unfold in32; omega)) (fun c => absurd c (by omega)) (fun _ => ?_)
        refine r_aload_n dX12_runScript_72 0 rfl ?_
        refine i_const (3) dX12_runScript_73 ?_
        refine r_iload_n dX12_runScript_74 2 rfl ?_
        refine i_mul dX12_runScript_75 ?_
        refine p_callV (As := [.int (iI (3 * (j : Int)))]) (b := m) (rest := []) (w := (some (.int (iI (codeC k (rCmd k S.2.2.1 x y)))))) (st' := [.int (iI (codeC k (rCmd k S.2.2.1 x y)))]) kv_X12_runScript_397 dX12_runScript_76 rfl rfl (Nat.le_of_ble_eq_true rfl) (Nat.le_of_ble_eq_true rfl) (x_rv hB.1.1 hB.1.2 rfl) rfl rfl (b_X12_does_n hB hWB hcb hD (by omega) hcm hL.1.1 hL.1.2.1 hL.1.2.2 h0) rfl (fun h1 e1 => ?_)
        obtain ⟨r1, hB1, hK1, F1⟩ := e1
        refine i_ifne dX12_runScript_79 (tgt := 88) (by decide) (by first | exact (codeC_nz h0 rCmd_lt).2 | (unfold in32; omega)) (fun _ => ?_) (fun c => absurd c (codeC_nz h0 rCmd_lt).1)
        refine r_iload_n dX12_runScript_88 2 rfl ?_
        refine r_ireturn rfl rfl dX12_runScript_89 ?_
        exact ⟨rfl, MB.mk hB1 (hK1.2.1.trans hth), fpm_r F1 hB.2.1.1⟩
      · rw [exeL, if_neg h0]
        exact q9
