/-! ===== the reference: flour, undoing, the snapshot ===== -/
set_option maxRecDepth 20000 in
set_option maxHeartbeats 1000000 in
theorem b_X12_buyFlour_k {G : xG} {h : xH} {sa : Nat → Nat} {m : Nat} {a : MA} {S : XS} {c0 : Int} (hB0 : MB G h sa m a S c0) (hWX : WX S) (hcb : cnt isC S.2.2.1.2 ≤ 3) {z : Int} (hz : in32 z) (hir : inR z 1 50 = true) (hlt : S.2.2.1.1.2.2.1 + z ≤ 999) : CC G MX12_buyFlour [.ref m, .int (iI z)] h (fun o h' => o = .inl (some (.int (iI (S.2.2.1.1.2.2.1 + z)))) ∧ MB G h' sa m a (S.1, S.2.1, aFlour S.2.2.1 z, S.2.2.2.1, remH S.2.2.2.2.1 S.2.2.1, S.2.2.2.2.2) 0 ∧ FRp (fpM m a) h h') := by
  obtain ⟨r, hth, hB⟩ := hB0
  have hWB := hWX.1
  obtain ⟨g, hR, hRW⟩ := hB.now
  have hn := hRW.1.2.1
  have hc := hRW.1.1.2.2.2.1
  obtain ⟨hms, hro, hme, hfl, hho⟩ := id hWB
  have hzr : 1 ≤ z ∧ z ≤ 50 := by simpa [inR] using hir
  show RR G MX12_buyFlour 0 [(0, .ref m), (1, .int (iI z))] [] h (xm_R MX12_buyFlour).cells (xm_R MX12_buyFlour).slots (fun o h' => o = .inl (some (.int (iI (S.2.2.1.1.2.2.1 + z)))) ∧ MB G h' sa m a (S.1, S.2.1, aFlour S.2.2.1 z, S.2.2.2.1, remH S.2.2.2.2.1 S.2.2.1, S.2.2.2.2.2) 0 ∧ FRp (fpM m a) h h')
  refine r_aload_n dX12_buyFlour_0 0 rfl ?_
  refine r_iload_n dX12_buyFlour_1 1 rfl ?_
  refine i_const (1) dX12_buyFlour_2 ?_
  refine i_bipush (50) (by decide) dX12_buyFlour_3 ?_
  refine p_callS (As := [.int (iI z), .int (iI 1), .int (iI 50)]) (rest := [.ref m]) (w := (some (.int (iI (b2 true))))) (st' := [.int (iI (b2 true)), .ref m]) kv_X12_buyFlour_107 dX12_buyFlour_5 rfl rfl (Nat.le_of_ble_eq_true rfl) (Nat.le_of_ble_eq_true rfl) rfl rfl (c_X12_inRange_b hz ⟨by decide, by decide⟩ ⟨by decide, by decide⟩ (b := true) hir) rfl (fun h1 e1 => ?_)
  rw [show h1 = h from e1]
  refine r_aload_n dX12_buyFlour_8 0 rfl ?_
  refine m_g_rr (v := r.1) hB.1 rfl kf_X12_25 dX12_buyFlour_9 ?_
  refine i_const (2) dX12_buyFlour_12 ?_
  refine m_ld (v := iI S.2.2.1.1.2.2.1) 2 rfl hRW.1.1.2.2.1 hR dX12_buyFlour_13 (by omega) (by decide) ?_
  refine r_iload_n dX12_buyFlour_14 1 rfl ?_
  refine i_add dX12_buyFlour_15 ?_
  refine i_sipush (999) (by decide) dX12_buyFlour_16 ?_
  refine i_icmpgt dX12_buyFlour_19 (tgt := 26) (by decide) (by unfold in32; omega) ⟨by decide, by decide⟩ (fun c => absurd c (by omega)) (fun _ => ?_)
  refine i_const (1) dX12_buyFlour_22 ?_
  refine r_goto dX12_buyFlour_23 (tgt := 27) (by decide) ?_
  refine p_callV (As := [.int (iI (b2 true)), .int (iI 1)]) (b := m) (rest := []) (w := (some (.int (iI 0)))) (st' := [.int (iI 0)]) kv_X12_buyFlour_155 dX12_buyFlour_27 rfl rfl (Nat.le_of_ble_eq_true rfl) (Nat.le_of_ble_eq_true rfl) (x_rv hB.1.1 hB.1.2 rfl) rfl rfl (c_X12_lacksBoth_tt hB.1) rfl (fun h2 e2 => ?_)
  obtain ⟨hM2, F2⟩ := e2
  have hB2 := hB.obj hM2 ⟨rfl, rfl, rfl, rfl, rfl, rfl, rfl, rfl⟩ F2
  have FM2 : FRp (fpM m a) h h2 := fpm_m (a := a) F2
  refine i_ifeq dX12_buyFlour_30 (tgt := 35) (by decide) ⟨by decide, by decide⟩ (fun _ => ?_) (fun c => absurd c (by decide))
  refine r_aload_n dX12_buyFlour_35 0 rfl ?_
  refine p_callV (As := []) (b := m) (rest := []) (w := none) (st' := []) kv_X12_buyFlour_230 dX12_buyFlour_36 rfl rfl (Nat.le_of_ble_eq_true rfl) (Nat.le_of_ble_eq_true rfl) (x_rv hB2.1.1 hB2.1.2 rfl) rfl rfl (b_X12_keep hB2) rfl (fun h3 e3 => ?_)
  obtain ⟨hB3, G3⟩ := e3
  have FM3 : FRp (fpM m a) h h3 := FM2.tr (G3)
  obtain ⟨gY, hRY, hWY⟩ := hB3.now
  refine r_aload_n dX12_buyFlour_39 0 rfl ?_
  refine m_g_rr (v := r.1) hB3.1 rfl kf_X12_25 dX12_buyFlour_40 ?_
  refine i_const (2) dX12_buyFlour_43 ?_
  refine r_dup2 dX12_buyFlour_44 rfl rfl ?_
  refine m_ld (v := iI S.2.2.1.1.2.2.1) 2 rfl hWY.1.1.2.2.1 hRY dX12_buyFlour_45 (by omega) (by decide) ?_
  refine r_iload_n dX12_buyFlour_46 1 rfl ?_
  refine i_add dX12_buyFlour_47 ?_
  refine m_st 2 rfl hRY dX12_buyFlour_48 (by omega) (by decide) (fun h4 hR4 F4 => ?_)
  have hM4 := hB3.1.row hRY F4
  obtain ⟨g4, hg4⟩ : ∃ y, y = (upd gY 2 (iI (S.2.2.1.1.2.2.1 + z))) := ⟨_, rfl⟩
  rw [← hg4] at hR4
  have hn4 : ∀ j, j ≠ 2 → g4 j = gY j := fun j hj => by rw [hg4]; exact upd_n hj
  have hW4 : RWf g4 0 ((S.2.2.1.1.1, S.2.2.1.1.2.1, S.2.2.1.1.2.2.1 + z, S.2.2.1.1.2.2.2.1, S.2.2.1.1.2.2.2.2.1, S.2.2.1.1.2.2.2.2.2), S.2.2.1.2) := hWY.hd (fun j hj => hn4 j (by omega)) ((hn4 0 (by omega)).trans hWY.1.1.1) ((hn4 1 (by omega)).trans hWY.1.1.2.1) (by rw [hg4]; exact upd_s) (hn4 3 (by omega)) ((hn4 4 (by omega)).trans hWY.1.1.2.2.2.2.1) ((hn4 5 (by omega)).trans hWY.1.1.2.2.2.2.2.1) ((hn4 6 (by omega)).trans hWY.1.1.2.2.2.2.2.2)
  have hB4 := hB3.row hM4 RK.rf hR4 hW4 (FRr F4)
  have FM4 : FRp (fpM m a) h h4 := FM3.tr (fpm_r (FRr F4) hB3.2.1.1)
  refine r_aload_n dX12_buyFlour_49 0 rfl ?_
  refine r_aload_n dX12_buyFlour_50 0 rfl ?_
  refine m_g_rr (v := r.1) hB4.1 rfl kf_X12_25 dX12_buyFlour_51 ?_
  refine i_const (2) dX12_buyFlour_54 ?_
  refine m_ld (v := iI (S.2.2.1.1.2.2.1 + z)) 2 rfl hW4.1.1.2.2.1 hR4 dX12_buyFlour_55 (by omega) (by decide) ?_
  refine m_p_re (v := S.2.2.1.1.2.2.1 + z) hB4.1 kf_X12_204 dX12_buyFlour_56 (fun h5 hM5 F5 => ?_)
  have hB5 := hB4.obj hM5 ⟨rfl, rfl, rfl, rfl, rfl, rfl, rfl, rfl⟩ F5
  have FM5 : FRp (fpM m a) h h5 := FM4.tr (fpm_m (a := a) F5)
  refine r_aload_n dX12_buyFlour_59 0 rfl ?_
  refine i_const (0) dX12_buyFlour_60 ?_
  refine p_callV (As := [.int (iI 0)]) (b := m) (rest := []) (w := (some (.int (iI ((S.2.2.1.1.2.2.1 + z)))))) (st' := [.int (iI ((S.2.2.1.1.2.2.1 + z)))]) kv_X12_buyFlour_236 dX12_buyFlour_61 rfl rfl (Nat.le_of_ble_eq_true rfl) (Nat.le_of_ble_eq_true rfl) (x_rv hB5.1.1 hB5.1.2 rfl) rfl rfl (b_X12_ends_0 hB5) rfl (fun h6 e6 => ?_)
  obtain ⟨hZ6, G6⟩ := e6
  have FM6 : FRp (fpM m a) h h6 := FM5.tr (G6)
  refine r_ireturn rfl rfl dX12_buyFlour_64 ?_
  exact ⟨rfl, hZ6, FM6⟩
set_option maxRecDepth 20000 in
set_option maxHeartbeats 1000000 in
theorem b_X12_buyFlour_n3 {G : xG} {h : xH} {sa : Nat → Nat} {m : Nat} {a : MA} {S : XS} {c0 : Int} (hB0 : MB G h sa m a S c0) (hWX : WX S) (hcb : cnt isC S.2.2.1.2 ≤ 3) {z : Int} (hz : in32 z) (hir : inR z 1 50 = true) (hlt : 999 < S.2.2.1.1.2.2.1 + z) : CC G MX12_buyFlour [.ref m, .int (iI z)] h (fun o h' => o = .inl (some (.int (iI 0))) ∧ MB G h' sa m a S 2 ∧ FRp (fpM m a) h h') := by
  obtain ⟨r, hth, hB⟩ := hB0
  have hWB := hWX.1
  obtain ⟨g, hR, hRW⟩ := hB.now
  have hn := hRW.1.2.1
  have hc := hRW.1.1.2.2.2.1
  obtain ⟨hms, hro, hme, hfl, hho⟩ := id hWB
  have hzr : 1 ≤ z ∧ z ≤ 50 := by simpa [inR] using hir
  show RR G MX12_buyFlour 0 [(0, .ref m), (1, .int (iI z))] [] h (xm_R MX12_buyFlour).cells (xm_R MX12_buyFlour).slots (fun o h' => o = .inl (some (.int (iI 0))) ∧ MB G h' sa m a S 2 ∧ FRp (fpM m a) h h')
  refine r_aload_n dX12_buyFlour_0 0 rfl ?_
  refine r_iload_n dX12_buyFlour_1 1 rfl ?_
  refine i_const (1) dX12_buyFlour_2 ?_
  refine i_bipush (50) (by decide) dX12_buyFlour_3 ?_
  refine p_callS (As := [.int (iI z), .int (iI 1), .int (iI 50)]) (rest := [.ref m]) (w := (some (.int (iI (b2 true))))) (st' := [.int (iI (b2 true)), .ref m]) kv_X12_buyFlour_107 dX12_buyFlour_5 rfl rfl (Nat.le_of_ble_eq_true rfl) (Nat.le_of_ble_eq_true rfl) rfl rfl (c_X12_inRange_b hz ⟨by decide, by decide⟩ ⟨by decide, by decide⟩ (b := true) hir) rfl (fun h1 e1 => ?_)
  rw [show h1 = h from e1]
  refine r_aload_n dX12_buyFlour_8 0 rfl ?_
  refine m_g_rr (v := r.1) hB.1 rfl kf_X12_25 dX12_buyFlour_9 ?_
  refine i_const (2) dX12_buyFlour_12 ?_
  refine m_ld (v := iI S.2.2.1.1.2.2.1) 2 rfl hRW.1.1.2.2.1 hR dX12_buyFlour_13 (by omega) (by decide) ?_
  refine r_iload_n dX12_buyFlour_14 1 rfl ?_
  refine i_add dX12_buyFlour_15 ?_
  refine i_sipush (999) (by decide) dX12_buyFlour_16 ?_
  refine i_icmpgt dX12_buyFlour_19 (tgt := 26) (by decide) (by unfold in32; omega) ⟨by decide, by decide⟩ (fun _ => ?_) (fun c => absurd c (by omega))
  refine i_const (0) dX12_buyFlour_26 ?_
  refine p_callV (As := [.int (iI (b2 true)), .int (iI 0)]) (b := m) (rest := []) (w := (some (.int (iI 1)))) (st' := [.int (iI 1)]) kv_X12_buyFlour_155 dX12_buyFlour_27 rfl rfl (Nat.le_of_ble_eq_true rfl) (Nat.le_of_ble_eq_true rfl) (x_rv hB.1.1 hB.1.2 rfl) rfl rfl (c_X12_lacksBoth_tf hB.1) rfl (fun h2 e2 => ?_)
  obtain ⟨hM2, F2⟩ := e2
  have hB2 := hB.obj hM2 ⟨rfl, rfl, rfl, rfl, rfl, rfl, rfl, rfl⟩ F2
  have FM2 : FRp (fpM m a) h h2 := fpm_m (a := a) F2
  refine i_ifeq dX12_buyFlour_30 (tgt := 35) (by decide) ⟨by decide, by decide⟩ (fun c => absurd c (by decide)) (fun _ => ?_)
  refine i_const (0) dX12_buyFlour_33 ?_
  refine r_ireturn rfl rfl dX12_buyFlour_34 ?_
  exact ⟨rfl, MB.mk hB2 rfl, FM2⟩
set_option maxRecDepth 20000 in
set_option maxHeartbeats 1000000 in
theorem b_X12_buyFlour_n1 {G : xG} {h : xH} {sa : Nat → Nat} {m : Nat} {a : MA} {S : XS} {c0 : Int} (hB0 : MB G h sa m a S c0) (hWX : WX S) (hcb : cnt isC S.2.2.1.2 ≤ 3) {z : Int} (hz : in32 z) (hir : inR z 1 50 = false) : CC G MX12_buyFlour [.ref m, .int (iI z)] h (fun o h' => o = .inl (some (.int (iI 0))) ∧ MB G h' sa m a S 1 ∧ FRp (fpM m a) h h') := by
  obtain ⟨r, hth, hB⟩ := hB0
  have hWB := hWX.1
  obtain ⟨g, hR, hRW⟩ := hB.now
  have hn := hRW.1.2.1
  have hc := hRW.1.1.2.2.2.1
  obtain ⟨hms, hro, hme, hfl, hho⟩ := id hWB
  show RR G MX12_buyFlour 0 [(0, .ref m), (1, .int (iI z))] [] h (xm_R MX12_buyFlour).cells (xm_R MX12_buyFlour).slots (fun o h' => o = .inl (some (.int (iI 0))) ∧ MB G h' sa m a S 1 ∧ FRp (fpM m a) h h')
  refine r_aload_n dX12_buyFlour_0 0 rfl ?_
  refine r_iload_n dX12_buyFlour_1 1 rfl ?_
  refine i_const (1) dX12_buyFlour_2 ?_
  refine i_bipush (50) (by decide) dX12_buyFlour_3 ?_
  refine p_callS (As := [.int (iI z), .int (iI 1), .int (iI 50)]) (rest := [.ref m]) (w := (some (.int (iI (b2 false))))) (st' := [.int (iI (b2 false)), .ref m]) kv_X12_buyFlour_107 dX12_buyFlour_5 rfl rfl (Nat.le_of_ble_eq_true rfl) (Nat.le_of_ble_eq_true rfl) rfl rfl (c_X12_inRange_b hz ⟨by decide, by decide⟩ ⟨by decide, by decide⟩ (b := false) hir) rfl (fun h1 e1 => ?_)
  rw [show h1 = h from e1]
  refine r_aload_n dX12_buyFlour_8 0 rfl ?_
  refine m_g_rr (v := r.1) hB.1 rfl kf_X12_25 dX12_buyFlour_9 ?_
  refine i_const (2) dX12_buyFlour_12 ?_
  refine m_ld (v := iI S.2.2.1.1.2.2.1) 2 rfl hRW.1.1.2.2.1 hR dX12_buyFlour_13 (by omega) (by decide) ?_
  refine r_iload_n dX12_buyFlour_14 1 rfl ?_
  refine i_add dX12_buyFlour_15 ?_
  refine i_sipush (999) (by decide) dX12_buyFlour_16 ?_
  refine r_icmpgt dX12_buyFlour_19 (tgt := 26) (by decide) (fun c19 => ?_) (fun c19 => ?_)
  · refine i_const (0) dX12_buyFlour_26 ?_
    refine p_callV (As := [.int (iI (b2 false)), .int (iI 0)]) (b := m) (rest := []) (w := (some (.int (iI 1)))) (st' := [.int (iI 1)]) kv_X12_buyFlour_155 dX12_buyFlour_27 rfl rfl (Nat.le_of_ble_eq_true rfl) (Nat.le_of_ble_eq_true rfl) (x_rv hB.1.1 hB.1.2 rfl) rfl rfl (c_X12_lacksBoth_ff hB.1) rfl (fun h2 e2 => ?_)
    obtain ⟨hM2, F2⟩ := e2
    have hB2 := hB.obj hM2 ⟨rfl, rfl, rfl, rfl, rfl, rfl, rfl, rfl⟩ F2
    have FM2 : FRp (fpM m a) h h2 := fpm_m (a := a) F2
    refine i_ifeq dX12_buyFlour_30 (tgt := 35) (by decide) ⟨by decide, by decide⟩ (fun c => absurd c (by decide)) (fun _ => ?_)
    refine i_const (0) dX12_buyFlour_33 ?_
    refine r_ireturn rfl rfl dX12_buyFlour_34 ?_
    exact ⟨rfl, MB.mk hB2 rfl, FM2⟩
  · refine i_const (1) dX12_buyFlour_22 ?_
    refine r_goto dX12_buyFlour_23 (tgt := 27) (by decide) ?_
    refine p_callV (As := [.int (iI (b2 false)), .int (iI 1)]) (b := m) (rest := []) (w := (some (.int (iI 1)))) (st' := [.int (iI 1)]) kv_X12_buyFlour_155 dX12_buyFlour_27 rfl rfl (Nat.le_of_ble_eq_true rfl) (Nat.le_of_ble_eq_true rfl) (x_rv hB.1.1 hB.1.2 rfl) rfl rfl (c_X12_lacksBoth_ft hB.1) rfl (fun h3 e3 => ?_)
    obtain ⟨hM3, F3⟩ := e3
    have hB3 := hB.obj hM3 ⟨rfl, rfl, rfl, rfl, rfl, rfl, rfl, rfl⟩ F3
    have FM3 : FRp (fpM m a) h h3 := fpm_m (a := a) F3
    refine i_ifeq dX12_buyFlour_30 (tgt := 35) (by decide) ⟨by decide, by decide⟩ (fun c => absurd c (by decide)) (fun _ => ?_)
    refine i_const (0) dX12_buyFlour_33 ?_
    refine r_ireturn rfl rfl dX12_buyFlour_34 ?_
    exact ⟨rfl, MB.mk hB3 rfl, FM3⟩
theorem b_X12_buyFlour_ok {G : xG} {h : xH} {sa : Nat → Nat} {m : Nat} {a : MA} {S : XS} {c0 : Int} (hB0 : MB G h sa m a S c0) (hWX : WX S) (hcb : cnt isC S.2.2.1.2 ≤ 3) {z : Int} (hz : in32 z) (h0 : rFlour S.2.2.1 z = 0) : CC G MX12_buyFlour [.ref m, .int (iI z)] h (fun o h' => o = .inl (some (.int (iI (S.2.2.1.1.2.2.1 + z)))) ∧ MB G h' sa m a (S.1, S.2.1, aFlour S.2.2.1 z, S.2.2.2.1, remH S.2.2.2.2.1 S.2.2.1, S.2.2.2.2.2) 0 ∧ FRp (fpM m a) h h') := by
  obtain ⟨z1, z2, z3⟩ := rFl0 h0
  exact b_X12_buyFlour_k hB0 hWX hcb hz (by unfold inR; rw [decide_eq_true z1, decide_eq_true z2]; rfl) z3
theorem b_X12_buyFlour_no {G : xG} {h : xH} {sa : Nat → Nat} {m : Nat} {a : MA} {S : XS} {c0 : Int} (hB0 : MB G h sa m a S c0) (hWX : WX S) (hcb : cnt isC S.2.2.1.2 ≤ 3) {z : Int} (hz : in32 z) (h0 : rFlour S.2.2.1 z ≠ 0) : CC G MX12_buyFlour [.ref m, .int (iI z)] h (fun o h' => o = .inl (some (.int (iI 0))) ∧ MB G h' sa m a S (cP 10 (rFlour S.2.2.1 z)) ∧ FRp (fpM m a) h h') := by
  cases hir : inR z 1 50
  · have e : rFlour S.2.2.1 z = 2 := by
      unfold rFlour
      by_cases c : z < 1
      · rw [if_pos c]
      · rw [if_neg c, if_pos (by unfold inR at hir; simp at hir; omega)]
    rw [e]
    exact b_X12_buyFlour_n1 hB0 hWX hcb hz hir
  · have hrg : 1 ≤ z ∧ z ≤ 50 := by simpa [inR] using hir
    have e : rFlour S.2.2.1 z = (if 999 < S.2.2.1.1.2.2.1 + z then 3 else 0) := by unfold rFlour; rw [if_neg (by omega), if_neg (by omega)]
    rw [e] at h0 ⊢
    by_cases c : 999 < S.2.2.1.1.2.2.1 + z
    · rw [if_pos c]; exact b_X12_buyFlour_n3 hB0 hWX hcb hz hir c
    · rw [if_neg c] at h0; exact absurd rfl h0
set_option maxRecDepth 20000 in
set_option maxHeartbeats 1000000 in
theorem c_X12_undo_ok {G : xG} {h : xH} {m : Nat} {a : MA} {r : MR} (hM : MO G h m a r) {gH gN : Nat → Int32} (hH : AR G h a.2.2.2.2.1 11648 gH) (hN : AR G h a.1 1456 gN) {n9 : Nat} (hn9 : n9 < 8) (hun : r.2.1 = (n9 : Int) + 1) : CC G MX12_undo [.ref m] h (fun o h' => o = .inl (some (.int (iI (n9 : Int)))) ∧ MO G h' m a (r_un (r_th r 0) (n9 : Int)) ∧ AR G h' a.1 1456 (va_cpy gH gN (1456 * n9) (1456 * 0) 1456) ∧ FRp [m, a.1] h h') := by
  show RR G MX12_undo 0 [(0, .ref m)] [] h (xm_R MX12_undo).cells (xm_R MX12_undo).slots (fun o h' => o = .inl (some (.int (iI (n9 : Int)))) ∧ MO G h' m a (r_un (r_th r 0) (n9 : Int)) ∧ AR G h' a.1 1456 (va_cpy gH gN (1456 * n9) (1456 * 0) 1456) ∧ FRp [m, a.1] h h')
  refine r_aload_n dX12_undo_0 0 rfl ?_
  refine r_aload_n dX12_undo_1 0 rfl ?_
  refine m_g_un (v := ((n9 : Int) + 1)) hM hun kf_X12_224 dX12_undo_2 ?_
  refine i_ifle dX12_undo_5 (tgt := 12) (by decide) (by unfold in32; omega) (fun c => absurd c (by omega)) (fun _ => ?_)
  refine i_const (1) dX12_undo_8 ?_
  refine r_goto dX12_undo_9 (tgt := 13) (by decide) ?_
  refine p_callV (As := [.int (iI 1)]) (b := m) (rest := []) (w := (some (.int (iI 0)))) (st' := [.int (iI 0)]) kv_X12_undo_82 dX12_undo_13 rfl rfl (Nat.le_of_ble_eq_true rfl) (Nat.le_of_ble_eq_true rfl) (x_rv hM.1 hM.2 rfl) rfl rfl (c_X12_lacks_t hM) rfl (fun h1 e1 => ?_)
  obtain ⟨hM1, F1⟩ := e1
  have hH_1 := hH.obj hM F1
  have hN_1 := hN.obj hM F1
  refine i_ifeq dX12_undo_16 (tgt := 21) (by decide) ⟨by decide, by decide⟩ (fun _ => ?_) (fun c => absurd c (by decide))
  refine r_aload_n dX12_undo_21 0 rfl ?_
  refine r_dup dX12_undo_22 rfl ?_
  refine m_g_un (v := ((n9 : Int) + 1)) hM1 hun kf_X12_224 dX12_undo_23 ?_
  refine i_const (1) dX12_undo_26 ?_
  refine i_sub dX12_undo_27 ?_
  rw [show ((n9 : Int) + 1) - 1 = (n9 : Int) by omega]
  refine m_p_un (v := (n9 : Int)) hM1 kf_X12_224 dX12_undo_28 (fun h2 hM2 F2 => ?_)
  have hH_2 := hH_1.obj hM1 F2
  have hN_2 := hN_1.obj hM1 F2
  refine r_aload_n dX12_undo_31 0 rfl ?_
  refine m_g_hy (v := a.2.2.2.2.1) hM2 rfl kf_X12_22 dX12_undo_32 ?_
  refine r_aload_n dX12_undo_35 0 rfl ?_
  refine m_g_un (v := (n9 : Int)) hM2 rfl kf_X12_224 dX12_undo_36 ?_
  refine r_aload_n dX12_undo_39 0 rfl ?_
  refine m_g_nw (v := a.1) hM2 rfl kf_X12_9 dX12_undo_40 ?_
  refine i_const (0) dX12_undo_43 ?_
  refine p_callS (As := [.ref a.2.2.2.2.1, .int (iI ((n9 : Int))), .ref a.1, .int (iI 0)]) (rest := []) (w := none) (st' := []) kv_X12_undo_220 dX12_undo_44 rfl rfl (Nat.le_of_ble_eq_true rfl) (Nat.le_of_ble_eq_true rfl) rfl rfl (c_X12_copy_z hH_2 hN_2 (sj := n9) (dj := 0) (by omega) rfl (by omega) (by omega) (by decide) (by decide)) rfl (fun h3 e3 => ?_)
  obtain ⟨hD3, F3⟩ := e3
  have hM3 := hM2.row hN_2 F3
  refine r_aload_n dX12_undo_47 0 rfl ?_
  refine m_g_un (v := (n9 : Int)) hM3 rfl kf_X12_224 dX12_undo_48 ?_
  refine r_ireturn rfl rfl dX12_undo_51 ?_
  exact ⟨rfl, hM3, hD3, (((FRm F1).tr (FRm F2)).tr (FRr F3))⟩
set_option maxRecDepth 20000 in
set_option maxHeartbeats 1000000 in
theorem c_X12_undo_no {G : xG} {h : xH} {m : Nat} {a : MA} {r : MR} (hM : MO G h m a r) (hun : r.2.1 = 0) : CC G MX12_undo [.ref m] h (fun o h' => o = .inl (some (.int (iI 0))) ∧ MO G h' m a (r_th r 1) ∧ FRp [m] h h') := by
  show RR G MX12_undo 0 [(0, .ref m)] [] h (xm_R MX12_undo).cells (xm_R MX12_undo).slots (fun o h' => o = .inl (some (.int (iI 0))) ∧ MO G h' m a (r_th r 1) ∧ FRp [m] h h')
  refine r_aload_n dX12_undo_0 0 rfl ?_
  refine r_aload_n dX12_undo_1 0 rfl ?_
  refine m_g_un (v := 0) hM hun kf_X12_224 dX12_undo_2 ?_
  refine i_ifle dX12_undo_5 (tgt := 12) (by decide) ⟨by decide, by decide⟩ (fun _ => ?_) (fun c => absurd c (by decide))
  refine i_const (0) dX12_undo_12 ?_
  refine p_callV (As := [.int (iI 0)]) (b := m) (rest := []) (w := (some (.int (iI 1)))) (st' := [.int (iI 1)]) kv_X12_undo_82 dX12_undo_13 rfl rfl (Nat.le_of_ble_eq_true rfl) (Nat.le_of_ble_eq_true rfl) (x_rv hM.1 hM.2 rfl) rfl rfl (c_X12_lacks_f hM) rfl (fun h1 e1 => ?_)
  obtain ⟨hM1, F1⟩ := e1
  refine i_ifeq dX12_undo_16 (tgt := 21) (by decide) ⟨by decide, by decide⟩ (fun c => absurd c (by decide)) (fun _ => ?_)
  refine i_const (0) dX12_undo_19 ?_
  refine r_ireturn rfl rfl dX12_undo_20 ?_
  exact ⟨rfl, hM1, F1⟩
set_option maxRecDepth 20000 in
set_option maxHeartbeats 1000000 in
theorem c_X12_saveSnapshot {G : xG} {h : xH} {m : Nat} {a : MA} {r : MR} (hM : MO G h m a r) {gS gN : Nat → Int32} (hS : AR G h a.2.2.2.1 1456 gS) (hN : AR G h a.1 1456 gN) : CC G MX12_saveSnapshot [.ref m] h (fun o h' => o = .inl none ∧ MO G h' m a (r_sd (r_th r 0) true) ∧ AR G h' a.2.2.2.1 1456 (va_cpy gN gS (1456 * 0) (1456 * 0) 1456) ∧ FRp [m, a.2.2.2.1] h h') := by
  show RR G MX12_saveSnapshot 0 [(0, .ref m)] [] h (xm_R MX12_saveSnapshot).cells (xm_R MX12_saveSnapshot).slots (fun o h' => o = .inl none ∧ MO G h' m a (r_sd (r_th r 0) true) ∧ AR G h' a.2.2.2.1 1456 (va_cpy gN gS (1456 * 0) (1456 * 0) 1456) ∧ FRp [m, a.2.2.2.1] h h')
  refine r_aload_n dX12_saveSnapshot_0 0 rfl ?_
  refine i_const (0) dX12_saveSnapshot_1 ?_
  refine m_p_th (v := 0) hM kf_X12_79 dX12_saveSnapshot_2 (fun h1 hM1 F1 => ?_)
  have hS_1 := hS.obj hM F1
  have hN_1 := hN.obj hM F1
  refine r_aload_n dX12_saveSnapshot_5 0 rfl ?_
  refine m_g_nw (v := a.1) hM1 rfl kf_X12_9 dX12_saveSnapshot_6 ?_
  refine i_const (0) dX12_saveSnapshot_9 ?_
  refine r_aload_n dX12_saveSnapshot_10 0 rfl ?_
  refine m_g_sv (v := a.2.2.2.1) hM1 rfl kf_X12_19 dX12_saveSnapshot_11 ?_
  refine i_const (0) dX12_saveSnapshot_14 ?_
  refine p_callS (As := [.ref a.1, .int (iI 0), .ref a.2.2.2.1, .int (iI 0)]) (rest := []) (w := none) (st' := []) kv_X12_saveSnapshot_220 dX12_saveSnapshot_15 rfl rfl (Nat.le_of_ble_eq_true rfl) (Nat.le_of_ble_eq_true rfl) rfl rfl (c_X12_copy_z hN_1 hS_1 (sj := 0) (dj := 0) rfl rfl (by omega) (by omega) (by decide) (by decide)) rfl (fun h2 e2 => ?_)
  obtain ⟨hD2, F2⟩ := e2
  have hM2 := hM1.row hS_1 F2
  refine r_aload_n dX12_saveSnapshot_18 0 rfl ?_
  refine i_const (1) dX12_saveSnapshot_19 ?_
  refine m_p_sd (v := true) hM2 kf_X12_275 dX12_saveSnapshot_20 (fun h3 hM3 F3 => ?_)
  have hD2_3 := hD2.obj hM2 F3
  refine r_return rfl dX12_saveSnapshot_23 ?_
  exact ⟨rfl, hM3, hD2_3, (((FRm F1).tr (FRr F2)).tr (FRm F3))⟩
set_option maxRecDepth 20000 in
set_option maxHeartbeats 1000000 in
theorem c_X12_restoreSnapshot_ok {G : xG} {h : xH} {m : Nat} {a : MA} {r : MR} (hM : MO G h m a r) {gS gN : Nat → Int32} (hS : AR G h a.2.2.2.1 1456 gS) (hN : AR G h a.1 1456 gN) (hsd : r.2.2.2.2.2.2.2.2.1 = true) (hrr : r.1 = a.1) {v : Int32} (hv : gS (1456 * 0 + 3) = v) : CC G MX12_restoreSnapshot [.ref m] h (fun o h' => o = .inl (some (.int v)) ∧ MO G h' m a (r_un (r_th r 0) 0) ∧ AR G h' a.1 1456 (va_cpy gS gN (1456 * 0) (1456 * 0) 1456) ∧ FRp [m, a.1] h h') := by
  show RR G MX12_restoreSnapshot 0 [(0, .ref m)] [] h (xm_R MX12_restoreSnapshot).cells (xm_R MX12_restoreSnapshot).slots (fun o h' => o = .inl (some (.int v)) ∧ MO G h' m a (r_un (r_th r 0) 0) ∧ AR G h' a.1 1456 (va_cpy gS gN (1456 * 0) (1456 * 0) 1456) ∧ FRp [m, a.1] h h')
  refine r_aload_n dX12_restoreSnapshot_0 0 rfl ?_
  refine r_aload_n dX12_restoreSnapshot_1 0 rfl ?_
  refine m_g_sd (v := true) hM hsd kf_X12_275 dX12_restoreSnapshot_2 ?_
  refine p_callV (As := [.int (iI (b2 true))]) (b := m) (rest := []) (w := (some (.int (iI 0)))) (st' := [.int (iI 0)]) kv_X12_restoreSnapshot_82 dX12_restoreSnapshot_5 rfl rfl (Nat.le_of_ble_eq_true rfl) (Nat.le_of_ble_eq_true rfl) (x_rv hM.1 hM.2 rfl) rfl rfl (c_X12_lacks_t hM) rfl (fun h1 e1 => ?_)
  obtain ⟨hM1, F1⟩ := e1
  have hS_1 := hS.obj hM F1
  have hN_1 := hN.obj hM F1
  refine i_ifeq dX12_restoreSnapshot_8 (tgt := 13) (by decide) ⟨by decide, by decide⟩ (fun _ => ?_) (fun c => absurd c (by decide))
  refine r_aload_n dX12_restoreSnapshot_13 0 rfl ?_
  refine m_g_sv (v := a.2.2.2.1) hM1 rfl kf_X12_19 dX12_restoreSnapshot_14 ?_
  refine i_const (0) dX12_restoreSnapshot_17 ?_
  refine r_aload_n dX12_restoreSnapshot_18 0 rfl ?_
  refine m_g_nw (v := a.1) hM1 rfl kf_X12_9 dX12_restoreSnapshot_19 ?_
  refine i_const (0) dX12_restoreSnapshot_22 ?_
  refine p_callS (As := [.ref a.2.2.2.1, .int (iI 0), .ref a.1, .int (iI 0)]) (rest := []) (w := none) (st' := []) kv_X12_restoreSnapshot_220 dX12_restoreSnapshot_23 rfl rfl (Nat.le_of_ble_eq_true rfl) (Nat.le_of_ble_eq_true rfl) rfl rfl (c_X12_copy_z hS_1 hN_1 (sj := 0) (dj := 0) rfl rfl (by omega) (by omega) (by decide) (by decide)) rfl (fun h2 e2 => ?_)
  obtain ⟨hD2, F2⟩ := e2
  have hM2 := hM1.row hN_1 F2
  refine r_aload_n dX12_restoreSnapshot_26 0 rfl ?_
  refine i_const (0) dX12_restoreSnapshot_27 ?_
  refine m_p_un (v := 0) hM2 kf_X12_224 dX12_restoreSnapshot_28 (fun h3 hM3 F3 => ?_)
  have hD2_3 := hD2.obj hM2 F3
  refine r_aload_n dX12_restoreSnapshot_31 0 rfl ?_
  refine m_g_rr (v := a.1) hM3 hrr kf_X12_25 dX12_restoreSnapshot_32 ?_
  refine i_const (3) dX12_restoreSnapshot_35 ?_
  refine m_ld (v := v) 3 rfl ((cpy_in (dj := 0) (k := 3) (by omega)).trans hv) hD2_3 dX12_restoreSnapshot_36 (by omega) (by decide) ?_
  refine r_ireturn rfl rfl dX12_restoreSnapshot_37 ?_
  exact ⟨rfl, hM3, hD2_3, (((FRm F1).tr (FRr F2)).tr (FRm F3))⟩
set_option maxRecDepth 20000 in
set_option maxHeartbeats 1000000 in
theorem c_X12_restoreSnapshot_no {G : xG} {h : xH} {m : Nat} {a : MA} {r : MR} (hM : MO G h m a r) (hsd : r.2.2.2.2.2.2.2.2.1 = false) : CC G MX12_restoreSnapshot [.ref m] h (fun o h' => o = .inl (some (.int (iI 0))) ∧ MO G h' m a (r_th r 1) ∧ FRp [m] h h') := by
  show RR G MX12_restoreSnapshot 0 [(0, .ref m)] [] h (xm_R MX12_restoreSnapshot).cells (xm_R MX12_restoreSnapshot).slots (fun o h' => o = .inl (some (.int (iI 0))) ∧ MO G h' m a (r_th r 1) ∧ FRp [m] h h')
  refine r_aload_n dX12_restoreSnapshot_0 0 rfl ?_
  refine r_aload_n dX12_restoreSnapshot_1 0 rfl ?_
  refine m_g_sd (v := false) hM hsd kf_X12_275 dX12_restoreSnapshot_2 ?_
  refine p_callV (As := [.int (iI (b2 false))]) (b := m) (rest := []) (w := (some (.int (iI 1)))) (st' := [.int (iI 1)]) kv_X12_restoreSnapshot_82 dX12_restoreSnapshot_5 rfl rfl (Nat.le_of_ble_eq_true rfl) (Nat.le_of_ble_eq_true rfl) (x_rv hM.1 hM.2 rfl) rfl rfl (c_X12_lacks_f hM) rfl (fun h1 e1 => ?_)
  obtain ⟨hM1, F1⟩ := e1
  refine i_ifeq dX12_restoreSnapshot_8 (tgt := 13) (by decide) ⟨by decide, by decide⟩ (fun c => absurd c (by decide)) (fun _ => ?_)
  refine i_const (0) dX12_restoreSnapshot_11 ?_
  refine r_ireturn rfl rfl dX12_restoreSnapshot_12 ?_
  exact ⟨rfl, hM1, F1⟩
