/-! ===== the reference: changes that go through ===== -/
theorem rDS0 {s : AS} {fl : Int} (h : rDustS s fl = 0) : s.2.2.2.2.2.2 = false ∧ s.2.2.2.2.1 = false ∧ 1 ≤ fl := by
  unfold rDustS at h
  split at h
  · cases h
  · split at h
    · cases h
    · split at h
      · cases h
      · rename_i a b c
        exact ⟨by simpa using a, by simpa using b, by omega⟩
theorem rSS0 {s : AS} (h : rSealS s = 0) : s.2.2.2.2.2.2 = false ∧ s.2.2.2.2.2.1 = false := by
  unfold rSealS at h
  split at h
  · cases h
  · split at h
    · cases h
    · rename_i a b
      exact ⟨by simpa using a, by simpa using b⟩
theorem rCS0 {s : AS} {L : List AS} (h : rCoolS s L = 0) : s.2.2.2.2.2.2 = false ∧ cnt isC L < 3 := by
  unfold rCoolS at h
  split at h
  · cases h
  · split at h
    · cases h
    · rename_i a b
      exact ⟨by simpa using a, by omega⟩
theorem rTS0 {s : AS} (h : rTakeS s = 0) : s.2.2.2.2.2.2 = true := by
  unfold rTakeS at h
  split at h
  · assumption
  · cases h
theorem rCuS0 {s : AS} {n : Nat} (h : rCutS s n = 0) : s.2.2.2.2.2.2 = false ∧ n < 6 := by
  unfold rCutS at h
  split at h
  · cases h
  · split at h
    · cases h
    · rename_i a b
      exact ⟨by simpa using a, by omega⟩
theorem rBS0 {s : AS} {T : Int} (h : rButS s T = 0) : s.2.2.2.2.2.2 = false ∧ (s.1.length : Int) < 200 ∧ hgt s.1 + T ≤ 4000 := by
  unfold rButS at h
  split at h
  · cases h
  · split at h
    · cases h
    · split at h
      · cases h
      · rename_i a b c
        exact ⟨by simpa using a, by omega, by omega⟩
theorem rRS2 {s : AS} {m f : Int} (h : rRollS s m f = 0) : s.2.2.2.2.2.2 = false := by
  unfold rRollS at h
  split at h
  · cases h
  · rename_i a; simpa using a
theorem rRSn {s : AS} {m f : Int} (h : rRollS s m f ≠ 0) : s.2.2.2.2.2.2 = true ∨ sumF (rt f (loss s m)) s.1 = 0 := by
  unfold rRollS at h
  split at h
  · left; assumption
  · split at h
    · right; assumption
    · exact absurd rfl h
theorem rt_0 (f lo : Int) (l : List Int) : True := trivial
set_option maxRecDepth 20000 in
set_option maxHeartbeats 1000000 in
theorem c_X12_doFold_ok {G : xG} {h : xH} {m : Nat} {a : MA} {r : MR} (hM : MO G h m a r) {g : Nat → Int32} (hR : AR G h r.1 1456 g) {B : AB} (hRW : RWf g 0 B) (hWB : WB B) {i : Nat} (hi : i < B.2.length) {np : Nat} (hnp : 2 ≤ np ∧ np ≤ 4) (h0 : obst (B.2.getD i dS) (np : Int) = 0) : CC G MX12_doFold [.ref m, .int (iI ((i : Int))), .int (iI ((np : Int)))] h (fun o h' => o = .inl (some (.int (iI 0))) ∧ DOk G h h' m a r (aFold B i np) ((foldS (B.2.getD i dS) np).1.length : Int)) := by
  have hn := hRW.1.2.1
  have hc := hRW.1.1.2.2.2.1
  have hw := hRW.1.s hi
  have hW := WS.get hWB.1 hi
  obtain ⟨s6, hwS⟩ := hRW.2
  have hwS : SWr g (7 + 207 * 6) s6 := hwS
  obtain ⟨hms, hro, hme, hfl, hho⟩ := id hWB
  obtain ⟨s, hs⟩ : ∃ s, s = B.2.getD i dS := ⟨_, rfl⟩
  rw [← hs] at hw hW
  obtain ⟨hl1, hnz, hh4, hw0, hw9⟩ := id hW
  have hl2 := hw.len
  have hg0 := hgt_nn s.1
  have hgl := hgt_ge s.1 hnz
  rw [← hs] at h0
  have hq : 2 ≤ (np : Int) ∧ (np : Int) ≤ 4 := by omega
  have hroom : (foldP s.1 (!s.2.2.2.2.1) np).1.length ≤ 200 := (fold_ok hW hq h0).1
  show RR G MX12_doFold 0 [(0, .ref m), (1, .int (iI ((i : Int)))), (2, .int (iI ((np : Int))))] [] h (xm_R MX12_doFold).cells (xm_R MX12_doFold).slots (fun o h' => o = .inl (some (.int (iI 0))) ∧ DOk G h h' m a r (aFold B i np) ((foldS (B.2.getD i dS) np).1.length : Int))
  refine r_aload_n dX12_doFold_0 0 rfl ?_
  refine r_iload_n dX12_doFold_1 1 rfl ?_
  refine p_callV (As := [.int (iI ((i : Int)))]) (b := m) (rest := []) (w := (some (.int (iI (b2 true))))) (st' := [.int (iI (b2 true))]) kv_X12_doFold_111 dX12_doFold_2 rfl rfl (Nat.le_of_ble_eq_true rfl) (Nat.le_of_ble_eq_true rfl) (x_rv hM.1 hM.2 rfl) rfl rfl (c_X12_isSheet_t hM hR hn hc hi) rfl (fun h1 e1 => ?_)
  rw [show h1 = h from e1]
  refine i_ifneb dX12_doFold_5 (tgt := 10) (by decide) (fun _ => ?_) (fun c => absurd c (by decide))
  refine r_aload_n dX12_doFold_10 0 rfl ?_
  refine r_iload_n dX12_doFold_11 1 rfl ?_
  refine r_iload_n dX12_doFold_12 2 rfl ?_
  refine p_callV (As := [.int (iI ((i : Int))), .int (iI ((np : Int)))]) (b := m) (rest := []) (w := (some (.int (iI 0)))) (st' := [.int (iI 0)]) kv_X12_doFold_162 dX12_doFold_13 rfl rfl (Nat.le_of_ble_eq_true rfl) (Nat.le_of_ble_eq_true rfl) (x_rv hM.1 hM.2 rfl) rfl rfl (c_X12_whyNotFold_v hM hR (by omega) hw hW hq h0) rfl (fun h2 e2 => ?_)
  rw [show h2 = h from e2]
  refine i_ifeq dX12_doFold_16 (tgt := 21) (by decide) ⟨by decide, by decide⟩ (fun _ => ?_) (fun c => absurd c (by decide))
  refine r_aload_n dX12_doFold_21 0 rfl ?_
  refine r_iload_n dX12_doFold_22 1 rfl ?_
  refine r_iload_n dX12_doFold_23 2 rfl ?_
  refine p_callV (As := [.int (iI ((i : Int))), .int (iI ((np : Int)))]) (b := m) (rest := []) (w := none) (st' := []) kv_X12_doFold_201 dX12_doFold_24 rfl rfl (Nat.le_of_ble_eq_true rfl) (Nat.le_of_ble_eq_true rfl) (x_rv hM.1 hM.2 rfl) rfl rfl (c_X12_foldUp hM hR (by omega) hw hW rfl hnp hroom) rfl (fun h3 e3 => ?_)
  obtain ⟨hM3, g3, hR3, hw3, hs63, E3, X3⟩ := e3
  have hF3 : FRp [m, r.1] h h3 := X3
  have hRZ : RWf g3 0 (B.1, B.2.set i (foldS s np)) := ⟨hRW.1.sets hi hw3 E3, _, hs63⟩
  refine r_aload_n dX12_doFold_27 0 rfl ?_
  refine r_aload_n dX12_doFold_28 0 rfl ?_
  refine r_iload_n dX12_doFold_29 1 rfl ?_
  refine i_bipush (6) (by decide) dX12_doFold_30 ?_
  refine p_callV (As := [.int (iI ((i : Int))), .int (iI 6)]) (b := m) (rest := [.ref m]) (w := (some (.int (iI ((((foldS s np).1).length : Int)))))) (st' := [.int (iI ((((foldS s np).1).length : Int))), .ref m]) kv_X12_doFold_93 dX12_doFold_32 rfl rfl (Nat.le_of_ble_eq_true rfl) (Nat.le_of_ble_eq_true rfl) (x_rv hM3.1 hM3.2 rfl) rfl rfl (c_X12_of hM3 hR3 (i := i) (w := 6) (by omega) (by decide) hw3.2.2.2.2.2.2.1) rfl (fun h4 e4 => ?_)
  rw [show h4 = h3 from e4]
  refine m_p_re (v := (((foldS s np).1).length : Int)) hM3 kf_X12_204 dX12_doFold_35 (fun h5 hM5 F5 => ?_)
  have hR5 := hR3.obj hM3 F5
  have hF5 := hF3.tr (FRm F5)
  refine i_const (0) dX12_doFold_38 ?_
  refine r_ireturn rfl rfl dX12_doFold_39 ?_
  subst hs
  exact ⟨rfl, _, _, hM5, ⟨⟨rfl, rfl, rfl, rfl, rfl, rfl, rfl, rfl⟩, rfl, rfl⟩, rfl, hR5, hRZ, hF5⟩
set_option maxRecDepth 20000 in
set_option maxHeartbeats 1000000 in
theorem c_X12_doDust_ok {G : xG} {h : xH} {m : Nat} {a : MA} {r : MR} (hM : MO G h m a r) {g : Nat → Int32} (hR : AR G h r.1 1456 g) {B : AB} (hRW : RWf g 0 B) (hWB : WB B) {i : Nat} (hi : i < B.2.length) (h0 : rDustS (B.2.getD i dS) B.1.2.2.1 = 0) : CC G MX12_doDust [.ref m, .int (iI ((i : Int)))] h (fun o h' => o = .inl (some (.int (iI 0))) ∧ DOk G h h' m a r (aDust B i) (B.1.2.2.1 - 1)) := by
  have hn := hRW.1.2.1
  have hc := hRW.1.1.2.2.2.1
  have hw := hRW.1.s hi
  have hW := WS.get hWB.1 hi
  obtain ⟨s6, hwS⟩ := hRW.2
  have hwS : SWr g (7 + 207 * 6) s6 := hwS
  obtain ⟨hms, hro, hme, hfl, hho⟩ := id hWB
  obtain ⟨s, hs⟩ : ∃ s, s = B.2.getD i dS := ⟨_, rfl⟩
  rw [← hs] at hw hW
  obtain ⟨hl1, hnz, hh4, hw0, hw9⟩ := id hW
  have hl2 := hw.len
  have hg0 := hgt_nn s.1
  have hgl := hgt_ge s.1 hnz
  rw [← hs] at h0
  have hf := rDS0 h0
  show RR G MX12_doDust 0 [(0, .ref m), (1, .int (iI ((i : Int))))] [] h (xm_R MX12_doDust).cells (xm_R MX12_doDust).slots (fun o h' => o = .inl (some (.int (iI 0))) ∧ DOk G h h' m a r (aDust B i) (B.1.2.2.1 - 1))
  refine r_aload_n dX12_doDust_0 0 rfl ?_
  refine r_iload_n dX12_doDust_1 1 rfl ?_
  refine p_callV (As := [.int (iI ((i : Int)))]) (b := m) (rest := []) (w := (some (.int (iI (b2 true))))) (st' := [.int (iI (b2 true))]) kv_X12_doDust_111 dX12_doDust_2 rfl rfl (Nat.le_of_ble_eq_true rfl) (Nat.le_of_ble_eq_true rfl) (x_rv hM.1 hM.2 rfl) rfl rfl (c_X12_isSheet_t hM hR hn hc hi) rfl (fun h1 e1 => ?_)
  rw [show h1 = h from e1]
  refine i_ifneb dX12_doDust_5 (tgt := 10) (by decide) (fun _ => ?_) (fun c => absurd c (by decide))
  refine r_aload_n dX12_doDust_10 0 rfl ?_
  refine r_iload_n dX12_doDust_11 1 rfl ?_
  refine i_const (3) dX12_doDust_12 ?_
  refine p_callV (As := [.int (iI ((i : Int))), .int (iI 3)]) (b := m) (rest := []) (w := (some (.int (iI (b2 s.2.2.2.2.2.2))))) (st' := [.int (iI (b2 s.2.2.2.2.2.2))]) kv_X12_doDust_124 dX12_doDust_13 rfl rfl (Nat.le_of_ble_eq_true rfl) (Nat.le_of_ble_eq_true rfl) (x_rv hM.1 hM.2 rfl) rfl rfl (c_X12_is hM hR (i := i) (w := 3) (by omega) (by decide) hw.2.2.2.1) rfl (fun h2 e2 => ?_)
  rw [show h2 = h from e2]
  refine i_ifneb dX12_doDust_16 (tgt := 37) (by decide) (fun c => by rw [hf.1] at c; cases c) (fun _ => ?_)
  refine r_aload_n dX12_doDust_19 0 rfl ?_
  refine r_iload_n dX12_doDust_20 1 rfl ?_
  refine i_const (1) dX12_doDust_21 ?_
  refine p_callV (As := [.int (iI ((i : Int))), .int (iI 1)]) (b := m) (rest := []) (w := (some (.int (iI (b2 s.2.2.2.2.1))))) (st' := [.int (iI (b2 s.2.2.2.2.1))]) kv_X12_doDust_124 dX12_doDust_22 rfl rfl (Nat.le_of_ble_eq_true rfl) (Nat.le_of_ble_eq_true rfl) (x_rv hM.1 hM.2 rfl) rfl rfl (c_X12_is hM hR (i := i) (w := 1) (by omega) (by decide) hw.2.1) rfl (fun h3 e3 => ?_)
  rw [show h3 = h from e3]
  refine i_ifneb dX12_doDust_25 (tgt := 37) (by decide) (fun c => by rw [hf.2.1] at c; cases c) (fun _ => ?_)
  refine r_aload_n dX12_doDust_28 0 rfl ?_
  refine m_g_rr (v := r.1) hM rfl kf_X12_25 dX12_doDust_29 ?_
  refine i_const (2) dX12_doDust_32 ?_
  refine m_ld (v := iI B.1.2.2.1) 2 rfl hRW.1.1.2.2.1 hR dX12_doDust_33 (by omega) (by decide) ?_
  refine i_ifne dX12_doDust_34 (tgt := 39) (by decide) (by unfold in32; omega) (fun _ => ?_) (fun c => absurd c (by omega))
  refine r_aload_n dX12_doDust_39 0 rfl ?_
  refine r_iload_n dX12_doDust_40 1 rfl ?_
  refine i_const (1) dX12_doDust_41 ?_
  refine i_const (1) dX12_doDust_42 ?_
  refine p_callV (As := [.int (iI ((i : Int))), .int (iI 1), .int (iI 1)]) (b := m) (rest := []) (w := none) (st' := []) kv_X12_doDust_90 dX12_doDust_43 rfl rfl (Nat.le_of_ble_eq_true rfl) (Nat.le_of_ble_eq_true rfl) (x_rv hM.1 hM.2 rfl) rfl rfl (c_X12_lay_1 hM hR (i := i) (by omega) hw (v := true)) rfl (fun h4 e4 => ?_)
  obtain ⟨g4, hR4, hw4, E4, F4⟩ := e4
  have hM4 := hM.row hR F4
  have hF4 : FRp [m, r.1] h h4 := FRr F4
  have hwS_4 := hwS.oth E4 (by omega)
  have hRWY := hRW.set (i := i) hi hw4 E4
  refine r_aload_n dX12_doDust_46 0 rfl ?_
  refine m_g_rr (v := r.1) hM4 rfl kf_X12_25 dX12_doDust_47 ?_
  refine i_const (2) dX12_doDust_50 ?_
  refine r_dup2 dX12_doDust_51 rfl rfl ?_
  refine m_ld (v := iI B.1.2.2.1) 2 rfl hRWY.1.1.2.2.1 hR4 dX12_doDust_52 (by omega) (by decide) ?_
  refine i_const (1) dX12_doDust_53 ?_
  refine i_sub dX12_doDust_54 ?_
  refine m_st 2 rfl hR4 dX12_doDust_55 (by omega) (by decide) (fun h5 hR5 F5 => ?_)
  have hM5 := hM4.row hR4 F5
  have hF5 := hF4.tr (FRr F5)
  obtain ⟨g5, hg5⟩ : ∃ y, y = (upd g4 2 (iI (B.1.2.2.1 - 1))) := ⟨_, rfl⟩
  rw [← hg5] at hR5
  have hn5 : ∀ j, j ≠ 2 → g5 j = g4 j := fun j hj => by rw [hg5]; exact upd_n hj
  have hk5 : g5 2 = iI (B.1.2.2.1 - 1) := by rw [hg5]; exact upd_s
  have hw4_5 := hw4.eq (fun j q1 q2 => hn5 j (by omega))
  have hwS_5 := hwS_4.eq (fun j q1 q2 => hn5 j (by omega))
  have hRW5 : RWf g5 0 ((B.1.1, B.1.2.1, (B.1.2.2.1 - 1), B.1.2.2.2.1, B.1.2.2.2.2.1, B.1.2.2.2.2.2), (B.2.set i (s.1, s.2.1, s.2.2.1, s.2.2.2.1, true, s.2.2.2.2.2.1, s.2.2.2.2.2.2))) := hRWY.hd (fun j hj => hn5 j (by omega)) ((hn5 0 (by omega)).trans hRWY.1.1.1) ((hn5 1 (by omega)).trans hRWY.1.1.2.1) hk5 (hn5 3 (by omega)) ((hn5 4 (by omega)).trans hRWY.1.1.2.2.2.2.1) ((hn5 5 (by omega)).trans hRWY.1.1.2.2.2.2.2.1) ((hn5 6 (by omega)).trans hRWY.1.1.2.2.2.2.2.2)
  refine r_aload_n dX12_doDust_56 0 rfl ?_
  refine r_aload_n dX12_doDust_57 0 rfl ?_
  refine m_g_rr (v := r.1) hM5 rfl kf_X12_25 dX12_doDust_58 ?_
  refine i_const (2) dX12_doDust_61 ?_
  refine m_ld (v := iI ((B.1.2.2.1 - 1))) 2 rfl hRW5.1.1.2.2.1 hR5 dX12_doDust_62 (by omega) (by decide) ?_
  refine m_p_re (v := (B.1.2.2.1 - 1)) hM5 kf_X12_204 dX12_doDust_63 (fun h6 hM6 F6 => ?_)
  have hR6 := hR5.obj hM5 F6
  have hF6 := hF5.tr (FRm F6)
  refine i_const (0) dX12_doDust_66 ?_
  refine r_ireturn rfl rfl dX12_doDust_67 ?_
  subst hs
  exact ⟨rfl, _, _, hM6, ⟨⟨rfl, rfl, rfl, rfl, rfl, rfl, rfl, rfl⟩, rfl, rfl⟩, rfl, hR6, hRW5, hF6⟩
set_option maxRecDepth 20000 in
set_option maxHeartbeats 1000000 in
theorem c_X12_doSeal_ok {G : xG} {h : xH} {m : Nat} {a : MA} {r : MR} (hM : MO G h m a r) {g : Nat → Int32} (hR : AR G h r.1 1456 g) {B : AB} (hRW : RWf g 0 B) (hWB : WB B) {i : Nat} (hi : i < B.2.length) (h0 : rSealS (B.2.getD i dS) = 0) : CC G MX12_doSeal [.ref m, .int (iI ((i : Int)))] h (fun o h' => o = .inl (some (.int (iI 0))) ∧ DOk G h h' m a r (aSeal B i) (cnt isSe (B.2.set i (seS (B.2.getD i dS) true)))) := by
  have hn := hRW.1.2.1
  have hc := hRW.1.1.2.2.2.1
  have hw := hRW.1.s hi
  have hW := WS.get hWB.1 hi
  obtain ⟨s6, hwS⟩ := hRW.2
  have hwS : SWr g (7 + 207 * 6) s6 := hwS
  obtain ⟨hms, hro, hme, hfl, hho⟩ := id hWB
  obtain ⟨s, hs⟩ : ∃ s, s = B.2.getD i dS := ⟨_, rfl⟩
  rw [← hs] at hw hW
  obtain ⟨hl1, hnz, hh4, hw0, hw9⟩ := id hW
  have hl2 := hw.len
  have hg0 := hgt_nn s.1
  have hgl := hgt_ge s.1 hnz
  rw [← hs] at h0
  have hf := rSS0 h0
  show RR G MX12_doSeal 0 [(0, .ref m), (1, .int (iI ((i : Int))))] [] h (xm_R MX12_doSeal).cells (xm_R MX12_doSeal).slots (fun o h' => o = .inl (some (.int (iI 0))) ∧ DOk G h h' m a r (aSeal B i) (cnt isSe (B.2.set i (seS (B.2.getD i dS) true))))
  refine r_aload_n dX12_doSeal_0 0 rfl ?_
  refine r_iload_n dX12_doSeal_1 1 rfl ?_
  refine p_callV (As := [.int (iI ((i : Int)))]) (b := m) (rest := []) (w := (some (.int (iI (b2 true))))) (st' := [.int (iI (b2 true))]) kv_X12_doSeal_111 dX12_doSeal_2 rfl rfl (Nat.le_of_ble_eq_true rfl) (Nat.le_of_ble_eq_true rfl) (x_rv hM.1 hM.2 rfl) rfl rfl (c_X12_isSheet_t hM hR hn hc hi) rfl (fun h1 e1 => ?_)
  rw [show h1 = h from e1]
  refine i_ifneb dX12_doSeal_5 (tgt := 10) (by decide) (fun _ => ?_) (fun c => absurd c (by decide))
  refine r_aload_n dX12_doSeal_10 0 rfl ?_
  refine r_iload_n dX12_doSeal_11 1 rfl ?_
  refine i_const (3) dX12_doSeal_12 ?_
  refine p_callV (As := [.int (iI ((i : Int))), .int (iI 3)]) (b := m) (rest := []) (w := (some (.int (iI (b2 s.2.2.2.2.2.2))))) (st' := [.int (iI (b2 s.2.2.2.2.2.2))]) kv_X12_doSeal_124 dX12_doSeal_13 rfl rfl (Nat.le_of_ble_eq_true rfl) (Nat.le_of_ble_eq_true rfl) (x_rv hM.1 hM.2 rfl) rfl rfl (c_X12_is hM hR (i := i) (w := 3) (by omega) (by decide) hw.2.2.2.1) rfl (fun h2 e2 => ?_)
  rw [show h2 = h from e2]
  refine i_ifneb dX12_doSeal_16 (tgt := 28) (by decide) (fun c => by rw [hf.1] at c; cases c) (fun _ => ?_)
  refine r_aload_n dX12_doSeal_19 0 rfl ?_
  refine r_iload_n dX12_doSeal_20 1 rfl ?_
  refine i_const (2) dX12_doSeal_21 ?_
  refine p_callV (As := [.int (iI ((i : Int))), .int (iI 2)]) (b := m) (rest := []) (w := (some (.int (iI (b2 s.2.2.2.2.2.1))))) (st' := [.int (iI (b2 s.2.2.2.2.2.1))]) kv_X12_doSeal_124 dX12_doSeal_22 rfl rfl (Nat.le_of_ble_eq_true rfl) (Nat.le_of_ble_eq_true rfl) (x_rv hM.1 hM.2 rfl) rfl rfl (c_X12_is hM hR (i := i) (w := 2) (by omega) (by decide) hw.2.2.1) rfl (fun h3 e3 => ?_)
  rw [show h3 = h from e3]
  refine i_ifeqb dX12_doSeal_25 (tgt := 30) (by decide) (fun _ => ?_) (fun c => by rw [hf.2] at c; cases c)
  refine r_aload_n dX12_doSeal_30 0 rfl ?_
  refine r_iload_n dX12_doSeal_31 1 rfl ?_
  refine i_const (2) dX12_doSeal_32 ?_
  refine i_const (1) dX12_doSeal_33 ?_
  refine p_callV (As := [.int (iI ((i : Int))), .int (iI 2), .int (iI 1)]) (b := m) (rest := []) (w := none) (st' := []) kv_X12_doSeal_90 dX12_doSeal_34 rfl rfl (Nat.le_of_ble_eq_true rfl) (Nat.le_of_ble_eq_true rfl) (x_rv hM.1 hM.2 rfl) rfl rfl (c_X12_lay_2 hM hR (i := i) (by omega) hw (v := true)) rfl (fun h4 e4 => ?_)
  obtain ⟨g4, hR4, hw4, E4, F4⟩ := e4
  have hM4 := hM.row hR F4
  have hF4 : FRp [m, r.1] h h4 := FRr F4
  have hwS_4 := hwS.oth E4 (by omega)
  have hRWY := hRW.set (i := i) hi hw4 E4
  refine r_aload_n dX12_doSeal_37 0 rfl ?_
  refine r_aload_n dX12_doSeal_38 0 rfl ?_
  refine i_const (2) dX12_doSeal_39 ?_
  refine p_callV (As := [.int (iI 2)]) (b := m) (rest := [.ref m]) (w := (some (.int (iI (cnt isSe (B.2.set i (s.1, s.2.1, s.2.2.1, s.2.2.2.1, s.2.2.2.2.1, true, s.2.2.2.2.2.2))))))) (st' := [.int (iI (cnt isSe (B.2.set i (s.1, s.2.1, s.2.2.1, s.2.2.2.1, s.2.2.2.2.1, true, s.2.2.2.2.2.2)))), .ref m]) kv_X12_doSeal_207 dX12_doSeal_40 rfl rfl (Nat.le_of_ble_eq_true rfl) (Nat.le_of_ble_eq_true rfl) (x_rv hM4.1 hM4.2 rfl) rfl rfl (c_X12_countWith_isSe hM4 hR4 hRWY.1) rfl (fun h5 e5 => ?_)
  rw [show h5 = h4 from e5]
  refine m_p_re (v := cnt isSe (B.2.set i (s.1, s.2.1, s.2.2.1, s.2.2.2.1, s.2.2.2.2.1, true, s.2.2.2.2.2.2))) hM4 kf_X12_204 dX12_doSeal_43 (fun h6 hM6 F6 => ?_)
  have hR6 := hR4.obj hM4 F6
  have hF6 := hF4.tr (FRm F6)
  refine i_const (0) dX12_doSeal_46 ?_
  refine r_ireturn rfl rfl dX12_doSeal_47 ?_
  subst hs
  exact ⟨rfl, _, _, hM6, ⟨⟨rfl, rfl, rfl, rfl, rfl, rfl, rfl, rfl⟩, rfl, rfl⟩, rfl, hR6, hRWY, hF6⟩
set_option maxRecDepth 20000 in
set_option maxHeartbeats 1000000 in
theorem c_X12_doCool_ok {G : xG} {h : xH} {m : Nat} {a : MA} {r : MR} (hM : MO G h m a r) {g : Nat → Int32} (hR : AR G h r.1 1456 g) {B : AB} (hRW : RWf g 0 B) (hWB : WB B) {i : Nat} (hi : i < B.2.length) (h0 : rCoolS (B.2.getD i dS) B.2 = 0) : CC G MX12_doCool [.ref m, .int (iI ((i : Int)))] h (fun o h' => o = .inl (some (.int (iI 0))) ∧ DOk G h h' m a r (aCool B i) (cnt isC (B.2.set i (coS (B.2.getD i dS) true)))) := by
  have hn := hRW.1.2.1
  have hc := hRW.1.1.2.2.2.1
  have hw := hRW.1.s hi
  have hW := WS.get hWB.1 hi
  obtain ⟨s6, hwS⟩ := hRW.2
  have hwS : SWr g (7 + 207 * 6) s6 := hwS
  obtain ⟨hms, hro, hme, hfl, hho⟩ := id hWB
  obtain ⟨s, hs⟩ : ∃ s, s = B.2.getD i dS := ⟨_, rfl⟩
  rw [← hs] at hw hW
  obtain ⟨hl1, hnz, hh4, hw0, hw9⟩ := id hW
  have hl2 := hw.len
  have hg0 := hgt_nn s.1
  have hgl := hgt_ge s.1 hnz
  rw [← hs] at h0
  have hf := rCS0 h0
  have hcn := cnt_b isC B.2
  show RR G MX12_doCool 0 [(0, .ref m), (1, .int (iI ((i : Int))))] [] h (xm_R MX12_doCool).cells (xm_R MX12_doCool).slots (fun o h' => o = .inl (some (.int (iI 0))) ∧ DOk G h h' m a r (aCool B i) (cnt isC (B.2.set i (coS (B.2.getD i dS) true))))
  refine r_aload_n dX12_doCool_0 0 rfl ?_
  refine r_iload_n dX12_doCool_1 1 rfl ?_
  refine p_callV (As := [.int (iI ((i : Int)))]) (b := m) (rest := []) (w := (some (.int (iI (b2 true))))) (st' := [.int (iI (b2 true))]) kv_X12_doCool_111 dX12_doCool_2 rfl rfl (Nat.le_of_ble_eq_true rfl) (Nat.le_of_ble_eq_true rfl) (x_rv hM.1 hM.2 rfl) rfl rfl (c_X12_isSheet_t hM hR hn hc hi) rfl (fun h1 e1 => ?_)
  rw [show h1 = h from e1]
  refine i_ifneb dX12_doCool_5 (tgt := 10) (by decide) (fun _ => ?_) (fun c => absurd c (by decide))
  refine r_aload_n dX12_doCool_10 0 rfl ?_
  refine r_iload_n dX12_doCool_11 1 rfl ?_
  refine i_const (3) dX12_doCool_12 ?_
  refine p_callV (As := [.int (iI ((i : Int))), .int (iI 3)]) (b := m) (rest := []) (w := (some (.int (iI (b2 s.2.2.2.2.2.2))))) (st' := [.int (iI (b2 s.2.2.2.2.2.2))]) kv_X12_doCool_124 dX12_doCool_13 rfl rfl (Nat.le_of_ble_eq_true rfl) (Nat.le_of_ble_eq_true rfl) (x_rv hM.1 hM.2 rfl) rfl rfl (c_X12_is hM hR (i := i) (w := 3) (by omega) (by decide) hw.2.2.2.1) rfl (fun h2 e2 => ?_)
  rw [show h2 = h from e2]
  refine i_ifneb dX12_doCool_16 (tgt := 28) (by decide) (fun c => by rw [hf.1] at c; cases c) (fun _ => ?_)
  refine r_aload_n dX12_doCool_19 0 rfl ?_
  refine i_const (3) dX12_doCool_20 ?_
  refine p_callV (As := [.int (iI 3)]) (b := m) (rest := []) (w := (some (.int (iI (cnt isC B.2))))) (st' := [.int (iI (cnt isC B.2))]) kv_X12_doCool_207 dX12_doCool_21 rfl rfl (Nat.le_of_ble_eq_true rfl) (Nat.le_of_ble_eq_true rfl) (x_rv hM.1 hM.2 rfl) rfl rfl (c_X12_countWith_isC hM hR hRW.1) rfl (fun h3 e3 => ?_)
  rw [show h3 = h from e3]
  refine i_const (3) dX12_doCool_24 ?_
  refine i_icmpne dX12_doCool_25 (tgt := 30) (by decide) (by unfold in32; omega) ⟨by decide, by decide⟩ (fun _ => ?_) (fun c => absurd c (by omega))
  refine r_aload_n dX12_doCool_30 0 rfl ?_
  refine r_iload_n dX12_doCool_31 1 rfl ?_
  refine i_const (3) dX12_doCool_32 ?_
  refine i_const (1) dX12_doCool_33 ?_
  refine p_callV (As := [.int (iI ((i : Int))), .int (iI 3), .int (iI 1)]) (b := m) (rest := []) (w := none) (st' := []) kv_X12_doCool_90 dX12_doCool_34 rfl rfl (Nat.le_of_ble_eq_true rfl) (Nat.le_of_ble_eq_true rfl) (x_rv hM.1 hM.2 rfl) rfl rfl (c_X12_lay_3 hM hR (i := i) (by omega) hw (v := true)) rfl (fun h4 e4 => ?_)
  obtain ⟨g4, hR4, hw4, E4, F4⟩ := e4
  have hM4 := hM.row hR F4
  have hF4 : FRp [m, r.1] h h4 := FRr F4
  have hwS_4 := hwS.oth E4 (by omega)
  have hRWY := hRW.set (i := i) hi hw4 E4
  refine r_aload_n dX12_doCool_37 0 rfl ?_
  refine r_aload_n dX12_doCool_38 0 rfl ?_
  refine i_const (3) dX12_doCool_39 ?_
  refine p_callV (As := [.int (iI 3)]) (b := m) (rest := [.ref m]) (w := (some (.int (iI (cnt isC (B.2.set i (s.1, s.2.1, s.2.2.1, s.2.2.2.1, s.2.2.2.2.1, s.2.2.2.2.2.1, true))))))) (st' := [.int (iI (cnt isC (B.2.set i (s.1, s.2.1, s.2.2.1, s.2.2.2.1, s.2.2.2.2.1, s.2.2.2.2.2.1, true)))), .ref m]) kv_X12_doCool_207 dX12_doCool_40 rfl rfl (Nat.le_of_ble_eq_true rfl) (Nat.le_of_ble_eq_true rfl) (x_rv hM4.1 hM4.2 rfl) rfl rfl (c_X12_countWith_isC hM4 hR4 hRWY.1) rfl (fun h5 e5 => ?_)
  rw [show h5 = h4 from e5]
  refine m_p_re (v := cnt isC (B.2.set i (s.1, s.2.1, s.2.2.1, s.2.2.2.1, s.2.2.2.2.1, s.2.2.2.2.2.1, true))) hM4 kf_X12_204 dX12_doCool_43 (fun h6 hM6 F6 => ?_)
  have hR6 := hR4.obj hM4 F6
  have hF6 := hF4.tr (FRm F6)
  refine i_const (0) dX12_doCool_46 ?_
  refine r_ireturn rfl rfl dX12_doCool_47 ?_
  subst hs
  exact ⟨rfl, _, _, hM6, ⟨⟨rfl, rfl, rfl, rfl, rfl, rfl, rfl, rfl⟩, rfl, rfl⟩, rfl, hR6, hRWY, hF6⟩
set_option maxRecDepth 20000 in
set_option maxHeartbeats 1000000 in
theorem c_X12_doTakeOut_ok {G : xG} {h : xH} {m : Nat} {a : MA} {r : MR} (hM : MO G h m a r) {g : Nat → Int32} (hR : AR G h r.1 1456 g) {B : AB} (hRW : RWf g 0 B) (hWB : WB B) {i : Nat} (hi : i < B.2.length) (h0 : rTakeS (B.2.getD i dS) = 0) : CC G MX12_doTakeOut [.ref m, .int (iI ((i : Int)))] h (fun o h' => o = .inl (some (.int (iI 0))) ∧ DOk G h h' m a r (aTake B i) ((B.2.getD i dS).2.2.1)) := by
  have hn := hRW.1.2.1
  have hc := hRW.1.1.2.2.2.1
  have hw := hRW.1.s hi
  have hW := WS.get hWB.1 hi
  obtain ⟨s6, hwS⟩ := hRW.2
  have hwS : SWr g (7 + 207 * 6) s6 := hwS
  obtain ⟨hms, hro, hme, hfl, hho⟩ := id hWB
  obtain ⟨s, hs⟩ : ∃ s, s = B.2.getD i dS := ⟨_, rfl⟩
  rw [← hs] at hw hW
  obtain ⟨hl1, hnz, hh4, hw0, hw9⟩ := id hW
  have hl2 := hw.len
  have hg0 := hgt_nn s.1
  have hgl := hgt_ge s.1 hnz
  rw [← hs] at h0
  have hf := rTS0 h0
  show RR G MX12_doTakeOut 0 [(0, .ref m), (1, .int (iI ((i : Int))))] [] h (xm_R MX12_doTakeOut).cells (xm_R MX12_doTakeOut).slots (fun o h' => o = .inl (some (.int (iI 0))) ∧ DOk G h h' m a r (aTake B i) ((B.2.getD i dS).2.2.1))
  refine r_aload_n dX12_doTakeOut_0 0 rfl ?_
  refine r_iload_n dX12_doTakeOut_1 1 rfl ?_
  refine p_callV (As := [.int (iI ((i : Int)))]) (b := m) (rest := []) (w := (some (.int (iI (b2 true))))) (st' := [.int (iI (b2 true))]) kv_X12_doTakeOut_111 dX12_doTakeOut_2 rfl rfl (Nat.le_of_ble_eq_true rfl) (Nat.le_of_ble_eq_true rfl) (x_rv hM.1 hM.2 rfl) rfl rfl (c_X12_isSheet_t hM hR hn hc hi) rfl (fun h1 e1 => ?_)
  rw [show h1 = h from e1]
  refine i_ifneb dX12_doTakeOut_5 (tgt := 10) (by decide) (fun _ => ?_) (fun c => absurd c (by decide))
  refine r_aload_n dX12_doTakeOut_10 0 rfl ?_
  refine r_iload_n dX12_doTakeOut_11 1 rfl ?_
  refine i_const (3) dX12_doTakeOut_12 ?_
  refine p_callV (As := [.int (iI ((i : Int))), .int (iI 3)]) (b := m) (rest := []) (w := (some (.int (iI (b2 s.2.2.2.2.2.2))))) (st' := [.int (iI (b2 s.2.2.2.2.2.2))]) kv_X12_doTakeOut_124 dX12_doTakeOut_13 rfl rfl (Nat.le_of_ble_eq_true rfl) (Nat.le_of_ble_eq_true rfl) (x_rv hM.1 hM.2 rfl) rfl rfl (c_X12_is hM hR (i := i) (w := 3) (by omega) (by decide) hw.2.2.2.1) rfl (fun h2 e2 => ?_)
  rw [show h2 = h from e2]
  refine i_ifneb dX12_doTakeOut_16 (tgt := 21) (by decide) (fun _ => ?_) (fun c => by rw [hf] at c; cases c)
  refine r_aload_n dX12_doTakeOut_21 0 rfl ?_
  refine r_iload_n dX12_doTakeOut_22 1 rfl ?_
  refine i_const (3) dX12_doTakeOut_23 ?_
  refine i_const (0) dX12_doTakeOut_24 ?_
  refine p_callV (As := [.int (iI ((i : Int))), .int (iI 3), .int (iI 0)]) (b := m) (rest := []) (w := none) (st' := []) kv_X12_doTakeOut_90 dX12_doTakeOut_25 rfl rfl (Nat.le_of_ble_eq_true rfl) (Nat.le_of_ble_eq_true rfl) (x_rv hM.1 hM.2 rfl) rfl rfl (c_X12_lay_3 hM hR (i := i) (by omega) hw (v := false)) rfl (fun h3 e3 => ?_)
  obtain ⟨g3, hR3, hw3, E3, F3⟩ := e3
  have hM3 := hM.row hR F3
  have hF3 : FRp [m, r.1] h h3 := FRr F3
  have hwS_3 := hwS.oth E3 (by omega)
  refine r_aload_n dX12_doTakeOut_28 0 rfl ?_
  refine r_aload_n dX12_doTakeOut_29 0 rfl ?_
  refine r_iload_n dX12_doTakeOut_30 1 rfl ?_
  refine i_const (0) dX12_doTakeOut_31 ?_
  refine p_callV (As := [.int (iI ((i : Int))), .int (iI 0)]) (b := m) (rest := [.ref m]) (w := (some (.int (iI s.2.2.1)))) (st' := [.int (iI s.2.2.1), .ref m]) kv_X12_doTakeOut_93 dX12_doTakeOut_32 rfl rfl (Nat.le_of_ble_eq_true rfl) (Nat.le_of_ble_eq_true rfl) (x_rv hM3.1 hM3.2 rfl) rfl rfl (c_X12_of hM3 hR3 (i := i) (w := 0) (by omega) (by decide) hw3.1) rfl (fun h4 e4 => ?_)
  rw [show h4 = h3 from e4]
  refine m_p_re (v := s.2.2.1) hM3 kf_X12_204 dX12_doTakeOut_35 (fun h5 hM5 F5 => ?_)
  have hR5 := hR3.obj hM3 F5
  have hF5 := hF3.tr (FRm F5)
  refine i_const (0) dX12_doTakeOut_38 ?_
  refine r_ireturn rfl rfl dX12_doTakeOut_39 ?_
  have hRWZ := hRW.set (i := i) hi hw3 E3
  subst hs
  exact ⟨rfl, _, _, hM5, ⟨⟨rfl, rfl, rfl, rfl, rfl, rfl, rfl, rfl⟩, rfl, rfl⟩, rfl, hR5, hRWZ, hF5⟩
theorem c_X12_putLayer_m {G : xG} {h : xH} {m : Nat} {a : MA} {r : MR} (hM : MO G h m a r) {g : Nat → Int32} (hR : AR G h r.1 1456 g) {i : Nat} (hi : i ≤ 6) {s : AS} (hw : SWr g (7 + 207 * i) s) (hnz : ∀ y ∈ s.1, y ≠ 0) (h32 : ∀ k, k < s.1.length → in32 (s.1.getD k 0)) {x : Int} (hx : x ≠ 0) (hx32 : in32 x) {mt mv : Bool} (e : mt = mv) (hroom : s.1.length < 200 ∨ (mv = true ∧ joinsL s.1 x = true)) : CC G MX12_putLayer [.ref m, .int (iI (i : Int)), .int (iI x), .int (iI (b2 mv))] h (fun o h' => o = .inl none ∧ MO G h' m a (r_jz r (r.2.2.2.2.2.2.2.1 + b2 (putN s.1 x mt).2)) ∧ ∃ g', AR G h' r.1 1456 g' ∧ SWr g' (7 + 207 * i) ((putN s.1 x mt).1, s.2) ∧ EQo i g g' ∧ FRp [m, r.1] h h') := by
  subst e; exact c_X12_putLayer hM hR hi hw hnz h32 hx hx32 hroom
set_option maxRecDepth 20000 in
set_option maxHeartbeats 1000000 in
theorem c_X12_doButter_ok {G : xG} {h : xH} {m : Nat} {a : MA} {r : MR} (hM : MO G h m a r) {g : Nat → Int32} (hR : AR G h r.1 1456 g) {B : AB} (hRW : RWf g 0 B) (hWB : WB B) {i : Nat} (hi : i < B.2.length) {T : Int} (hT : 1 ≤ T ∧ T ≤ 400) (h0 : rButS (B.2.getD i dS) T = 0) : CC G MX12_doButter [.ref m, .int (iI ((i : Int))), .int (iI T)] h (fun o h' => o = .inl (some (.int (iI 0))) ∧ DOk G h h' m a r (aBut B i T) ((butS (B.2.getD i dS) T).1.length : Int)) := by
  have hn := hRW.1.2.1
  have hc := hRW.1.1.2.2.2.1
  have hw := hRW.1.s hi
  have hW := WS.get hWB.1 hi
  obtain ⟨s6, hwS⟩ := hRW.2
  have hwS : SWr g (7 + 207 * 6) s6 := hwS
  obtain ⟨hms, hro, hme, hfl, hho⟩ := id hWB
  obtain ⟨s, hs⟩ : ∃ s, s = B.2.getD i dS := ⟨_, rfl⟩
  rw [← hs] at hw hW
  obtain ⟨hl1, hnz, hh4, hw0, hw9⟩ := id hW
  have hl2 := hw.len
  have hg0 := hgt_nn s.1
  have hgl := hgt_ge s.1 hnz
  rw [← hs] at h0
  have hf := rBS0 h0
  show RR G MX12_doButter 0 [(0, .ref m), (1, .int (iI ((i : Int)))), (2, .int (iI T))] [] h (xm_R MX12_doButter).cells (xm_R MX12_doButter).slots (fun o h' => o = .inl (some (.int (iI 0))) ∧ DOk G h h' m a r (aBut B i T) ((butS (B.2.getD i dS) T).1.length : Int))
  refine r_aload_n dX12_doButter_0 0 rfl ?_
  refine r_iload_n dX12_doButter_1 1 rfl ?_
  refine i_const (3) dX12_doButter_2 ?_
  refine p_callV (As := [.int (iI ((i : Int))), .int (iI 3)]) (b := m) (rest := []) (w := (some (.int (iI (b2 s.2.2.2.2.2.2))))) (st' := [.int (iI (b2 s.2.2.2.2.2.2))]) kv_X12_doButter_124 dX12_doButter_3 rfl rfl (Nat.le_of_ble_eq_true rfl) (Nat.le_of_ble_eq_true rfl) (x_rv hM.1 hM.2 rfl) rfl rfl (c_X12_is hM hR (i := i) (w := 3) (by omega) (by decide) hw.2.2.2.1) rfl (fun h1 e1 => ?_)
  rw [show h1 = h from e1]
  refine i_ifneb dX12_doButter_6 (tgt := 35) (by decide) (fun c => by rw [hf.1] at c; cases c) (fun _ => ?_)
  refine r_aload_n dX12_doButter_9 0 rfl ?_
  refine r_iload_n dX12_doButter_10 1 rfl ?_
  refine i_bipush (6) (by decide) dX12_doButter_11 ?_
  refine p_callV (As := [.int (iI ((i : Int))), .int (iI 6)]) (b := m) (rest := []) (w := (some (.int (iI ((s.1.length : Int)))))) (st' := [.int (iI ((s.1.length : Int)))]) kv_X12_doButter_93 dX12_doButter_13 rfl rfl (Nat.le_of_ble_eq_true rfl) (Nat.le_of_ble_eq_true rfl) (x_rv hM.1 hM.2 rfl) rfl rfl (c_X12_of hM hR (i := i) (w := 6) (by omega) (by decide) hw.2.2.2.2.2.2.1) rfl (fun h2 e2 => ?_)
  rw [show h2 = h from e2]
  refine i_sipush (200) (by decide) dX12_doButter_16 ?_
  refine i_icmpeq dX12_doButter_19 (tgt := 35) (by decide) (by unfold in32; omega) ⟨by decide, by decide⟩ (fun c => absurd c (by omega)) (fun _ => ?_)
  refine r_aload_n dX12_doButter_22 0 rfl ?_
  refine r_iload_n dX12_doButter_23 1 rfl ?_
  refine p_callV (As := [.int (iI ((i : Int)))]) (b := m) (rest := []) (w := (some (.int (iI (hgt s.1))))) (st' := [.int (iI (hgt s.1))]) kv_X12_doButter_136 dX12_doButter_24 rfl rfl (Nat.le_of_ble_eq_true rfl) (Nat.le_of_ble_eq_true rfl) (x_rv hM.1 hM.2 rfl) rfl rfl (c_X12_heightOf hM hR (by omega) hw hh4) rfl (fun h3 e3 => ?_)
  rw [show h3 = h from e3]
  refine r_iload_n dX12_doButter_27 2 rfl ?_
  refine i_add dX12_doButter_28 ?_
  refine i_sipush (4000) (by decide) dX12_doButter_29 ?_
  refine i_icmple dX12_doButter_32 (tgt := 37) (by decide) (by unfold in32; omega) ⟨by decide, by decide⟩ (fun _ => ?_) (fun c => absurd c (by omega))
  refine r_aload_n dX12_doButter_37 0 rfl ?_
  refine i_const (0) dX12_doButter_38 ?_
  refine m_p_jz (v := 0) hM kf_X12_104 dX12_doButter_39 (fun h4 hM4 F4 => ?_)
  have hR4 := hR.obj hM F4
  have hF4 : FRp [m, r.1] h h4 := FRm F4
  refine r_aload_n dX12_doButter_42 0 rfl ?_
  refine r_iload_n dX12_doButter_43 1 rfl ?_
  refine r_iload_n dX12_doButter_44 2 rfl ?_
  refine i_neg dX12_doButter_45 ?_
  refine r_aload_n dX12_doButter_46 0 rfl ?_
  refine r_iload_n dX12_doButter_47 1 rfl ?_
  refine i_const (1) dX12_doButter_48 ?_
  refine p_callV (As := [.int (iI ((i : Int))), .int (iI 1)]) (b := m) (rest := [.int (iI (-T)), .int (iI ((i : Int))), .ref m]) (w := (some (.int (iI (b2 s.2.2.2.2.1))))) (st' := [.int (iI (b2 s.2.2.2.2.1)), .int (iI (-T)), .int (iI ((i : Int))), .ref m]) kv_X12_doButter_124 dX12_doButter_49 rfl rfl (Nat.le_of_ble_eq_true rfl) (Nat.le_of_ble_eq_true rfl) (x_rv hM4.1 hM4.2 rfl) rfl rfl (c_X12_is hM4 hR4 (i := i) (w := 1) (by omega) (by decide) hw.2.1) rfl (fun h5 e5 => ?_)
  rw [show h5 = h4 from e5]
  refine i_ifneb dX12_doButter_52 (tgt := 59) (by decide) (fun c52 => ?_) (fun c52 => ?_)
  · refine i_const (0) dX12_doButter_59 ?_
    have edu : (!s.2.2.2.2.1) = false := by rw [c52]; rfl
    refine p_callV (As := [.int (iI ((i : Int))), .int (iI (-T)), .int (iI 0)]) (b := m) (rest := []) (w := none) (st' := []) kv_X12_doButter_171 dX12_doButter_60 rfl rfl (Nat.le_of_ble_eq_true rfl) (Nat.le_of_ble_eq_true rfl) (x_rv hM4.1 hM4.2 rfl) rfl rfl (c_X12_putLayer_m hM4 hR4 (i := i) (by omega) hw hnz (in32_nz hh4) (x := -T) (by omega) (by unfold in32; omega) edu (Or.inl (by omega))) rfl (fun h6 e6 => ?_)
    obtain ⟨hM6, g6, hR6, hw6, E6, X6⟩ := e6
    have hF6 := hF4.tr (X6)
    have hwS_6 := hwS.oth E6 (by omega)
    refine r_aload_n dX12_doButter_63 0 rfl ?_
    refine r_iload_n dX12_doButter_64 1 rfl ?_
    refine i_const (5) dX12_doButter_65 ?_
    refine r_aload_n dX12_doButter_66 0 rfl ?_
    refine r_iload_n dX12_doButter_67 1 rfl ?_
    refine i_const (5) dX12_doButter_68 ?_
    refine p_callV (As := [.int (iI ((i : Int))), .int (iI 5)]) (b := m) (rest := [.int (iI 5), .int (iI ((i : Int))), .ref m]) (w := (some (.int (iI s.2.1)))) (st' := [.int (iI s.2.1), .int (iI 5), .int (iI ((i : Int))), .ref m]) kv_X12_doButter_93 dX12_doButter_69 rfl rfl (Nat.le_of_ble_eq_true rfl) (Nat.le_of_ble_eq_true rfl) (x_rv hM6.1 hM6.2 rfl) rfl rfl (c_X12_of hM6 hR6 (i := i) (w := 5) (by omega) (by decide) hw6.2.2.2.2.2.1) rfl (fun h7 e7 => ?_)
    rw [show h7 = h6 from e7]
    refine i_const (1) dX12_doButter_72 ?_
    refine i_add dX12_doButter_73 ?_
    refine r_aload_n dX12_doButter_74 0 rfl ?_
    refine m_g_jz (v := (0 + b2 (putN s.1 (-T) (!s.2.2.2.2.1)).2)) hM6 rfl kf_X12_104 dX12_doButter_75 ?_
    refine i_sub dX12_doButter_78 ?_
    refine p_callV (As := [.int (iI ((i : Int))), .int (iI 5), .int (iI ((s.2.1 + 1) - (0 + b2 (putN s.1 (-T) (!s.2.2.2.2.1)).2)))]) (b := m) (rest := []) (w := none) (st' := []) kv_X12_doButter_90 dX12_doButter_79 rfl rfl (Nat.le_of_ble_eq_true rfl) (Nat.le_of_ble_eq_true rfl) (x_rv hM6.1 hM6.2 rfl) rfl rfl (c_X12_lay_5 hM6 hR6 (i := i) (by omega) hw6 (v := (s.2.1 + 1) - (0 + b2 (putN s.1 (-T) (!s.2.2.2.2.1)).2))) rfl (fun h8 e8 => ?_)
    obtain ⟨g8, hR8, hw8, E8, F8⟩ := e8
    have hM8 := hM6.row hR6 F8
    have hF8 := hF6.tr (FRr F8)
    have hwS_8 := hwS_6.oth E8 (by omega)
    have Eq8 := E6.tr E8
    refine r_aload_n dX12_doButter_82 0 rfl ?_
    refine r_iload_n dX12_doButter_83 1 rfl ?_
    refine i_const (2) dX12_doButter_84 ?_
    refine i_const (0) dX12_doButter_85 ?_
    refine p_callV (As := [.int (iI ((i : Int))), .int (iI 2), .int (iI 0)]) (b := m) (rest := []) (w := none) (st' := []) kv_X12_doButter_90 dX12_doButter_86 rfl rfl (Nat.le_of_ble_eq_true rfl) (Nat.le_of_ble_eq_true rfl) (x_rv hM8.1 hM8.2 rfl) rfl rfl (c_X12_lay_2 hM8 hR8 (i := i) (by omega) hw8 (v := false)) rfl (fun h9 e9 => ?_)
    obtain ⟨g9, hR9, hw9, E9, F9⟩ := e9
    have hM9 := hM8.row hR8 F9
    have hF9 := hF8.tr (FRr F9)
    have hwS_9 := hwS_8.oth E9 (by omega)
    have Eq9 := Eq8.tr E9
    refine r_aload_n dX12_doButter_89 0 rfl ?_
    refine r_aload_n dX12_doButter_90 0 rfl ?_
    refine r_iload_n dX12_doButter_91 1 rfl ?_
    refine i_bipush (6) (by decide) dX12_doButter_92 ?_
    refine p_callV (As := [.int (iI ((i : Int))), .int (iI 6)]) (b := m) (rest := [.ref m]) (w := (some (.int (iI ((((putN s.1 (-T) (!s.2.2.2.2.1)).1).length : Int)))))) (st' := [.int (iI ((((putN s.1 (-T) (!s.2.2.2.2.1)).1).length : Int))), .ref m]) kv_X12_doButter_93 dX12_doButter_94 rfl rfl (Nat.le_of_ble_eq_true rfl) (Nat.le_of_ble_eq_true rfl) (x_rv hM9.1 hM9.2 rfl) rfl rfl (c_X12_of hM9 hR9 (i := i) (w := 6) (by omega) (by decide) hw9.2.2.2.2.2.2.1) rfl (fun h10 e10 => ?_)
    rw [show h10 = h9 from e10]
    refine m_p_re (v := (((putN s.1 (-T) (!s.2.2.2.2.1)).1).length : Int)) hM9 kf_X12_204 dX12_doButter_97 (fun h11 hM11 F11 => ?_)
    have hR11 := hR9.obj hM9 F11
    have hF11 := hF9.tr (FRm F11)
    refine i_const (0) dX12_doButter_100 ?_
    refine r_ireturn rfl rfl dX12_doButter_101 ?_
    have hRY := hRW.set (i := i) hi hw9 Eq9
    have eb : butS s T = (((putN s.1 (-T) (!s.2.2.2.2.1)).1), ((s.2.1 + 1) - (0 + b2 (putN s.1 (-T) (!s.2.2.2.2.1)).2)), s.2.2.1, s.2.2.2.1, s.2.2.2.2.1, false, s.2.2.2.2.2.2) := by
      unfold butS
      rw [show s.2.1 + 1 - (0 + b2 (putN s.1 (-T) (!s.2.2.2.2.1)).2) = s.2.1 + (if (putN s.1 (-T) (!s.2.2.2.2.1)).2 then 0 else 1) by unfold b2; split <;> omega]
    rw [← eb] at hRY
    subst hs
    exact ⟨rfl, _, _, hM11, ⟨⟨rfl, rfl, rfl, rfl, rfl, rfl, rfl, rfl⟩, rfl, rfl⟩, rfl, hR11, hRY, hF11⟩
  · refine i_const (1) dX12_doButter_55 ?_
    refine r_goto dX12_doButter_56 (tgt := 60) (by decide) ?_
    have edu : (!s.2.2.2.2.1) = true := by rw [c52]; rfl
    refine p_callV (As := [.int (iI ((i : Int))), .int (iI (-T)), .int (iI 1)]) (b := m) (rest := []) (w := none) (st' := []) kv_X12_doButter_171 dX12_doButter_60 rfl rfl (Nat.le_of_ble_eq_true rfl) (Nat.le_of_ble_eq_true rfl) (x_rv hM4.1 hM4.2 rfl) rfl rfl (c_X12_putLayer_m hM4 hR4 (i := i) (by omega) hw hnz (in32_nz hh4) (x := -T) (by omega) (by unfold in32; omega) edu (Or.inl (by omega))) rfl (fun h12 e12 => ?_)
    obtain ⟨hM12, g12, hR12, hw12, E12, X12⟩ := e12
    have hF12 := hF4.tr (X12)
    have hwS_12 := hwS.oth E12 (by omega)
    refine r_aload_n dX12_doButter_63 0 rfl ?_
    refine r_iload_n dX12_doButter_64 1 rfl ?_
    refine i_const (5) dX12_doButter_65 ?_
    refine r_aload_n dX12_doButter_66 0 rfl ?_
    refine r_iload_n dX12_doButter_67 1 rfl ?_
    refine i_const (5) dX12_doButter_68 ?_
    refine p_callV (As := [.int (iI ((i : Int))), .int (iI 5)]) (b := m) (rest := [.int (iI 5), .int (iI ((i : Int))), .ref m]) (w := (some (.int (iI s.2.1)))) (st' := [.int (iI s.2.1), .int (iI 5), .int (iI ((i : Int))), .ref m]) kv_X12_doButter_93 dX12_doButter_69 rfl rfl (Nat.le_of_ble_eq_true rfl) (Nat.le_of_ble_eq_true rfl) (x_rv hM12.1 hM12.2 rfl) rfl rfl (c_X12_of hM12 hR12 (i := i) (w := 5) (by omega) (by decide) hw12.2.2.2.2.2.1) rfl (fun h13 e13 => ?_)
    rw [show h13 = h12 from e13]
    refine i_const (1) dX12_doButter_72 ?_
    refine i_add dX12_doButter_73 ?_
    refine r_aload_n dX12_doButter_74 0 rfl ?_
    refine m_g_jz (v := (0 + b2 (putN s.1 (-T) (!s.2.2.2.2.1)).2)) hM12 rfl kf_X12_104 dX12_doButter_75 ?_
    refine i_sub dX12_doButter_78 ?_
    refine p_callV (As := [.int (iI ((i : Int))), .int (iI 5), .int (iI ((s.2.1 + 1) - (0 + b2 (putN s.1 (-T) (!s.2.2.2.2.1)).2)))]) (b := m) (rest := []) (w := none) (st' := []) kv_X12_doButter_90 dX12_doButter_79 rfl rfl (Nat.le_of_ble_eq_true rfl) (Nat.le_of_ble_eq_true rfl) (x_rv hM12.1 hM12.2 rfl) rfl rfl (c_X12_lay_5 hM12 hR12 (i := i) (by omega) hw12 (v := (s.2.1 + 1) - (0 + b2 (putN s.1 (-T) (!s.2.2.2.2.1)).2))) rfl (fun h14 e14 => ?_)
    obtain ⟨g14, hR14, hw14, E14, F14⟩ := e14
    have hM14 := hM12.row hR12 F14
    have hF14 := hF12.tr (FRr F14)
    have hwS_14 := hwS_12.oth E14 (by omega)
    have Eq14 := E12.tr E14
    refine r_aload_n dX12_doButter_82 0 rfl ?_
    refine r_iload_n dX12_doButter_83 1 rfl ?_
    refine i_const (2) dX12_doButter_84 ?_
    refine i_const (0) dX12_doButter_85 ?_
    refine p_callV (As := [.int (iI ((i : Int))), .int (iI 2), .int (iI 0)]) (b := m) (rest := []) (w := none) (st' := []) kv_X12_doButter_90 dX12_doButter_86 rfl rfl (Nat.le_of_ble_eq_true rfl) (Nat.le_of_ble_eq_true rfl) (x_rv hM14.1 hM14.2 rfl) rfl rfl (c_X12_lay_2 hM14 hR14 (i := i) (by omega) hw14 (v := false)) rfl (fun h15 e15 => ?_)
    obtain ⟨g15, hR15, hw15, E15, F15⟩ := e15
    have hM15 := hM14.row hR14 F15
    have hF15 := hF14.tr (FRr F15)
    have hwS_15 := hwS_14.oth E15 (by omega)
    have Eq15 := Eq14.tr E15
    refine r_aload_n dX12_doButter_89 0 rfl ?_
    refine r_aload_n dX12_doButter_90 0 rfl ?_
    refine r_iload_n dX12_doButter_91 1 rfl ?_
    refine i_bipush (6) (by decide) dX12_doButter_92 ?_
    refine p_callV (As := [.int (iI ((i : Int))), .int (iI 6)]) (b := m) (rest := [.ref m]) (w := (some (.int (iI ((((putN s.1 (-T) (!s.2.2.2.2.1)).1).length : Int)))))) (st' := [.int (iI ((((putN s.1 (-T) (!s.2.2.2.2.1)).1).length : Int))), .ref m]) kv_X12_doButter_93 dX12_doButter_94 rfl rfl (Nat.le_of_ble_eq_true rfl) (Nat.le_of_ble_eq_true rfl) (x_rv hM15.1 hM15.2 rfl) rfl rfl (c_X12_of hM15 hR15 (i := i) (w := 6) (by omega) (by decide) hw15.2.2.2.2.2.2.1) rfl (fun h16 e16 => ?_)
    rw [show h16 = h15 from e16]
    refine m_p_re (v := (((putN s.1 (-T) (!s.2.2.2.2.1)).1).length : Int)) hM15 kf_X12_204 dX12_doButter_97 (fun h17 hM17 F17 => ?_)
    have hR17 := hR15.obj hM15 F17
    have hF17 := hF15.tr (FRm F17)
    refine i_const (0) dX12_doButter_100 ?_
    refine r_ireturn rfl rfl dX12_doButter_101 ?_
    have hRY := hRW.set (i := i) hi hw15 Eq15
    have eb : butS s T = (((putN s.1 (-T) (!s.2.2.2.2.1)).1), ((s.2.1 + 1) - (0 + b2 (putN s.1 (-T) (!s.2.2.2.2.1)).2)), s.2.2.1, s.2.2.2.1, s.2.2.2.2.1, false, s.2.2.2.2.2.2) := by
      unfold butS
      rw [show s.2.1 + 1 - (0 + b2 (putN s.1 (-T) (!s.2.2.2.2.1)).2) = s.2.1 + (if (putN s.1 (-T) (!s.2.2.2.2.1)).2 then 0 else 1) by unfold b2; split <;> omega]
    rw [← eb] at hRY
    subst hs
    exact ⟨rfl, _, _, hM17, ⟨⟨rfl, rfl, rfl, rfl, rfl, rfl, rfl, rfl⟩, rfl, rfl⟩, rfl, hR17, hRY, hF17⟩
set_option maxRecDepth 20000 in
set_option maxHeartbeats 1000000 in
theorem c_X12_doRoll_n {G : xG} {h : xH} {m : Nat} {a : MA} {r : MR} (hM : MO G h m a r) {g : Nat → Int32} (hR : AR G h r.1 1456 g) {B : AB} (hRW : RWf g 0 B) (hWB : WB B) {i : Nat} (hi : i < B.2.length) {q : Int} (hq : 2 ≤ q ∧ q ≤ 4) (h0 : rRollS (B.2.getD i dS) B.1.2.1 q ≠ 0) : CC G MX12_doRoll [.ref m, .int (iI ((i : Int))), .int (iI q)] h (fun o h' => o = .inl (some (.int (iI 3))) ∧ DOn G h h' m a r B) := by
  have hn := hRW.1.2.1
  have hc := hRW.1.1.2.2.2.1
  have hw := hRW.1.s hi
  have hW := WS.get hWB.1 hi
  obtain ⟨s6, hwS⟩ := hRW.2
  have hwS : SWr g (7 + 207 * 6) s6 := hwS
  obtain ⟨hms, hro, hme, hfl, hho⟩ := id hWB
  obtain ⟨s, hs⟩ : ∃ s, s = B.2.getD i dS := ⟨_, rfl⟩
  rw [← hs] at hw hW
  obtain ⟨hl1, hnz, hh4, hw0, hw9⟩ := id hW
  have hl2 := hw.len
  have hg0 := hgt_nn s.1
  have hgl := hgt_ge s.1 hnz
  rw [← hs] at h0
  have hlb := loss_b (s := s) (m := B.1.2.1) ⟨hw0, hw9⟩ (by omega)
  have hra := (rollR_ok (l := s.1) hq hlb.1 s.1.length (Nat.le_refl _))
  rw [take_all] at hra
  have hrl := rollR_len q (loss s B.1.2.1) s.1 s.1.length
  show RR G MX12_doRoll 0 [(0, .ref m), (1, .int (iI ((i : Int)))), (2, .int (iI q))] [] h (xm_R MX12_doRoll).cells (xm_R MX12_doRoll).slots (fun o h' => o = .inl (some (.int (iI 3))) ∧ DOn G h h' m a r B)
  refine r_aload_n dX12_doRoll_0 0 rfl ?_
  refine r_iload_n dX12_doRoll_1 1 rfl ?_
  refine p_callV (As := [.int (iI ((i : Int)))]) (b := m) (rest := []) (w := (some (.int (iI (b2 true))))) (st' := [.int (iI (b2 true))]) kv_X12_doRoll_111 dX12_doRoll_2 rfl rfl (Nat.le_of_ble_eq_true rfl) (Nat.le_of_ble_eq_true rfl) (x_rv hM.1 hM.2 rfl) rfl rfl (c_X12_isSheet_t hM hR hn hc hi) rfl (fun h1 e1 => ?_)
  rw [show h1 = h from e1]
  refine i_ifneb dX12_doRoll_5 (tgt := 10) (by decide) (fun _ => ?_) (fun c => absurd c (by decide))
  refine r_aload_n dX12_doRoll_10 0 rfl ?_
  refine r_iload_n dX12_doRoll_11 1 rfl ?_
  refine r_iload_n dX12_doRoll_12 2 rfl ?_
  refine p_callV (As := [.int (iI ((i : Int))), .int (iI q)]) (b := m) (rest := []) (w := none) (st' := []) kv_X12_doRoll_191 dX12_doRoll_13 rfl rfl (Nat.le_of_ble_eq_true rfl) (Nat.le_of_ble_eq_true rfl) (x_rv hM.1 hM.2 rfl) rfl rfl (c_X12_rollOut hM hR (by omega) hw hW hwS hRW.1.1.2.1 (by omega) rfl hlb hq) rfl (fun h2 e2 => ?_)
  obtain ⟨hM2, g2, hR2, hw2, E2, X2⟩ := e2
  have hF2 : FRp [m, r.1] h h2 := X2
  have hw_2 := hw.oth E2 (by omega)
  have hRW2 := hRW.scr E2 hw2
  refine r_aload_n dX12_doRoll_16 0 rfl ?_
  refine r_iload_n dX12_doRoll_17 1 rfl ?_
  refine i_const (3) dX12_doRoll_18 ?_
  refine p_callV (As := [.int (iI ((i : Int))), .int (iI 3)]) (b := m) (rest := []) (w := (some (.int (iI (b2 s.2.2.2.2.2.2))))) (st' := [.int (iI (b2 s.2.2.2.2.2.2))]) kv_X12_doRoll_124 dX12_doRoll_19 rfl rfl (Nat.le_of_ble_eq_true rfl) (Nat.le_of_ble_eq_true rfl) (x_rv hM2.1 hM2.2 rfl) rfl rfl (c_X12_is hM2 hR2 (i := i) (w := 3) (by omega) (by decide) hw_2.2.2.2.1) rfl (fun h3 e3 => ?_)
  rw [show h3 = h2 from e3]
  refine i_ifneb dX12_doRoll_22 (tgt := 36) (by decide) (fun c22 => ?_) (fun c22 => ?_)
  · refine i_const (3) dX12_doRoll_36 ?_
    refine r_ireturn rfl rfl dX12_doRoll_37 ?_
    exact ⟨rfl, _, _, hM2, ⟨⟨rfl, rfl, rfl, rfl, rfl, rfl, rfl, rfl⟩, rfl, rfl⟩, hR2, hRW2, hF2⟩
  · refine r_aload_n dX12_doRoll_25 0 rfl ?_
    refine i_bipush (6) (by decide) dX12_doRoll_26 ?_
    refine i_bipush (6) (by decide) dX12_doRoll_28 ?_
    refine p_callV (As := [.int (iI 6), .int (iI 6)]) (b := m) (rest := []) (w := (some (.int (iI ((((rollR q (loss s B.1.2.1) s.1 s.1.length).1).length : Int)))))) (st' := [.int (iI ((((rollR q (loss s B.1.2.1) s.1 s.1.length).1).length : Int)))]) kv_X12_doRoll_93 dX12_doRoll_30 rfl rfl (Nat.le_of_ble_eq_true rfl) (Nat.le_of_ble_eq_true rfl) (x_rv hM2.1 hM2.2 rfl) rfl rfl (c_X12_of hM2 hR2 (i := 6) (w := 6) (by omega) (by decide) hw2.2.2.2.2.2.2.1) rfl (fun h4 e4 => ?_)
    rw [show h4 = h2 from e4]
    refine i_ifne dX12_doRoll_33 (tgt := 38) (by decide) (by unfold in32; omega) (fun c33 => ?_) (fun c33 => ?_)
    · exfalso
      rcases rRSn h0 with z | z
      · rw [z] at c22; cases c22
      · rw [z] at hra
        have z2 := hgt_0 hra.1 hra.2
        omega
    · refine i_const (3) dX12_doRoll_36 ?_
      refine r_ireturn rfl rfl dX12_doRoll_37 ?_
      exact ⟨rfl, _, _, hM2, ⟨⟨rfl, rfl, rfl, rfl, rfl, rfl, rfl, rfl⟩, rfl, rfl⟩, hR2, hRW2, hF2⟩
set_option maxRecDepth 20000 in
set_option maxHeartbeats 1000000 in
theorem c_X12_doRoll_ok {G : xG} {h : xH} {m : Nat} {a : MA} {r : MR} (hM : MO G h m a r) {g : Nat → Int32} (hR : AR G h r.1 1456 g) {B : AB} (hRW : RWf g 0 B) (hWB : WB B) {i : Nat} (hi : i < B.2.length) {q : Int} (hq : 2 ≤ q ∧ q ≤ 4) (h0 : rRollS (B.2.getD i dS) B.1.2.1 q = 0) : CC G MX12_doRoll [.ref m, .int (iI ((i : Int))), .int (iI q)] h (fun o h' => o = .inl (some (.int (iI 0))) ∧ DOk G h h' m a r (aRoll B i q) ((rollS (B.2.getD i dS) q B.1.2.1).1.length : Int)) := by
  have hn := hRW.1.2.1
  have hc := hRW.1.1.2.2.2.1
  have hw := hRW.1.s hi
  have hW := WS.get hWB.1 hi
  obtain ⟨s6, hwS⟩ := hRW.2
  have hwS : SWr g (7 + 207 * 6) s6 := hwS
  obtain ⟨hms, hro, hme, hfl, hho⟩ := id hWB
  obtain ⟨s, hs⟩ : ∃ s, s = B.2.getD i dS := ⟨_, rfl⟩
  rw [← hs] at hw hW
  obtain ⟨hl1, hnz, hh4, hw0, hw9⟩ := id hW
  have hl2 := hw.len
  have hg0 := hgt_nn s.1
  have hgl := hgt_ge s.1 hnz
  rw [← hs] at h0
  have hf := rRS2 h0
  have hz := rRS0 h0
  have hlb := loss_b (s := s) (m := B.1.2.1) ⟨hw0, hw9⟩ (by omega)
  have hra := (rollR_ok (l := s.1) hq hlb.1 s.1.length (Nat.le_refl _))
  rw [take_all] at hra
  have hrl := rollR_len q (loss s B.1.2.1) s.1 s.1.length
  have hpos : 1 ≤ (rollR q (loss s B.1.2.1) s.1 s.1.length).1.length := nz_len (by have := sumF_rt hq hlb.1 s.1; omega)
  show RR G MX12_doRoll 0 [(0, .ref m), (1, .int (iI ((i : Int)))), (2, .int (iI q))] [] h (xm_R MX12_doRoll).cells (xm_R MX12_doRoll).slots (fun o h' => o = .inl (some (.int (iI 0))) ∧ DOk G h h' m a r (aRoll B i q) ((rollS (B.2.getD i dS) q B.1.2.1).1.length : Int))
  refine r_aload_n dX12_doRoll_0 0 rfl ?_
  refine r_iload_n dX12_doRoll_1 1 rfl ?_
  refine p_callV (As := [.int (iI ((i : Int)))]) (b := m) (rest := []) (w := (some (.int (iI (b2 true))))) (st' := [.int (iI (b2 true))]) kv_X12_doRoll_111 dX12_doRoll_2 rfl rfl (Nat.le_of_ble_eq_true rfl) (Nat.le_of_ble_eq_true rfl) (x_rv hM.1 hM.2 rfl) rfl rfl (c_X12_isSheet_t hM hR hn hc hi) rfl (fun h1 e1 => ?_)
  rw [show h1 = h from e1]
  refine i_ifneb dX12_doRoll_5 (tgt := 10) (by decide) (fun _ => ?_) (fun c => absurd c (by decide))
  refine r_aload_n dX12_doRoll_10 0 rfl ?_
  refine r_iload_n dX12_doRoll_11 1 rfl ?_
  refine r_iload_n dX12_doRoll_12 2 rfl ?_
  refine p_callV (As := [.int (iI ((i : Int))), .int (iI q)]) (b := m) (rest := []) (w := none) (st' := []) kv_X12_doRoll_191 dX12_doRoll_13 rfl rfl (Nat.le_of_ble_eq_true rfl) (Nat.le_of_ble_eq_true rfl) (x_rv hM.1 hM.2 rfl) rfl rfl (c_X12_rollOut hM hR (by omega) hw hW hwS hRW.1.1.2.1 (by omega) rfl hlb hq) rfl (fun h2 e2 => ?_)
  obtain ⟨hM2, g2, hR2, hw2, E2, X2⟩ := e2
  have hF2 : FRp [m, r.1] h h2 := X2
  have hw_2 := hw.oth E2 (by omega)
  have hRW2 := hRW.scr E2 hw2
  refine r_aload_n dX12_doRoll_16 0 rfl ?_
  refine r_iload_n dX12_doRoll_17 1 rfl ?_
  refine i_const (3) dX12_doRoll_18 ?_
  refine p_callV (As := [.int (iI ((i : Int))), .int (iI 3)]) (b := m) (rest := []) (w := (some (.int (iI (b2 s.2.2.2.2.2.2))))) (st' := [.int (iI (b2 s.2.2.2.2.2.2))]) kv_X12_doRoll_124 dX12_doRoll_19 rfl rfl (Nat.le_of_ble_eq_true rfl) (Nat.le_of_ble_eq_true rfl) (x_rv hM2.1 hM2.2 rfl) rfl rfl (c_X12_is hM2 hR2 (i := i) (w := 3) (by omega) (by decide) hw_2.2.2.2.1) rfl (fun h3 e3 => ?_)
  rw [show h3 = h2 from e3]
  refine i_ifneb dX12_doRoll_22 (tgt := 36) (by decide) (fun c => by rw [hf] at c; cases c) (fun _ => ?_)
  refine r_aload_n dX12_doRoll_25 0 rfl ?_
  refine i_bipush (6) (by decide) dX12_doRoll_26 ?_
  refine i_bipush (6) (by decide) dX12_doRoll_28 ?_
  refine p_callV (As := [.int (iI 6), .int (iI 6)]) (b := m) (rest := []) (w := (some (.int (iI ((((rollR q (loss s B.1.2.1) s.1 s.1.length).1).length : Int)))))) (st' := [.int (iI ((((rollR q (loss s B.1.2.1) s.1 s.1.length).1).length : Int)))]) kv_X12_doRoll_93 dX12_doRoll_30 rfl rfl (Nat.le_of_ble_eq_true rfl) (Nat.le_of_ble_eq_true rfl) (x_rv hM2.1 hM2.2 rfl) rfl rfl (c_X12_of hM2 hR2 (i := 6) (w := 6) (by omega) (by decide) hw2.2.2.2.2.2.2.1) rfl (fun h4 e4 => ?_)
  rw [show h4 = h2 from e4]
  refine i_ifne dX12_doRoll_33 (tgt := 38) (by decide) (by unfold in32; omega) (fun _ => ?_) (fun c => absurd c (by omega))
  refine r_aload_n dX12_doRoll_38 0 rfl ?_
  refine m_g_rr (v := r.1) hM2 rfl kf_X12_25 dX12_doRoll_39 ?_
  refine i_const (5) dX12_doRoll_42 ?_
  refine r_dup2 dX12_doRoll_43 rfl rfl ?_
  refine m_ld (v := iI B.1.2.2.2.2.1) 5 rfl hRW2.1.1.2.2.2.2.2.1 hR2 dX12_doRoll_44 (by omega) (by decide) ?_
  refine r_aload_n dX12_doRoll_45 0 rfl ?_
  refine m_g_lz (v := (sumF (escF (loss s B.1.2.1)) (s.1.take s.1.length))) hM2 rfl kf_X12_185 dX12_doRoll_46 ?_
  refine i_add dX12_doRoll_49 ?_
  refine m_st 5 rfl hR2 dX12_doRoll_50 (by omega) (by decide) (fun h5 hR5 F5 => ?_)
  have hM5 := hM2.row hR2 F5
  have hF5 := hF2.tr (FRr F5)
  obtain ⟨g5, hg5⟩ : ∃ y, y = (upd g2 5 (iI (B.1.2.2.2.2.1 + (sumF (escF (loss s B.1.2.1)) (s.1.take s.1.length))))) := ⟨_, rfl⟩
  rw [← hg5] at hR5
  have hn5 : ∀ j, j ≠ 5 → g5 j = g2 j := fun j hj => by rw [hg5]; exact upd_n hj
  have hk5 : g5 5 = iI (B.1.2.2.2.2.1 + (sumF (escF (loss s B.1.2.1)) (s.1.take s.1.length))) := by rw [hg5]; exact upd_s
  have hw_5 := hw_2.eq (fun j q1 q2 => hn5 j (by omega))
  have hw2_5 := hw2.eq (fun j q1 q2 => hn5 j (by omega))
  have hRW5 : RWf g5 0 ((B.1.1, B.1.2.1, B.1.2.2.1, B.1.2.2.2.1, (B.1.2.2.2.2.1 + (sumF (escF (loss s B.1.2.1)) (s.1.take s.1.length))), B.1.2.2.2.2.2), B.2) := hRW2.hd (fun j hj => hn5 j (by omega)) ((hn5 0 (by omega)).trans hRW2.1.1.1) ((hn5 1 (by omega)).trans hRW2.1.1.2.1) ((hn5 2 (by omega)).trans hRW2.1.1.2.2.1) (hn5 3 (by omega)) ((hn5 4 (by omega)).trans hRW2.1.1.2.2.2.2.1) hk5 ((hn5 6 (by omega)).trans hRW2.1.1.2.2.2.2.2.2)
  refine r_aload_n dX12_doRoll_51 0 rfl ?_
  refine m_g_rr (v := r.1) hM5 rfl kf_X12_25 dX12_doRoll_52 ?_
  refine i_bipush (6) (by decide) dX12_doRoll_55 ?_
  refine r_dup2 dX12_doRoll_57 rfl rfl ?_
  refine m_ld (v := iI B.1.2.2.2.2.2) 6 rfl hRW5.1.1.2.2.2.2.2.2 hR5 dX12_doRoll_58 (by omega) (by decide) ?_
  refine r_aload_n dX12_doRoll_59 0 rfl ?_
  refine m_g_bz (v := ((rollR q (loss s B.1.2.1) s.1 s.1.length).2.1)) hM5 rfl kf_X12_188 dX12_doRoll_60 ?_
  refine i_add dX12_doRoll_63 ?_
  refine m_st 6 rfl hR5 dX12_doRoll_64 (by omega) (by decide) (fun h6 hR6 F6 => ?_)
  have hM6 := hM5.row hR5 F6
  have hF6 := hF5.tr (FRr F6)
  obtain ⟨g6, hg6⟩ : ∃ y, y = (upd g5 6 (iI (B.1.2.2.2.2.2 + ((rollR q (loss s B.1.2.1) s.1 s.1.length).2.1)))) := ⟨_, rfl⟩
  rw [← hg6] at hR6
  have hn6 : ∀ j, j ≠ 6 → g6 j = g5 j := fun j hj => by rw [hg6]; exact upd_n hj
  have hk6 : g6 6 = iI (B.1.2.2.2.2.2 + ((rollR q (loss s B.1.2.1) s.1 s.1.length).2.1)) := by rw [hg6]; exact upd_s
  have hw_6 := hw_5.eq (fun j q1 q2 => hn6 j (by omega))
  have hw2_6 := hw2_5.eq (fun j q1 q2 => hn6 j (by omega))
  have hRW6 : RWf g6 0 ((B.1.1, B.1.2.1, B.1.2.2.1, B.1.2.2.2.1, (B.1.2.2.2.2.1 + (sumF (escF (loss s B.1.2.1)) (s.1.take s.1.length))), (B.1.2.2.2.2.2 + ((rollR q (loss s B.1.2.1) s.1 s.1.length).2.1))), B.2) := hRW5.hd (fun j hj => hn6 j (by omega)) ((hn6 0 (by omega)).trans hRW5.1.1.1) ((hn6 1 (by omega)).trans hRW5.1.1.2.1) ((hn6 2 (by omega)).trans hRW5.1.1.2.2.1) (hn6 3 (by omega)) ((hn6 4 (by omega)).trans hRW5.1.1.2.2.2.2.1) ((hn6 5 (by omega)).trans hRW5.1.1.2.2.2.2.2.1) hk6
  refine r_aload_n dX12_doRoll_65 0 rfl ?_
  refine r_iload_n dX12_doRoll_66 1 rfl ?_
  refine i_const (5) dX12_doRoll_67 ?_
  refine r_aload_n dX12_doRoll_68 0 rfl ?_
  refine r_iload_n dX12_doRoll_69 1 rfl ?_
  refine i_const (5) dX12_doRoll_70 ?_
  refine p_callV (As := [.int (iI ((i : Int))), .int (iI 5)]) (b := m) (rest := [.int (iI 5), .int (iI ((i : Int))), .ref m]) (w := (some (.int (iI s.2.1)))) (st' := [.int (iI s.2.1), .int (iI 5), .int (iI ((i : Int))), .ref m]) kv_X12_doRoll_93 dX12_doRoll_71 rfl rfl (Nat.le_of_ble_eq_true rfl) (Nat.le_of_ble_eq_true rfl) (x_rv hM6.1 hM6.2 rfl) rfl rfl (c_X12_of hM6 hR6 (i := i) (w := 5) (by omega) (by decide) hw_6.2.2.2.2.2.1) rfl (fun h7 e7 => ?_)
  rw [show h7 = h6 from e7]
  refine r_aload_n dX12_doRoll_74 0 rfl ?_
  refine m_g_bz (v := ((rollR q (loss s B.1.2.1) s.1 s.1.length).2.1)) hM6 rfl kf_X12_188 dX12_doRoll_75 ?_
  refine i_sub dX12_doRoll_78 ?_
  refine r_aload_n dX12_doRoll_79 0 rfl ?_
  refine m_g_jz (v := ((rollR q (loss s B.1.2.1) s.1 s.1.length).2.2.1)) hM6 rfl kf_X12_104 dX12_doRoll_80 ?_
  refine i_sub dX12_doRoll_83 ?_
  refine p_callV (As := [.int (iI ((i : Int))), .int (iI 5), .int (iI ((s.2.1 - ((rollR q (loss s B.1.2.1) s.1 s.1.length).2.1)) - ((rollR q (loss s B.1.2.1) s.1 s.1.length).2.2.1)))]) (b := m) (rest := []) (w := none) (st' := []) kv_X12_doRoll_90 dX12_doRoll_84 rfl rfl (Nat.le_of_ble_eq_true rfl) (Nat.le_of_ble_eq_true rfl) (x_rv hM6.1 hM6.2 rfl) rfl rfl (c_X12_lay_5 hM6 hR6 (i := i) (by omega) hw_6 (v := (s.2.1 - ((rollR q (loss s B.1.2.1) s.1 s.1.length).2.1)) - ((rollR q (loss s B.1.2.1) s.1 s.1.length).2.2.1))) rfl (fun h8 e8 => ?_)
  obtain ⟨g8, hR8, hw8, E8, F8⟩ := e8
  have hM8 := hM6.row hR6 F8
  have hF8 := hF6.tr (FRr F8)
  have hw2_8 := hw2_6.oth E8 (by omega)
  refine r_aload_n dX12_doRoll_87 0 rfl ?_
  refine r_iload_n dX12_doRoll_88 1 rfl ?_
  refine i_bipush (6) (by decide) dX12_doRoll_89 ?_
  refine r_aload_n dX12_doRoll_91 0 rfl ?_
  refine i_bipush (6) (by decide) dX12_doRoll_92 ?_
  refine i_bipush (6) (by decide) dX12_doRoll_94 ?_
  refine p_callV (As := [.int (iI 6), .int (iI 6)]) (b := m) (rest := [.int (iI 6), .int (iI ((i : Int))), .ref m]) (w := (some (.int (iI ((((rollR q (loss s B.1.2.1) s.1 s.1.length).1).length : Int)))))) (st' := [.int (iI ((((rollR q (loss s B.1.2.1) s.1 s.1.length).1).length : Int))), .int (iI 6), .int (iI ((i : Int))), .ref m]) kv_X12_doRoll_93 dX12_doRoll_96 rfl rfl (Nat.le_of_ble_eq_true rfl) (Nat.le_of_ble_eq_true rfl) (x_rv hM8.1 hM8.2 rfl) rfl rfl (c_X12_of hM8 hR8 (i := 6) (w := 6) (by omega) (by decide) hw2_8.2.2.2.2.2.2.1) rfl (fun h9 e9 => ?_)
  rw [show h9 = h8 from e9]
  refine p_callV (As := [.int (iI ((i : Int))), .int (iI 6), .int (iI ((((rollR q (loss s B.1.2.1) s.1 s.1.length).1).length : Int)))]) (b := m) (rest := []) (w := none) (st' := []) kv_X12_doRoll_90 dX12_doRoll_99 rfl rfl (Nat.le_of_ble_eq_true rfl) (Nat.le_of_ble_eq_true rfl) (x_rv hM8.1 hM8.2 rfl) rfl rfl (c_X12_lay hM8 hR8 (i := i) (w := 6) (by omega) (by decide)) rfl (fun h10 e10 => ?_)
  obtain ⟨hR10, F10⟩ := e10
  have hM10 := hM8.row hR8 F10
  have hF10 := hF8.tr (FRr F10)
  refine r_aload_n dX12_doRoll_102 0 rfl ?_
  refine m_g_rr (v := r.1) hM10 rfl kf_X12_25 dX12_doRoll_103 ?_
  refine i_bipush (6) (by decide) dX12_doRoll_106 ?_
  refine p_callS (As := [.int (iI 6)]) (rest := [.ref r.1]) (w := (some (.int (iI (7 + 207 * 6))))) (st' := [.int (iI (7 + 207 * 6)), .ref r.1]) kv_X12_doRoll_86 dX12_doRoll_108 rfl rfl (Nat.le_of_ble_eq_true rfl) (Nat.le_of_ble_eq_true rfl) rfl rfl (c_X12_at) rfl (fun h11 e11 => ?_)
  rw [show h11 = h10 from e11]
  refine i_bipush (7) (by decide) dX12_doRoll_111 ?_
  refine i_add dX12_doRoll_113 ?_
  refine r_aload_n dX12_doRoll_114 0 rfl ?_
  refine m_g_rr (v := r.1) hM10 rfl kf_X12_25 dX12_doRoll_115 ?_
  refine r_iload_n dX12_doRoll_118 1 rfl ?_
  refine p_callS (As := [.int (iI ((i : Int)))]) (rest := [.ref r.1, .int (iI ((7 + 207 * 6) + 7)), .ref r.1]) (w := (some (.int (iI (7 + 207 * (i : Int)))))) (st' := [.int (iI (7 + 207 * (i : Int))), .ref r.1, .int (iI ((7 + 207 * 6) + 7)), .ref r.1]) kv_X12_doRoll_86 dX12_doRoll_119 rfl rfl (Nat.le_of_ble_eq_true rfl) (Nat.le_of_ble_eq_true rfl) rfl rfl (c_X12_at) rfl (fun h12 e12 => ?_)
  rw [show h12 = h10 from e12]
  refine i_bipush (7) (by decide) dX12_doRoll_122 ?_
  refine i_add dX12_doRoll_124 ?_
  refine i_sipush (200) (by decide) dX12_doRoll_125 ?_
  refine m_cp (7 + 207 * 6 + 7) (7 + 207 * i + 7) 200 (by omega) (by omega) rfl (kv_X12_doRoll_115 0 (by decide)) rfl dX12_doRoll_128 hR10 hR10 (by omega) (by omega) (by decide) (by decide) (fun h13 hR13 F13 => ?_)
  have hM13 := hM10.row hR10 F13
  have hF13 := hF10.tr (FRr F13)
  obtain ⟨gC, hgC⟩ : ∃ y, y = (va_cpy (upd g8 (7 + 207 * i + 6) (iI ((rollR q (loss s B.1.2.1) s.1 s.1.length).1.length : Int))) (upd g8 (7 + 207 * i + 6) (iI ((rollR q (loss s B.1.2.1) s.1 s.1.length).1.length : Int))) (7 + 207 * 6 + 7) (7 + 207 * i + 7) 200) := ⟨_, rfl⟩
  rw [← hgC] at hR13
  have hwC : SWr gC (7 + 207 * i) ((rollR q (loss s B.1.2.1) s.1 s.1.length).1, ((s.2.1 - ((rollR q (loss s B.1.2.1) s.1 s.1.length).2.1)) - ((rollR q (loss s B.1.2.1) s.1 s.1.length).2.2.1)), s.2.2.1, s.2.2.2.1, s.2.2.2.2.1, s.2.2.2.2.2.1, s.2.2.2.2.2.2) := by rw [hgC]; exact hw8.cpy (by omega) hw2_8
  have EC : EQo i g8 gC := by rw [hgC]; exact EQo.cpy (by omega)
  have EqC := E8.tr EC
  refine r_aload_n dX12_doRoll_131 0 rfl ?_
  refine r_iload_n dX12_doRoll_132 1 rfl ?_
  refine i_const (2) dX12_doRoll_133 ?_
  refine i_const (0) dX12_doRoll_134 ?_
  refine p_callV (As := [.int (iI ((i : Int))), .int (iI 2), .int (iI 0)]) (b := m) (rest := []) (w := none) (st' := []) kv_X12_doRoll_90 dX12_doRoll_135 rfl rfl (Nat.le_of_ble_eq_true rfl) (Nat.le_of_ble_eq_true rfl) (x_rv hM13.1 hM13.2 rfl) rfl rfl (c_X12_lay_2 hM13 hR13 (i := i) (by omega) hwC (v := false)) rfl (fun h14 e14 => ?_)
  obtain ⟨g14, hR14, hw14, E14, F14⟩ := e14
  have hM14 := hM13.row hR13 F14
  have hF14 := hF13.tr (FRr F14)
  have Eq14 := EqC.tr E14
  refine r_aload_n dX12_doRoll_138 0 rfl ?_
  refine r_iload_n dX12_doRoll_139 1 rfl ?_
  refine p_callV (As := [.int (iI ((i : Int)))]) (b := m) (rest := []) (w := none) (st' := []) kv_X12_doRoll_175 dX12_doRoll_140 rfl rfl (Nat.le_of_ble_eq_true rfl) (Nat.le_of_ble_eq_true rfl) (x_rv hM14.1 hM14.2 rfl) rfl rfl (c_X12_warm hM14 hR14 (i := i) (by omega) hw14 (by show 0 ≤ s.2.2.1 ∧ s.2.2.1 ≤ 40; omega)) rfl (fun h15 e15 => ?_)
  obtain ⟨g15, hR15, hw15, E15, F15⟩ := e15
  have hM15 := hM14.row hR14 F15
  have hF15 := hF14.tr (FRr F15)
  have Eq15 := Eq14.tr E15
  refine r_aload_n dX12_doRoll_143 0 rfl ?_
  refine r_aload_n dX12_doRoll_144 0 rfl ?_
  refine r_iload_n dX12_doRoll_145 1 rfl ?_
  refine i_bipush (6) (by decide) dX12_doRoll_146 ?_
  refine p_callV (As := [.int (iI ((i : Int))), .int (iI 6)]) (b := m) (rest := [.ref m]) (w := (some (.int (iI ((((rollR q (loss s B.1.2.1) s.1 s.1.length).1).length : Int)))))) (st' := [.int (iI ((((rollR q (loss s B.1.2.1) s.1 s.1.length).1).length : Int))), .ref m]) kv_X12_doRoll_93 dX12_doRoll_148 rfl rfl (Nat.le_of_ble_eq_true rfl) (Nat.le_of_ble_eq_true rfl) (x_rv hM15.1 hM15.2 rfl) rfl rfl (c_X12_of hM15 hR15 (i := i) (w := 6) (by omega) (by decide) hw15.2.2.2.2.2.2.1) rfl (fun h16 e16 => ?_)
  rw [show h16 = h15 from e16]
  refine m_p_re (v := (((rollR q (loss s B.1.2.1) s.1 s.1.length).1).length : Int)) hM15 kf_X12_204 dX12_doRoll_151 (fun h17 hM17 F17 => ?_)
  have hR17 := hR15.obj hM15 F17
  have hF17 := hF15.tr (FRm F17)
  refine i_const (0) dX12_doRoll_154 ?_
  refine r_ireturn rfl rfl dX12_doRoll_155 ?_
  have hRY := hRW6.set (i := i) hi hw15 Eq15
  have eb : rollS s q B.1.2.1 = (((rollR q (loss s B.1.2.1) s.1 s.1.length).1), ((s.2.1 - ((rollR q (loss s B.1.2.1) s.1 s.1.length).2.1)) - ((rollR q (loss s B.1.2.1) s.1 s.1.length).2.2.1)), (warmed s.2.2.1), s.2.2.2.1, s.2.2.2.2.1, false, s.2.2.2.2.2.2) := by
    unfold rollS
    rw [Int.sub_sub]
  rw [← eb, take_all] at hRY
  subst hs
  exact ⟨rfl, _, _, hM17, ⟨⟨rfl, rfl, rfl, rfl, rfl, rfl, rfl, rfl⟩, rfl, rfl⟩, rfl, hR17, hRY, hF17⟩
