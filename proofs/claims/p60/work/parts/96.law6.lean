set_option maxRecDepth 20000 in
set_option maxHeartbeats 4000000 in
theorem act_fridge {G : xG} {h : xH} {K : xK} {sa : Nat → Nat} (hGC : GC G K sa) (hGT : GT G sa) (hGE : GE G) {x : Nat} {ad : XA} {S : XS} (hX : XB G h K x ad S) (hI : IV S) (hE : EB S.2.2.1) (hH : S.2.2.1.1.2.2.2.1 ≤ 9900) {v : Int32} {k p : Int} (hk : k = aK S.2.2.1 v) (hp : p = aP v) (d : 11 < mst v 24 ∧ mst v 24 < 14) : RR G ML_act 554 [(0, .ref x), (1, .int v), (2, .int (iI (mst v 24))), (3, .int (aU v)), (4, .int (iI ((S.2.2.1.2.length : Int)))), (5, .int (iI k)), (6, .int (iI (((sAt S.2.2.1 k).1.length : Int)))), (7, .int (iI (b2 (sAt S.2.2.1 k).2.2.2.2.2.2))), (8, .int (iI p))] [] h (xm_R ML_act).cells (xm_R ML_act).slots (fun o' h' => o' = .inl (some (.int (iI 1))) ∧ XB G h' K x ad (updS S (actR S.2.2.1 v)) ∧ FRp (fpX x ad) h h') := by
  have hW := hI.1
  have hWB := hW.1
  have hC3 := hI.2.1
  have hlen := hX.len
  have hl6 := hlen.1
  have hn1 := hE.2
  have hm := hWB.2.2.1
  have hfl := hWB.2.2.2.1
  have hro := hWB.2.1
  have hho := hWB.2.2.2.2
  obtain ⟨hk0, hk1, hsk⟩ := aK_b hE v
  rw [← hk] at hk0 hk1 hsk
  have hp4 := aP_b v
  rw [← hp] at hp4
  have hzk : in32 k := by unfold in32; omega
  have hlk : (sAt S.2.2.1 k).1.length ≤ 200 := hlen.2 _ (getD_memS (hasS_n hsk).1)
  have hS := hWB.at hsk
  have hS1 := hS.1
  have hS3 := hS.2.2.1
  have hS4 := hS.2.2.2
  have hg1 := hgt_ge (sAt S.2.2.1 k).1 hS.2.1
  have hmw := mst_b v (m := 24) (by decide)
  have hlo := loss_b (m := S.2.2.1.1.2.1) hS4 (by omega)
  have hA := actR_4 hk d
  have hcc := cnt_b isC S.2.2.1.2
  have L592 : RR G ML_act 592 [(0, .ref x), (1, .int v), (2, .int (iI (mst v 24))), (3, .int (aU v)), (4, .int (iI ((S.2.2.1.2.length : Int)))), (5, .int (iI k)), (6, .int (iI (((sAt S.2.2.1 k).1.length : Int)))), (7, .int (iI (b2 (sAt S.2.2.1 k).2.2.2.2.2.2))), (8, .int (iI p)), (9, .int (iI (cnt isC S.2.2.1.2))), (10, .int (iI ((S.2.2.1.2.length : Int))))] [] h (xm_R ML_act).cells (xm_R ML_act).slots (fun o' h' => o' = .inl (some (.int (iI 1))) ∧ XB G h' K x ad (updS S (actR S.2.2.1 v)) ∧ FRp (fpX x ad) h h') := by
    refine r_iload dL_act_592 7 rfl ?_
    refine i_ifeqb dL_act_594 (tgt := 629) (by decide) (fun c594 => ?_) (fun c594 => ?_)
    · refine r_iload dL_act_629 9 rfl ?_
      refine i_const (3) dL_act_631 ?_
      refine i_icmpeq dL_act_632 (tgt := 659) (by decide) (by unfold in32; omega) ⟨by decide, by decide⟩ (fun c632 => ?_) (fun c632 => ?_)
      · refine i_const (1) dL_act_659 ?_
        refine r_goto dL_act_660 (tgt := 664) (by decide) ?_
        refine r_ireturn rfl (b2_nar true) dL_act_664 ?_
        exact ⟨rfl, by rw [hA, c594, if_neg (by simp), if_pos c632]; exact hX, FRp.rf⟩
      · refine r_aload_n dL_act_635 0 rfl ?_
        refine r_iload dL_act_636 5 rfl ?_
        have hr := R_cool hsk c594 (by omega)
        have hL := L_cool hsk c594
        have hI9 := hI.chg (inp := S.1) (e := S.2.1) hI.1.2.2.2 (hWB.cmd hr) (CB_cmd hr hC3)
        obtain ⟨B1, hB1⟩ : ∃ B1, B1 = aCmd 4 S.2.2.1 k 0 := ⟨_, rfl⟩
        rw [← hB1] at hL hI9
        have hW1 : WX (S.1, S.2.1, B1, S.2.2.2.1, remH S.2.2.2.2.1 S.2.2.1, S.2.2.2.2.2) := hI9.1
        obtain ⟨hs1, l2, l3⟩ := hL
        refine p_callV (As := [.int (iI k)]) (b := x) (rest := []) (w := (some (.int (iI (vCmd 4 S.2.2.1 k 0))))) (st' := [.int (iI (vCmd 4 S.2.2.1 k 0))]) kv_L_act_155 dL_act_638 rfl rfl (Nat.le_of_ble_eq_true rfl) (Nat.le_of_ble_eq_true rfl) (xb_rv hX) rfl rfl (c_X11_cool_ok hGC hGT hGE hX hW hzk hr) rfl (fun hk1 e9k1 => ?_)
        obtain ⟨hX9, hF1⟩ := e9k1
        have hX1 : XB G hk1 K x ad (S.1, S.2.1, B1, S.2.2.2.1, remH S.2.2.2.2.1 S.2.2.1, S.2.2.2.2.2) := by rw [hB1]; exact hX9
        have hlen1 := hX1.len
        have hS9 : WS (sAt B1 k) := hI9.1.1.at hs1
        have hl1 : (sAt B1 k).1.length ≤ 200 := hlen1.2 _ (getD_memS (hasS_n hs1).1)
        have hg9 := hgt_nn (sAt B1 k).1
        have hg8 := hS9.2.2.1
        have hw8 := hS9.2.2.2
        refine r_iload dL_act_641 9 rfl ?_
        refine i_const (1) dL_act_643 ?_
        refine i_add dL_act_644 ?_
        refine i_icmpne dL_act_645 (tgt := 663) (by decide) (by unfold in32; omega) (by unfold in32; omega) (fun c => (by exfalso; omega)) (fun _ => ?_)
        refine r_aload_n dL_act_648 0 rfl ?_
        refine r_iload dL_act_649 5 rfl ?_
        refine i_const (2) dL_act_651 ?_
        refine p_callV (As := [.int (iI k), .int (iI 2)]) (b := x) (rest := []) (w := (some (.int (iI (obst (sAt B1 k) 2))))) (st' := [.int (iI (obst (sAt B1 k) 2))]) kv_L_act_116 dL_act_652 rfl rfl (Nat.le_of_ble_eq_true rfl) (Nat.le_of_ble_eq_true rfl) (xb_rv hX1) rfl rfl (c_X11_foldObstacle_ok hGC hGT hGE hX1 hW1 hzk hs1 (q := 2) ⟨by decide, by decide⟩ (by decide)) rfl (fun hk2 e9k2 => ?_)
        rw [show hk2 = hk1 from e9k2]
        refine i_const (1) dL_act_655 ?_
        refine i_icmpne dL_act_656 (tgt := 663) (by decide) (by unfold in32; omega) ⟨by decide, by decide⟩ (fun c => (by exfalso; omega)) (fun _ => ?_)
        refine i_const (1) dL_act_659 ?_
        refine r_goto dL_act_660 (tgt := 664) (by decide) ?_
        refine r_ireturn rfl (b2_nar true) dL_act_664 ?_
        exact ⟨rfl, by rw [hA, c594, if_neg (by simp), if_neg c632, ← hB1]; exact hX1, hF1⟩
    · refine r_aload_n dL_act_597 0 rfl ?_
      refine r_iload dL_act_598 5 rfl ?_
      have hr := R_take hsk c594
      have hL := L_take hsk
      have hI9 := hI.chg (inp := S.1) (e := S.2.1) hI.1.2.2.2 (hWB.cmd hr) (CB_cmd hr hC3)
      obtain ⟨B1, hB1⟩ : ∃ B1, B1 = aCmd 5 S.2.2.1 k 0 := ⟨_, rfl⟩
      rw [← hB1] at hL hI9
      have hW1 : WX (S.1, S.2.1, B1, S.2.2.2.1, remH S.2.2.2.2.1 S.2.2.1, S.2.2.2.2.2) := hI9.1
      obtain ⟨hs1, l2, l3⟩ := hL
      refine p_callV (As := [.int (iI k)]) (b := x) (rest := []) (w := (some (.int (iI (vCmd 5 S.2.2.1 k 0))))) (st' := [.int (iI (vCmd 5 S.2.2.1 k 0))]) kv_L_act_152 dL_act_600 rfl rfl (Nat.le_of_ble_eq_true rfl) (Nat.le_of_ble_eq_true rfl) (xb_rv hX) rfl rfl (c_X11_takeOut_ok hGC hGT hGE hX hW hzk hr) rfl (fun hk3 e9k3 => ?_)
      obtain ⟨hX9, hF1⟩ := e9k3
      have hX1 : XB G hk3 K x ad (S.1, S.2.1, B1, S.2.2.2.1, remH S.2.2.2.2.1 S.2.2.1, S.2.2.2.2.2) := by rw [hB1]; exact hX9
      have hlen1 := hX1.len
      have hS9 : WS (sAt B1 k) := hI9.1.1.at hs1
      have hl1 : (sAt B1 k).1.length ≤ 200 := hlen1.2 _ (getD_memS (hasS_n hs1).1)
      have hg9 := hgt_nn (sAt B1 k).1
      have hg8 := hS9.2.2.1
      have hw8 := hS9.2.2.2
      refine r_aload_n dL_act_603 0 rfl ?_
      refine r_iload dL_act_604 5 rfl ?_
      refine p_callV (As := [.int (iI k)]) (b := x) (rest := [.int (iI (vCmd 5 S.2.2.1 k 0))]) (w := (some (.int (iI ((sAt B1 k).2.2.1))))) (st' := [.int (iI ((sAt B1 k).2.2.1)), .int (iI (vCmd 5 S.2.2.1 k 0))]) kv_L_act_52 dL_act_606 rfl rfl (Nat.le_of_ble_eq_true rfl) (Nat.le_of_ble_eq_true rfl) (xb_rv hX1) rfl rfl (c_X11_temperature_ok hGC hGT hGE hX1 hW1 (z := k) hzk hs1) rfl (fun hk4 e9k4 => ?_)
      rw [show hk4 = hk3 from e9k4]
      refine i_icmpne dL_act_609 (tgt := 625) (by decide) (by unfold in32; omega) (by unfold in32; omega) (fun c => (by exfalso; omega)) (fun _ => ?_)
      refine r_aload_n dL_act_612 0 rfl ?_
      refine r_iload dL_act_613 5 rfl ?_
      refine p_callV (As := [.int (iI k)]) (b := x) (rest := []) (w := (some (.int (iI (b2 (sAt B1 k).2.2.2.2.2.2))))) (st' := [.int (iI (b2 (sAt B1 k).2.2.2.2.2.2))]) kv_L_act_65 dL_act_615 rfl rfl (Nat.le_of_ble_eq_true rfl) (Nat.le_of_ble_eq_true rfl) (xb_rv hX1) rfl rfl (c_X11_isCooling_ok hGC hGT hGE hX1 hW1 (z := k) hzk hs1) rfl (fun hk5 e9k5 => ?_)
      rw [show hk5 = hk3 from e9k5]
      refine i_ifneb dL_act_618 (tgt := 625) (by decide) (fun c => absurd (c.symm.trans l3) (by decide)) (fun _ => ?_)
      refine i_const (1) dL_act_621 ?_
      refine r_goto dL_act_622 (tgt := 664) (by decide) ?_
      refine r_ireturn rfl (b2_nar true) dL_act_664 ?_
      exact ⟨rfl, by rw [hA, if_pos c594, ← hB1]; exact hX1, hF1⟩
  have L560 : ∀ i, i ≤ S.2.2.1.2.length → RR G ML_act 560 [(0, .ref x), (1, .int v), (2, .int (iI (mst v 24))), (3, .int (aU v)), (4, .int (iI ((S.2.2.1.2.length : Int)))), (5, .int (iI k)), (6, .int (iI (((sAt S.2.2.1 k).1.length : Int)))), (7, .int (iI (b2 (sAt S.2.2.1 k).2.2.2.2.2.2))), (8, .int (iI p)), (9, .int (iI (cnt isC (S.2.2.1.2.take i)))), (10, .int (iI ((i : Int))))] [] h (xm_R ML_act).cells (xm_R ML_act).slots (fun o' h' => o' = .inl (some (.int (iI 1))) ∧ XB G h' K x ad (updS S (actR S.2.2.1 v)) ∧ FRp (fpX x ad) h h') := by
    refine down (fun i hi ih => ?_)
    by_cases hin : i < S.2.2.1.2.length
    · have hct := cnt_b isC (S.2.2.1.2.take i)
      have hct2 : (S.2.2.1.2.take i).length ≤ 6 := by rw [List.length_take]; omega
      refine r_iload dL_act_560 10 rfl ?_
      refine r_iload dL_act_562 4 rfl ?_
      refine i_icmpge dL_act_564 (tgt := 592) (by decide) (by unfold in32; omega) (by unfold in32; omega) (fun c => (by exfalso; omega)) (fun _ => ?_)
      refine r_iload dL_act_567 9 rfl ?_
      refine r_aload_n dL_act_569 0 rfl ?_
      refine r_iload dL_act_570 10 rfl ?_
      refine p_callV (As := [.int (iI ((i : Int)))]) (b := x) (rest := [.int (iI (cnt isC (S.2.2.1.2.take i)))]) (w := (some (.int (iI (b2 (sAt S.2.2.1 (i : Int)).2.2.2.2.2.2))))) (st' := [.int (iI (b2 (sAt S.2.2.1 (i : Int)).2.2.2.2.2.2)), .int (iI (cnt isC (S.2.2.1.2.take i)))]) kv_L_act_65 dL_act_572 rfl rfl (Nat.le_of_ble_eq_true rfl) (Nat.le_of_ble_eq_true rfl) (xb_rv hX) rfl rfl (c_X11_isCooling_ok hGC hGT hGE hX hW (z := (i : Int)) (by unfold in32; omega) (by unfold hasS; simp; omega)) rfl (fun hk1 e9k1 => ?_)
      rw [show hk1 = h from e9k1]
      refine i_ifeqb dL_act_575 (tgt := 582) (by decide) (fun c575 => ?_) (fun c575 => ?_)
      · refine i_const (0) dL_act_582 ?_
        refine i_add dL_act_583 ?_
        refine r_istore (ls' := [(0, .ref x), (1, .int v), (2, .int (iI (mst v 24))), (3, .int (aU v)), (4, .int (iI ((S.2.2.1.2.length : Int)))), (5, .int (iI k)), (6, .int (iI (((sAt S.2.2.1 k).1.length : Int)))), (7, .int (iI (b2 (sAt S.2.2.1 k).2.2.2.2.2.2))), (8, .int (iI p)), (9, .int (iI ((cnt isC (S.2.2.1.2.take i)) + 0))), (10, .int (iI ((i : Int))))]) dL_act_584 (by decide) rfl ?_
        refine i_iinc (ls' := [(0, .ref x), (1, .int v), (2, .int (iI (mst v 24))), (3, .int (aU v)), (4, .int (iI ((S.2.2.1.2.length : Int)))), (5, .int (iI k)), (6, .int (iI (((sAt S.2.2.1 k).1.length : Int)))), (7, .int (iI (b2 (sAt S.2.2.1 k).2.2.2.2.2.2))), (8, .int (iI p)), (9, .int (iI ((cnt isC (S.2.2.1.2.take i)) + 0))), (10, .int (iI ((i : Int) + 1)))]) (1) (v := (i : Int) + 1) dL_act_586 10 rfl (by omega) (by decide) rfl ?_
        refine r_goto dL_act_589 (tgt := 560) (by decide) ?_
        rw [show (cnt isC (S.2.2.1.2.take i)) + 0 = cnt isC (S.2.2.1.2.take (i + 1)) by rw [cnt_f (by omega) c575]; omega]
        exact ih (i + 1) (by omega) (by omega)
      · refine i_const (1) dL_act_578 ?_
        refine r_goto dL_act_579 (tgt := 583) (by decide) ?_
        refine i_add dL_act_583 ?_
        refine r_istore (ls' := [(0, .ref x), (1, .int v), (2, .int (iI (mst v 24))), (3, .int (aU v)), (4, .int (iI ((S.2.2.1.2.length : Int)))), (5, .int (iI k)), (6, .int (iI (((sAt S.2.2.1 k).1.length : Int)))), (7, .int (iI (b2 (sAt S.2.2.1 k).2.2.2.2.2.2))), (8, .int (iI p)), (9, .int (iI ((cnt isC (S.2.2.1.2.take i)) + 1))), (10, .int (iI ((i : Int))))]) dL_act_584 (by decide) rfl ?_
        refine i_iinc (ls' := [(0, .ref x), (1, .int v), (2, .int (iI (mst v 24))), (3, .int (aU v)), (4, .int (iI ((S.2.2.1.2.length : Int)))), (5, .int (iI k)), (6, .int (iI (((sAt S.2.2.1 k).1.length : Int)))), (7, .int (iI (b2 (sAt S.2.2.1 k).2.2.2.2.2.2))), (8, .int (iI p)), (9, .int (iI ((cnt isC (S.2.2.1.2.take i)) + 1))), (10, .int (iI ((i : Int) + 1)))]) (1) (v := (i : Int) + 1) dL_act_586 10 rfl (by omega) (by decide) rfl ?_
        refine r_goto dL_act_589 (tgt := 560) (by decide) ?_
        rw [show (cnt isC (S.2.2.1.2.take i)) + 1 = cnt isC (S.2.2.1.2.take (i + 1)) by rw [cnt_t (by omega) c575]]
        exact ih (i + 1) (by omega) (by omega)
    · have ei : i = S.2.2.1.2.length := by omega
      subst ei
      rw [take_allS]
      refine r_iload dL_act_560 10 rfl ?_
      refine r_iload dL_act_562 4 rfl ?_
      refine i_icmpge dL_act_564 (tgt := 592) (by decide) (by unfold in32; omega) (by unfold in32; omega) (fun _ => ?_) (fun c => (by exfalso; omega))
      exact L592
  refine i_const (0) dL_act_554 ?_
  refine r_istore (ls' := [(0, .ref x), (1, .int v), (2, .int (iI (mst v 24))), (3, .int (aU v)), (4, .int (iI ((S.2.2.1.2.length : Int)))), (5, .int (iI k)), (6, .int (iI (((sAt S.2.2.1 k).1.length : Int)))), (7, .int (iI (b2 (sAt S.2.2.1 k).2.2.2.2.2.2))), (8, .int (iI p)), (9, .int (iI 0))]) dL_act_555 (by decide) rfl ?_
  refine i_const (0) dL_act_557 ?_
  refine r_istore (ls' := [(0, .ref x), (1, .int v), (2, .int (iI (mst v 24))), (3, .int (aU v)), (4, .int (iI ((S.2.2.1.2.length : Int)))), (5, .int (iI k)), (6, .int (iI (((sAt S.2.2.1 k).1.length : Int)))), (7, .int (iI (b2 (sAt S.2.2.1 k).2.2.2.2.2.2))), (8, .int (iI p)), (9, .int (iI 0)), (10, .int (iI 0))]) dL_act_558 (by decide) rfl ?_
  have L0 := L560 0 (Nat.zero_le _)
  exact L0
set_option maxRecDepth 20000 in
set_option maxHeartbeats 4000000 in
theorem act_hours {G : xG} {h : xH} {K : xK} {sa : Nat → Nat} (hGC : GC G K sa) (hGT : GT G sa) (hGE : GE G) {x : Nat} {ad : XA} {S : XS} (hX : XB G h K x ad S) (hI : IV S) (hE : EB S.2.2.1) (hH : S.2.2.1.1.2.2.2.1 ≤ 9900) {v : Int32} {k p : Int} (hk : k = aK S.2.2.1 v) (hp : p = aP v) (d : 13 < mst v 24 ∧ mst v 24 < 17) : RR G ML_act 671 [(0, .ref x), (1, .int v), (2, .int (iI (mst v 24))), (3, .int (aU v)), (4, .int (iI ((S.2.2.1.2.length : Int)))), (5, .int (iI k)), (6, .int (iI (((sAt S.2.2.1 k).1.length : Int)))), (7, .int (iI (b2 (sAt S.2.2.1 k).2.2.2.2.2.2))), (8, .int (iI p))] [] h (xm_R ML_act).cells (xm_R ML_act).slots (fun o' h' => o' = .inl (some (.int (iI 1))) ∧ XB G h' K x ad (updS S (actR S.2.2.1 v)) ∧ FRp (fpX x ad) h h') := by
  have hW := hI.1
  have hWB := hW.1
  have hC3 := hI.2.1
  have hlen := hX.len
  have hl6 := hlen.1
  have hn1 := hE.2
  have hm := hWB.2.2.1
  have hfl := hWB.2.2.2.1
  have hro := hWB.2.1
  have hho := hWB.2.2.2.2
  obtain ⟨hk0, hk1, hsk⟩ := aK_b hE v
  rw [← hk] at hk0 hk1 hsk
  have hp4 := aP_b v
  rw [← hp] at hp4
  have hzk : in32 k := by unfold in32; omega
  have hlk : (sAt S.2.2.1 k).1.length ≤ 200 := hlen.2 _ (getD_memS (hasS_n hsk).1)
  have hS := hWB.at hsk
  have hS1 := hS.1
  have hS3 := hS.2.2.1
  have hS4 := hS.2.2.2
  have hg1 := hgt_ge (sAt S.2.2.1 k).1 hS.2.1
  have hmw := mst_b v (m := 24) (by decide)
  have hlo := loss_b (m := S.2.2.1.1.2.1) hS4 (by omega)
  have hA := actR_5 (B := S.2.2.1) d
  have hwa : ∀ n, 0 ≤ warmAt (sAt S.2.2.1 k) S.2.2.1.1.1 n ∧ warmAt (sAt S.2.2.1 k) S.2.2.1.1.1 n ≤ 40 := warmAt_b hS4 hro
  have hwn := hwa (1 + mst (aU v) 10).toNat
  have hsb := safe_b S.2.2.1.1.2.1 40 (sAt S.2.2.1 k).2.2.1
  refine i_const (1) dL_act_671 ?_
  refine r_iload_n dL_act_672 3 rfl ?_
  refine i_bipush (10) (by decide) dL_act_673 ?_
  refine p_callS (As := [.int (aU v), .int (iI 10)]) (rest := [.int (iI 1)]) (w := (some (.int (iI (mst (aU v) 10))))) (st' := [.int (iI (mst (aU v) 10)), .int (iI 1)]) kv_L_act_128 dL_act_675 rfl rfl (Nat.le_of_ble_eq_true rfl) (Nat.le_of_ble_eq_true rfl) rfl rfl (c_L_most (by omega)) rfl (fun hk1 e9k1 => ?_)
  rw [show hk1 = h from e9k1]
  refine i_add dL_act_678 ?_
  have hm10 := mst_b (aU v) (m := 10) (by decide)
  obtain ⟨n9, hn9⟩ : ∃ n9 : Int, n9 = 1 + mst (aU v) 10 := ⟨_, rfl⟩
  rw [← hn9] at hA
  rw [← hn9]
  refine r_istore (ls' := [(0, .ref x), (1, .int v), (2, .int (iI (mst v 24))), (3, .int (aU v)), (4, .int (iI ((S.2.2.1.2.length : Int)))), (5, .int (iI k)), (6, .int (iI (((sAt S.2.2.1 k).1.length : Int)))), (7, .int (iI (b2 (sAt S.2.2.1 k).2.2.2.2.2.2))), (8, .int (iI p)), (9, .int (iI n9))]) dL_act_679 (by decide) rfl ?_
  refine r_aload_n dL_act_681 0 rfl ?_
  refine r_iload dL_act_682 5 rfl ?_
  refine r_iload dL_act_684 9 rfl ?_
  refine p_callV (As := [.int (iI k), .int (iI n9)]) (b := x) (rest := []) (w := (some (.int (iI (warmAt (sAt S.2.2.1 k) S.2.2.1.1.1 n9.toNat))))) (st' := [.int (iI (warmAt (sAt S.2.2.1 k) S.2.2.1.1.1 n9.toNat))]) kv_L_act_100 dL_act_686 rfl rfl (Nat.le_of_ble_eq_true rfl) (Nat.le_of_ble_eq_true rfl) (xb_rv hX) rfl rfl (c_X11_temperatureAfter_ok hGC hGT hGE hX hW hzk hsk (q := n9) (by omega)) rfl (fun hk2 e9k2 => ?_)
  rw [show hk2 = h from e9k2]
  refine r_istore (ls' := [(0, .ref x), (1, .int v), (2, .int (iI (mst v 24))), (3, .int (aU v)), (4, .int (iI ((S.2.2.1.2.length : Int)))), (5, .int (iI k)), (6, .int (iI (((sAt S.2.2.1 k).1.length : Int)))), (7, .int (iI (b2 (sAt S.2.2.1 k).2.2.2.2.2.2))), (8, .int (iI p)), (9, .int (iI n9)), (10, .int (iI (warmAt (sAt S.2.2.1 k) S.2.2.1.1.1 n9.toNat)))]) dL_act_689 (by decide) rfl ?_
  refine r_aload_n dL_act_691 0 rfl ?_
  refine r_iload dL_act_692 5 rfl ?_
  refine p_callV (As := [.int (iI k)]) (b := x) (rest := []) (w := (some (.int (iI (safeH S.2.2.1.1.2.1 40 (sAt S.2.2.1 k).2.2.1))))) (st' := [.int (iI (safeH S.2.2.1.1.2.1 40 (sAt S.2.2.1 k).2.2.1))]) kv_L_act_97 dL_act_694 rfl rfl (Nat.le_of_ble_eq_true rfl) (Nat.le_of_ble_eq_true rfl) (xb_rv hX) rfl rfl (c_X11_hoursToSafety_ok hGC hGT hGE hX hW (z := k) hzk hsk) rfl (fun hk3 e9k3 => ?_)
  rw [show hk3 = h from e9k3]
  refine r_istore (ls' := [(0, .ref x), (1, .int v), (2, .int (iI (mst v 24))), (3, .int (aU v)), (4, .int (iI ((S.2.2.1.2.length : Int)))), (5, .int (iI k)), (6, .int (iI (((sAt S.2.2.1 k).1.length : Int)))), (7, .int (iI (b2 (sAt S.2.2.1 k).2.2.2.2.2.2))), (8, .int (iI p)), (9, .int (iI n9)), (10, .int (iI (warmAt (sAt S.2.2.1 k) S.2.2.1.1.1 n9.toNat))), (11, .int (iI (safeH S.2.2.1.1.2.1 40 (sAt S.2.2.1 k).2.2.1)))]) dL_act_697 (by decide) rfl ?_
  refine r_aload_n dL_act_699 0 rfl ?_
  refine p_callV (As := []) (b := x) (rest := []) (w := (some (.int (iI S.2.2.1.1.2.2.2.1)))) (st' := [.int (iI S.2.2.1.1.2.2.2.1)]) kv_L_act_40 dL_act_700 rfl rfl (Nat.le_of_ble_eq_true rfl) (Nat.le_of_ble_eq_true rfl) (xb_rv hX) rfl rfl (c_X11_hoursPassed hGC hGT hGE hX hW) rfl (fun hk4 e9k4 => ?_)
  rw [show hk4 = h from e9k4]
  refine r_istore (ls' := [(0, .ref x), (1, .int v), (2, .int (iI (mst v 24))), (3, .int (aU v)), (4, .int (iI ((S.2.2.1.2.length : Int)))), (5, .int (iI k)), (6, .int (iI (((sAt S.2.2.1 k).1.length : Int)))), (7, .int (iI (b2 (sAt S.2.2.1 k).2.2.2.2.2.2))), (8, .int (iI p)), (9, .int (iI n9)), (10, .int (iI (warmAt (sAt S.2.2.1 k) S.2.2.1.1.1 n9.toNat))), (11, .int (iI (safeH S.2.2.1.1.2.1 40 (sAt S.2.2.1 k).2.2.1))), (12, .int (iI S.2.2.1.1.2.2.2.1))]) dL_act_703 (by decide) rfl ?_
  refine r_aload_n dL_act_705 0 rfl ?_
  refine r_iload dL_act_706 9 rfl ?_
  have hr := R_hours (B := S.2.2.1) (n := n9) (by omega) (by omega)
  have hL := L_hours (n := n9) hWB hsk (by omega)
  have hI9 := hI.chg (inp := S.1) (e := S.2.1) hI.1.2.2.2 (hWB.cmd hr) (CB_cmd hr hC3)
  obtain ⟨B1, hB1⟩ : ∃ B1, B1 = aCmd 6 S.2.2.1 n9 0 := ⟨_, rfl⟩
  rw [← hB1] at hL hI9
  have hW1 : WX (S.1, S.2.1, B1, S.2.2.2.1, remH S.2.2.2.2.1 S.2.2.1, S.2.2.2.2.2) := hI9.1
  obtain ⟨hs1, l2, l3, l4, l5⟩ := hL
  refine p_callV (As := [.int (iI n9)]) (b := x) (rest := []) (w := (some (.int (iI (vCmd 6 S.2.2.1 n9 0))))) (st' := [.int (iI (vCmd 6 S.2.2.1 n9 0))]) kv_L_act_158 dL_act_708 rfl rfl (Nat.le_of_ble_eq_true rfl) (Nat.le_of_ble_eq_true rfl) (xb_rv hX) rfl rfl (c_X11_passHours_ok hGC hGT hGE hX hW (z := n9) (by unfold in32; omega) hr) rfl (fun hk5 e9k5 => ?_)
  obtain ⟨hX9, hF1⟩ := e9k5
  have hX1 : XB G hk5 K x ad (S.1, S.2.1, B1, S.2.2.2.1, remH S.2.2.2.2.1 S.2.2.1, S.2.2.2.2.2) := by rw [hB1]; exact hX9
  have hlen1 := hX1.len
  have hS9 : WS (sAt B1 k) := hI9.1.1.at hs1
  have hl1 : (sAt B1 k).1.length ≤ 200 := hlen1.2 _ (getD_memS (hasS_n hs1).1)
  have hg9 := hgt_nn (sAt B1 k).1
  have hg8 := hS9.2.2.1
  have hw8 := hS9.2.2.2
  refine r_pop dL_act_711 rfl ?_
  refine r_aload_n dL_act_712 0 rfl ?_
  refine r_iload dL_act_713 5 rfl ?_
  refine p_callV (As := [.int (iI k)]) (b := x) (rest := []) (w := (some (.int (iI ((sAt B1 k).2.2.1))))) (st' := [.int (iI ((sAt B1 k).2.2.1))]) kv_L_act_52 dL_act_715 rfl rfl (Nat.le_of_ble_eq_true rfl) (Nat.le_of_ble_eq_true rfl) (xb_rv hX1) rfl rfl (c_X11_temperature_ok hGC hGT hGE hX1 hW1 (z := k) hzk hs1) rfl (fun hk6 e9k6 => ?_)
  rw [show hk6 = hk5 from e9k6]
  refine r_iload dL_act_718 10 rfl ?_
  refine i_icmpne dL_act_720 (tgt := 773) (by decide) (by unfold in32; omega) (by unfold in32; omega) (fun c => (by exfalso; omega)) (fun _ => ?_)
  refine r_aload_n dL_act_723 0 rfl ?_
  refine p_callV (As := []) (b := x) (rest := []) (w := (some (.int (iI B1.1.2.2.2.1)))) (st' := [.int (iI B1.1.2.2.2.1)]) kv_L_act_40 dL_act_724 rfl rfl (Nat.le_of_ble_eq_true rfl) (Nat.le_of_ble_eq_true rfl) (xb_rv hX1) rfl rfl (c_X11_hoursPassed hGC hGT hGE hX1 hW1) rfl (fun hk7 e9k7 => ?_)
  rw [show hk7 = hk5 from e9k7]
  refine r_iload dL_act_727 12 rfl ?_
  refine r_iload dL_act_729 9 rfl ?_
  refine i_add dL_act_731 ?_
  refine i_icmpne dL_act_732 (tgt := 773) (by decide) (by unfold in32; omega) (by unfold in32; omega) (fun c => (by exfalso; omega)) (fun _ => ?_)
  refine r_iload dL_act_735 7 rfl ?_
  refine i_ifeqb dL_act_737 (tgt := 769) (by decide) (fun c737 => ?_) (fun c737 => ?_)
  · refine i_const (1) dL_act_769 ?_
    refine r_goto dL_act_770 (tgt := 774) (by decide) ?_
    refine r_ireturn rfl (b2_nar true) dL_act_774 ?_
    exact ⟨rfl, by rw [hA, ← hB1]; exact hX1, hF1⟩
  · have l6 := l5 c737
    refine r_iload dL_act_740 10 rfl ?_
    refine r_aload_n dL_act_742 0 rfl ?_
    refine p_callV (As := []) (b := x) (rest := [.int (iI (warmAt (sAt S.2.2.1 k) S.2.2.1.1.1 n9.toNat))]) (w := (some (.int (iI B1.1.2.1)))) (st' := [.int (iI B1.1.2.1), .int (iI (warmAt (sAt S.2.2.1 k) S.2.2.1.1.1 n9.toNat))]) kv_L_act_82 dL_act_743 rfl rfl (Nat.le_of_ble_eq_true rfl) (Nat.le_of_ble_eq_true rfl) (xb_rv hX1) rfl rfl (c_X11_meltingPoint hGC hGT hGE hX1 hW1) rfl (fun hk8 e9k8 => ?_)
    rw [show hk8 = hk5 from e9k8]
    refine i_icmpgt dL_act_746 (tgt := 753) (by decide) (by unfold in32; omega) (by unfold in32; omega) (fun c746 => ?_) (fun c746 => ?_)
    · refine i_const (0) dL_act_753 ?_
      refine r_iload dL_act_754 9 rfl ?_
      refine r_iload dL_act_756 11 rfl ?_
      refine i_icmplt dL_act_758 (tgt := 765) (by decide) (by unfold in32; omega) (by unfold in32; omega) (fun _ => ?_) (fun c => (by exfalso; omega))
      refine i_const (0) dL_act_765 ?_
      refine i_icmpne dL_act_766 (tgt := 773) (by decide) ⟨by decide, by decide⟩ ⟨by decide, by decide⟩ (fun c => absurd c (by decide)) (fun _ => ?_)
      refine i_const (1) dL_act_769 ?_
      refine r_goto dL_act_770 (tgt := 774) (by decide) ?_
      refine r_ireturn rfl (b2_nar true) dL_act_774 ?_
      exact ⟨rfl, by rw [hA, ← hB1]; exact hX1, hF1⟩
    · refine i_const (1) dL_act_749 ?_
      refine r_goto dL_act_750 (tgt := 754) (by decide) ?_
      refine r_iload dL_act_754 9 rfl ?_
      refine r_iload dL_act_756 11 rfl ?_
      refine i_icmplt dL_act_758 (tgt := 765) (by decide) (by unfold in32; omega) (by unfold in32; omega) (fun c => (by exfalso; omega)) (fun _ => ?_)
      refine i_const (1) dL_act_761 ?_
      refine r_goto dL_act_762 (tgt := 766) (by decide) ?_
      refine i_icmpne dL_act_766 (tgt := 773) (by decide) ⟨by decide, by decide⟩ ⟨by decide, by decide⟩ (fun c => absurd c (by decide)) (fun _ => ?_)
      refine i_const (1) dL_act_769 ?_
      refine r_goto dL_act_770 (tgt := 774) (by decide) ?_
      refine r_ireturn rfl (b2_nar true) dL_act_774 ?_
      exact ⟨rfl, by rw [hA, ← hB1]; exact hX1, hF1⟩
set_option maxRecDepth 20000 in
set_option maxHeartbeats 4000000 in
theorem act_cut {G : xG} {h : xH} {K : xK} {sa : Nat → Nat} (hGC : GC G K sa) (hGT : GT G sa) (hGE : GE G) {x : Nat} {ad : XA} {S : XS} (hX : XB G h K x ad S) (hI : IV S) (hE : EB S.2.2.1) (hH : S.2.2.1.1.2.2.2.1 ≤ 9900) {v : Int32} {k p : Int} (hk : k = aK S.2.2.1 v) (hp : p = aP v) (d : mst v 24 = 17) : RR G ML_act 781 [(0, .ref x), (1, .int v), (2, .int (iI (mst v 24))), (3, .int (aU v)), (4, .int (iI ((S.2.2.1.2.length : Int)))), (5, .int (iI k)), (6, .int (iI (((sAt S.2.2.1 k).1.length : Int)))), (7, .int (iI (b2 (sAt S.2.2.1 k).2.2.2.2.2.2))), (8, .int (iI p))] [] h (xm_R ML_act).cells (xm_R ML_act).slots (fun o' h' => o' = .inl (some (.int (iI 1))) ∧ XB G h' K x ad (updS S (actR S.2.2.1 v)) ∧ FRp (fpX x ad) h h') := by
  have hW := hI.1
  have hWB := hW.1
  have hC3 := hI.2.1
  have hlen := hX.len
  have hl6 := hlen.1
  have hn1 := hE.2
  have hm := hWB.2.2.1
  have hfl := hWB.2.2.2.1
  have hro := hWB.2.1
  have hho := hWB.2.2.2.2
  obtain ⟨hk0, hk1, hsk⟩ := aK_b hE v
  rw [← hk] at hk0 hk1 hsk
  have hp4 := aP_b v
  rw [← hp] at hp4
  have hzk : in32 k := by unfold in32; omega
  have hlk : (sAt S.2.2.1 k).1.length ≤ 200 := hlen.2 _ (getD_memS (hasS_n hsk).1)
  have hS := hWB.at hsk
  have hS1 := hS.1
  have hS3 := hS.2.2.1
  have hS4 := hS.2.2.2
  have hg1 := hgt_ge (sAt S.2.2.1 k).1 hS.2.1
  have hmw := mst_b v (m := 24) (by decide)
  have hlo := loss_b (m := S.2.2.1.1.2.1) hS4 (by omega)
  have hA := actR_6 hk d
  refine r_aload_n dL_act_781 0 rfl ?_
  refine r_iload dL_act_782 5 rfl ?_
  refine p_callV (As := [.int (iI k)]) (b := x) (rest := []) (w := (some (.int (iI (hgt (sAt S.2.2.1 k).1))))) (st' := [.int (iI (hgt (sAt S.2.2.1 k).1))]) kv_L_act_88 dL_act_784 rfl rfl (Nat.le_of_ble_eq_true rfl) (Nat.le_of_ble_eq_true rfl) (xb_rv hX) rfl rfl (c_X11_height_ok hGC hGT hGE hX hW (z := k) hzk hsk) rfl (fun hk1 e9k1 => ?_)
  rw [show hk1 = h from e9k1]
  refine r_istore (ls' := [(0, .ref x), (1, .int v), (2, .int (iI (mst v 24))), (3, .int (aU v)), (4, .int (iI ((S.2.2.1.2.length : Int)))), (5, .int (iI k)), (6, .int (iI (((sAt S.2.2.1 k).1.length : Int)))), (7, .int (iI (b2 (sAt S.2.2.1 k).2.2.2.2.2.2))), (8, .int (iI p)), (9, .int (iI (hgt (sAt S.2.2.1 k).1)))]) dL_act_787 (by decide) rfl ?_
  refine r_iload dL_act_789 7 rfl ?_
  refine i_ifneb dL_act_791 (tgt := 882) (by decide) (fun c791 => ?_) (fun c791 => ?_)
  · refine i_const (1) dL_act_882 ?_
    refine r_goto dL_act_883 (tgt := 887) (by decide) ?_
    refine r_ireturn rfl (b2_nar true) dL_act_887 ?_
    exact ⟨rfl, by rw [hA, if_pos (Or.inl c791)]; exact hX, FRp.rf⟩
  · refine r_iload dL_act_794 4 rfl ?_
    refine i_bipush (6) (by decide) dL_act_796 ?_
    refine i_icmpeq dL_act_798 (tgt := 882) (by decide) (by unfold in32; omega) ⟨by decide, by decide⟩ (fun c798 => ?_) (fun c798 => ?_)
    · refine i_const (1) dL_act_882 ?_
      refine r_goto dL_act_883 (tgt := 887) (by decide) ?_
      refine r_ireturn rfl (b2_nar true) dL_act_887 ?_
      exact ⟨rfl, by rw [hA, if_pos (Or.inr c798)]; exact hX, FRp.rf⟩
    · refine r_aload_n dL_act_801 0 rfl ?_
      refine r_iload dL_act_802 5 rfl ?_
      have hr := R_cut hsk c791 (by omega)
      have hL := L_cut hsk
      have hI9 := hI.chg (inp := S.1) (e := S.2.1) hI.1.2.2.2 (hWB.cmd hr) (CB_cmd hr hC3)
      obtain ⟨B1, hB1⟩ : ∃ B1, B1 = aCmd 7 S.2.2.1 k 0 := ⟨_, rfl⟩
      rw [← hB1] at hL hI9
      have hW1 : WX (S.1, S.2.1, B1, S.2.2.2.1, remH S.2.2.2.2.1 S.2.2.1, S.2.2.2.2.2) := hI9.1
      obtain ⟨hs1, hsn, l3, l4, l5⟩ := hL
      have m1 : ((sAt B1 (S.2.2.1.2.length : Int)).1.length : Int) = ((sAt S.2.2.1 k).1.length : Int) := by rw [l5]; rfl
      have m2 : hgt (sAt B1 (S.2.2.1.2.length : Int)).1 = hgt (sAt S.2.2.1 k).1 := by rw [l5]; rfl
      have m3 : (sAt B1 (S.2.2.1.2.length : Int)).2.2.1 = (sAt B1 k).2.2.1 := by rw [l5, l4]
      have m4 : (sAt B1 (S.2.2.1.2.length : Int)).2.2.2.1 = (sAt B1 k).2.2.2.1 := by rw [l5, l4]
      have m5 : (sAt B1 k).2.2.2.2.2.1 = false := by rw [l4]; rfl
      have m6 : (sAt B1 (S.2.2.1.2.length : Int)).2.2.2.2.2.1 = false := by rw [l5]; rfl
      refine p_callV (As := [.int (iI k)]) (b := x) (rest := []) (w := (some (.int (iI (vCmd 7 S.2.2.1 k 0))))) (st' := [.int (iI (vCmd 7 S.2.2.1 k 0))]) kv_L_act_161 dL_act_804 rfl rfl (Nat.le_of_ble_eq_true rfl) (Nat.le_of_ble_eq_true rfl) (xb_rv hX) rfl rfl (c_X11_cut_ok hGC hGT hGE hX hW hzk hr) rfl (fun hk2 e9k2 => ?_)
      obtain ⟨hX9, hF1⟩ := e9k2
      have hX1 : XB G hk2 K x ad (S.1, S.2.1, B1, S.2.2.2.1, remH S.2.2.2.2.1 S.2.2.1, S.2.2.2.2.2) := by rw [hB1]; exact hX9
      have hlen1 := hX1.len
      have hS9 : WS (sAt B1 k) := hI9.1.1.at hs1
      have hl1 : (sAt B1 k).1.length ≤ 200 := hlen1.2 _ (getD_memS (hasS_n hs1).1)
      have hg9 := hgt_nn (sAt B1 k).1
      have hg8 := hS9.2.2.1
      have hw8 := hS9.2.2.2
      refine r_iload dL_act_807 4 rfl ?_
      refine i_icmpne dL_act_809 (tgt := 886) (by decide) (by unfold in32; omega) (by unfold in32; omega) (fun c => (by exfalso; omega)) (fun _ => ?_)
      refine r_aload_n dL_act_812 0 rfl ?_
      refine r_iload dL_act_813 4 rfl ?_
      refine p_callV (As := [.int (iI ((S.2.2.1.2.length : Int)))]) (b := x) (rest := []) (w := (some (.int (iI (((sAt B1 (S.2.2.1.2.length : Int)).1.length : Int)))))) (st' := [.int (iI (((sAt B1 (S.2.2.1.2.length : Int)).1.length : Int)))]) kv_L_act_33 dL_act_815 rfl rfl (Nat.le_of_ble_eq_true rfl) (Nat.le_of_ble_eq_true rfl) (xb_rv hX1) rfl rfl (c_X11_layerCount_ok hGC hGT hGE hX1 hW1 (z := (S.2.2.1.2.length : Int)) (by unfold in32; omega) hsn) rfl (fun hk3 e9k3 => ?_)
      rw [show hk3 = hk2 from e9k3]
      refine r_iload dL_act_818 6 rfl ?_
      refine i_icmpne dL_act_820 (tgt := 886) (by decide) (by unfold in32; omega) (by unfold in32; omega) (fun c => (by exfalso; omega)) (fun _ => ?_)
      refine r_aload_n dL_act_823 0 rfl ?_
      refine r_iload dL_act_824 4 rfl ?_
      refine p_callV (As := [.int (iI ((S.2.2.1.2.length : Int)))]) (b := x) (rest := []) (w := (some (.int (iI (hgt (sAt B1 (S.2.2.1.2.length : Int)).1))))) (st' := [.int (iI (hgt (sAt B1 (S.2.2.1.2.length : Int)).1))]) kv_L_act_88 dL_act_826 rfl rfl (Nat.le_of_ble_eq_true rfl) (Nat.le_of_ble_eq_true rfl) (xb_rv hX1) rfl rfl (c_X11_height_ok hGC hGT hGE hX1 hW1 (z := (S.2.2.1.2.length : Int)) (by unfold in32; omega) hsn) rfl (fun hk4 e9k4 => ?_)
      rw [show hk4 = hk2 from e9k4]
      refine r_iload dL_act_829 9 rfl ?_
      refine i_icmpne dL_act_831 (tgt := 886) (by decide) (by unfold in32; omega) (by unfold in32; omega) (fun c => (by exfalso; omega)) (fun _ => ?_)
      refine r_aload_n dL_act_834 0 rfl ?_
      refine r_iload dL_act_835 4 rfl ?_
      refine p_callV (As := [.int (iI ((S.2.2.1.2.length : Int)))]) (b := x) (rest := []) (w := (some (.int (iI ((sAt B1 (S.2.2.1.2.length : Int)).2.2.1))))) (st' := [.int (iI ((sAt B1 (S.2.2.1.2.length : Int)).2.2.1))]) kv_L_act_52 dL_act_837 rfl rfl (Nat.le_of_ble_eq_true rfl) (Nat.le_of_ble_eq_true rfl) (xb_rv hX1) rfl rfl (c_X11_temperature_ok hGC hGT hGE hX1 hW1 (z := (S.2.2.1.2.length : Int)) (by unfold in32; omega) hsn) rfl (fun hk5 e9k5 => ?_)
      rw [show hk5 = hk2 from e9k5]
      refine r_aload_n dL_act_840 0 rfl ?_
      refine r_iload dL_act_841 5 rfl ?_
      refine p_callV (As := [.int (iI k)]) (b := x) (rest := [.int (iI ((sAt B1 (S.2.2.1.2.length : Int)).2.2.1))]) (w := (some (.int (iI ((sAt B1 k).2.2.1))))) (st' := [.int (iI ((sAt B1 k).2.2.1)), .int (iI ((sAt B1 (S.2.2.1.2.length : Int)).2.2.1))]) kv_L_act_52 dL_act_843 rfl rfl (Nat.le_of_ble_eq_true rfl) (Nat.le_of_ble_eq_true rfl) (xb_rv hX1) rfl rfl (c_X11_temperature_ok hGC hGT hGE hX1 hW1 (z := k) hzk hs1) rfl (fun hk6 e9k6 => ?_)
      rw [show hk6 = hk2 from e9k6]
      refine i_icmpne dL_act_846 (tgt := 886) (by decide) (by unfold in32; omega) (by unfold in32; omega) (fun c => (by exfalso; omega)) (fun _ => ?_)
      refine r_aload_n dL_act_849 0 rfl ?_
      refine r_iload dL_act_850 4 rfl ?_
      refine p_callV (As := [.int (iI ((S.2.2.1.2.length : Int)))]) (b := x) (rest := []) (w := (some (.int ((sAt B1 (S.2.2.1.2.length : Int)).2.2.2.1)))) (st' := [.int ((sAt B1 (S.2.2.1.2.length : Int)).2.2.2.1)]) kv_L_act_55 dL_act_852 rfl rfl (Nat.le_of_ble_eq_true rfl) (Nat.le_of_ble_eq_true rfl) (xb_rv hX1) rfl rfl (c_X11_foldCount_ok hGC hGT hGE hX1 hW1 (z := (S.2.2.1.2.length : Int)) (by unfold in32; omega) hsn) rfl (fun hk7 e9k7 => ?_)
      rw [show hk7 = hk2 from e9k7]
      refine r_aload_n dL_act_855 0 rfl ?_
      refine r_iload dL_act_856 5 rfl ?_
      refine p_callV (As := [.int (iI k)]) (b := x) (rest := [.int ((sAt B1 (S.2.2.1.2.length : Int)).2.2.2.1)]) (w := (some (.int ((sAt B1 k).2.2.2.1)))) (st' := [.int ((sAt B1 k).2.2.2.1), .int ((sAt B1 (S.2.2.1.2.length : Int)).2.2.2.1)]) kv_L_act_55 dL_act_858 rfl rfl (Nat.le_of_ble_eq_true rfl) (Nat.le_of_ble_eq_true rfl) (xb_rv hX1) rfl rfl (c_X11_foldCount_ok hGC hGT hGE hX1 hW1 (z := k) hzk hs1) rfl (fun hk8 e9k8 => ?_)
      rw [show hk8 = hk2 from e9k8]
      refine r_icmpne dL_act_861 (tgt := 886) (by decide) (fun c => absurd m4 c) (fun _ => ?_)
      refine r_aload_n dL_act_864 0 rfl ?_
      refine r_iload dL_act_865 5 rfl ?_
      refine p_callV (As := [.int (iI k)]) (b := x) (rest := []) (w := (some (.int (iI (b2 (sAt B1 k).2.2.2.2.2.1))))) (st' := [.int (iI (b2 (sAt B1 k).2.2.2.2.2.1))]) kv_L_act_62 dL_act_867 rfl rfl (Nat.le_of_ble_eq_true rfl) (Nat.le_of_ble_eq_true rfl) (xb_rv hX1) rfl rfl (c_X11_isSealed_ok hGC hGT hGE hX1 hW1 (z := k) hzk hs1) rfl (fun hk9 e9k9 => ?_)
      rw [show hk9 = hk2 from e9k9]
      refine i_ifneb dL_act_870 (tgt := 886) (by decide) (fun c => absurd (c.symm.trans m5) (by decide)) (fun _ => ?_)
      refine r_aload_n dL_act_873 0 rfl ?_
      refine r_iload dL_act_874 4 rfl ?_
      refine p_callV (As := [.int (iI ((S.2.2.1.2.length : Int)))]) (b := x) (rest := []) (w := (some (.int (iI (b2 (sAt B1 (S.2.2.1.2.length : Int)).2.2.2.2.2.1))))) (st' := [.int (iI (b2 (sAt B1 (S.2.2.1.2.length : Int)).2.2.2.2.2.1))]) kv_L_act_62 dL_act_876 rfl rfl (Nat.le_of_ble_eq_true rfl) (Nat.le_of_ble_eq_true rfl) (xb_rv hX1) rfl rfl (c_X11_isSealed_ok hGC hGT hGE hX1 hW1 (z := (S.2.2.1.2.length : Int)) (by unfold in32; omega) hsn) rfl (fun hk10 e9k10 => ?_)
      rw [show hk10 = hk2 from e9k10]
      refine i_ifneb dL_act_879 (tgt := 886) (by decide) (fun c => absurd (c.symm.trans m6) (by decide)) (fun _ => ?_)
      refine i_const (1) dL_act_882 ?_
      refine r_goto dL_act_883 (tgt := 887) (by decide) ?_
      refine r_ireturn rfl (b2_nar true) dL_act_887 ?_
      exact ⟨rfl, by rw [hA, if_neg (by rw [c791]; simpa using c798), ← hB1]; exact hX1, hF1⟩
