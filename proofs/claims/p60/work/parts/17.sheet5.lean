/-! ===== folding up, rolling out ===== -/
set_option maxRecDepth 20000 in
set_option maxHeartbeats 1000000 in
theorem c_X8_thicknessRolledR {G : xG} {h : xH} {a t b : Nat} {v2 v3 v4 v5 v6 v7 v8 : Int32} {gt gb : Nat → Int32} (ma : a ∈ h.1) (mt : t ∈ h.1) (mb : b ∈ h.1) (fa : h.2 a = .inr (5, [.ref t, .ref b, .int v2, .int v3, .int v4, .int v5, .int v6, .int v7, .int v8])) (ft : h.2 t = .inl (G.2.1 0, 200, .inl gt)) (fb : h.2 b = .inl (G.2.1 1, 200, .inl gb)) {i : Nat} (hi : i < 200) {x : Int} (h1 : gt i = iI (sz x)) (h2 : gb i = iI (b2 (isB x))) (hx : sz x ≤ 4000) {f lo : Int} (hf : 2 ≤ f ∧ f ≤ 4) (hlo : 0 ≤ lo ∧ lo ≤ 40) : CC G MX8_thicknessRolled [.ref a, .int (iI ((i : Int))), .int (iI f), .int (iI lo)] h (qI (rt f lo x) h) := by
  have ea := sz_nn x
  have ef : 0 ≤ sz x / f ∧ sz x / f ≤ sz x := ⟨Int.ediv_nonneg ea (by omega), Int.ediv_le_self _ ea⟩
  show RR G MX8_thicknessRolled 0 [(0, .ref a), (1, .int (iI ((i : Int)))), (2, .int (iI f)), (3, .int (iI lo))] [] h (xm_R MX8_thicknessRolled).cells (xm_R MX8_thicknessRolled).slots (qI (rt f lo x) h)
  refine r_iload_n dX8_thicknessRolled_0 2 rfl ?_
  refine i_const (2) dX8_thicknessRolled_1 ?_
  refine i_icmpge dX8_thicknessRolled_2 (tgt := 12) (by decide) (by unfold in32; omega) ⟨by decide, by decide⟩ (fun c2 => ?_) (fun c2 => ?_)
  · refine r_aload_n dX8_thicknessRolled_12 0 rfl ?_
    refine r_get cl_X8 1 (by decide) kf_X8_15 dX8_thicknessRolled_13 ma fa rfl ?_
    refine r_iload_n dX8_thicknessRolled_16 1 rfl ?_
    refine i_zald i rfl dX8_thicknessRolled_17 mb fb (by omega) (by decide) h2 ?_
    refine i_ifeqb dX8_thicknessRolled_18 (tgt := 36) (by decide) (fun c18 => ?_) (fun c18 => ?_)
    · refine i_const (1) dX8_thicknessRolled_36 ?_
      refine r_aload_n dX8_thicknessRolled_37 0 rfl ?_
      refine r_get cl_X8 0 (by decide) kf_X8_9 dX8_thicknessRolled_38 ma fa rfl ?_
      refine r_iload_n dX8_thicknessRolled_41 1 rfl ?_
      refine i_iald i rfl dX8_thicknessRolled_42 mt ft (by omega) (by decide) h1 ?_
      refine r_iload_n dX8_thicknessRolled_43 2 rfl ?_
      refine i_div dX8_thicknessRolled_44 (by unfold in32; omega) (by unfold in32; omega) (by omega) (by omega) ?_
      refine i_max (kv_X8_thicknessRolled_62 0 (by decide)) rfl dX8_thicknessRolled_45 ⟨by decide, by decide⟩ (by unfold in32; omega) ?_
      refine r_ireturn rfl rfl dX8_thicknessRolled_48 ?_
      have e : rt f lo x = max 1 ((sz x) / f) := by simp only [rt, c18, if_true, Bool.false_eq_true, if_false]
      rw [e]
      exact ⟨rfl, rfl⟩
    · refine i_const (0) dX8_thicknessRolled_21 ?_
      refine r_aload_n dX8_thicknessRolled_22 0 rfl ?_
      refine r_get cl_X8 0 (by decide) kf_X8_9 dX8_thicknessRolled_23 ma fa rfl ?_
      refine r_iload_n dX8_thicknessRolled_26 1 rfl ?_
      refine i_iald i rfl dX8_thicknessRolled_27 mt ft (by omega) (by decide) h1 ?_
      refine r_iload_n dX8_thicknessRolled_28 3 rfl ?_
      refine i_sub dX8_thicknessRolled_29 ?_
      refine i_max (kv_X8_thicknessRolled_62 0 (by decide)) rfl dX8_thicknessRolled_30 ⟨by decide, by decide⟩ (by unfold in32; omega) ?_
      refine r_iload_n dX8_thicknessRolled_33 2 rfl ?_
      refine i_div dX8_thicknessRolled_34 (by unfold in32; omega) (by unfold in32; omega) (by omega) (by omega) ?_
      refine r_ireturn rfl rfl dX8_thicknessRolled_35 ?_
      have e : rt f lo x = (max 0 ((sz x) - lo)) / f := by simp only [rt, c18, if_true, Bool.false_eq_true, if_false]
      rw [e]
      exact ⟨rfl, rfl⟩
  · refine r_aload_n dX8_thicknessRolled_5 0 rfl ?_
    refine r_get cl_X8 0 (by decide) kf_X8_9 dX8_thicknessRolled_6 ma fa rfl ?_
    refine r_iload_n dX8_thicknessRolled_9 1 rfl ?_
    refine i_iald i rfl dX8_thicknessRolled_10 mt ft (by omega) (by decide) h1 ?_
    refine r_ireturn rfl rfl dX8_thicknessRolled_11 ?_
    exfalso
    omega
set_option maxRecDepth 20000 in
set_option maxHeartbeats 1000000 in
theorem c_X8_foldUp {G : xG} {h : xH} {a t b : Nat} {s : AS} (hS : SH G h a t b s) (hW : WS s) (hG : GD G) {np : Nat} (hnp : 2 ≤ np ∧ np ≤ 4) (hroom : (foldP s.1 (!s.2.2.2.2.1) np).1.length ≤ 200) : CC G MX8_foldUp [.ref a, .int (iI (np : Int))] h (fun o h' => o = .inl none ∧ SH G h' a t b (foldS s np) ∧ FR a t b h h') := by
  obtain ⟨l, ex, wa, fo, du, se, co⟩ := s
  have hS0 := hS
  obtain ⟨gt, gb, ⟨ma, mt, mb⟩, ⟨nta, nba, ntb⟩, fa, ft, fb, hl, hr⟩ := hS
  have hl : l.length ≤ 200 := hl
  have hr : sr gt gb l := hr
  have fa : h.2 a = .inr (5, [.ref t, .ref b, .int (iI (l.length : Int)), .int (iI ex), .int fo, .int (iI wa), .int (iI (b2 du)), .int (iI (b2 se)), .int (iI (b2 co))]) := fa
  obtain ⟨h1, hnz, h4, hw0, hw1⟩ := hW
  have h1 : 1 ≤ l.length := h1
  have h4 : hgt l ≤ 4000 := h4
  have hw0 : 0 ≤ wa := hw0
  have hw1 : wa ≤ 40 := hw1
  have hnz : ∀ x ∈ l, x ≠ 0 := hnz
  have hg0 := hgt_nn l
  have hgl := hgt_ge l hnz
  have hroom : (foldP l (!du) np).1.length ≤ 200 := hroom
  have L : ∀ p, p ≤ np → 1 ≤ p → ∀ (hh : xH), SH G hh a t b ((foldP l (!du) p).1, ex, wa, fo, du, se, co) → FR a t b h hh → RR G MX8_foldUp 28 [(0, .ref a), (1, .int (iI ((np : Int)))), (2, .int (iI ((l.length : Int)))), (3, .int (iI (sz (lastL l)))), (4, .int (iI ((foldP l (!du) p).2))), (5, .int (iI ((p : Int))))] [] hh (xm_R MX8_foldUp).cells (xm_R MX8_foldUp).slots (fun o h' => o = .inl none ∧ SH G h' a t b (foldS (l, ex, wa, fo, du, se, co) np) ∧ FR a t b h h') := by
    refine down (fun p hp ih => ?_)
    intro hp1 hh hT hF
    have L2 : p < np → ∀ k, k ≤ l.length → ∀ (hh : xH), SH G hh a t b ((putA (foldP l (!du) p).1 ((cpL l p).take k) (!du)).1, ex, wa, fo, du, se, co) → FR a t b h hh → RR G MX8_foldUp 52 [(0, .ref a), (1, .int (iI ((np : Int)))), (2, .int (iI ((l.length : Int)))), (3, .int (iI (sz (lastL l)))), (4, .int (iI ((foldP l (!du) p).2 + (putA (foldP l (!du) p).1 ((cpL l p).take k) (!du)).2))), (5, .int (iI ((p : Int)))), (6, .int (iI (b2 (decide (p % 2 = 1))))), (7, .int (iI ((k : Int))))] [] hh (xm_R MX8_foldUp).cells (xm_R MX8_foldUp).slots (fun o h' => o = .inl none ∧ SH G h' a t b (foldS (l, ex, wa, fo, du, se, co) np) ∧ FR a t b h h') := by
      intro hpn
      refine down (fun k hk ih2 => ?_)
      intro hh hT hF
      have hT0 := hT
      obtain ⟨gt9, gb9, ⟨ma9, mt9, mb9⟩, -, fa9, ft9, fb9, hl9, hr9⟩ := hT
      have fa9 : hh.2 a = .inr (5, [.ref t, .ref b, .int (iI (((putA (foldP l (!du) p).1 ((cpL l p).take k) (!du)).1).length : Int)), .int (iI ex), .int fo, .int (iI wa), .int (iI (b2 du)), .int (iI (b2 se)), .int (iI (b2 co))]) := fa9
      have hl9 : ((putA (foldP l (!du) p).1 ((cpL l p).take k) (!du)).1).length ≤ 200 := hl9
      have hr9 : sr gt9 gb9 ((putA (foldP l (!du) p).1 ((cpL l p).take k) (!du)).1) := hr9
      obtain ⟨hP1, hP2, hP3, hP4, hP5, hP6, hP7⟩ := foldP_ok (l := l) (m := !du) h1 (p - 1)
      rw [show p - 1 + 1 = p by omega] at hP1 hP2 hP3 hP4 hP5 hP6 hP7
      have hpl := putA_len_ge (foldP l (!du) p).1 ((cpL l p).take k) (!du)
      refine r_iload dX8_foldUp_52 7 rfl ?_
      refine r_iload_n dX8_foldUp_54 2 rfl ?_
      refine i_icmpge dX8_foldUp_55 (tgt := 139) (by decide) (by unfold in32; omega) (by unfold in32; omega) (fun c55 => ?_) (fun c55 => ?_)
      · refine i_iinc (ls' := [(0, .ref a), (1, .int (iI ((np : Int)))), (2, .int (iI ((l.length : Int)))), (3, .int (iI (sz (lastL l)))), (4, .int (iI ((foldP l (!du) p).2 + (putA (foldP l (!du) p).1 ((cpL l p).take k) (!du)).2))), (5, .int (iI ((p : Int) + 1))), (6, .int (iI (b2 (decide (p % 2 = 1))))), (7, .int (iI ((k : Int))))]) (1) (v := (p : Int) + 1) dX8_foldUp_139 5 rfl (by omega) (by decide) rfl ?_
        refine r_goto dX8_foldUp_142 (tgt := 28) (by decide) ?_
        have ek : (cpL l p).take k = cpL l p := List.take_of_length_le (by rw [cpL_len]; omega)
        rw [ek]
        have hT1 := hT0
        rw [ek] at hT1
        have q := ih (p + 1) (by omega) (by omega) (by omega) hh hT1 hF
        exact rr_take 6 rfl q
      · refine r_iload dX8_foldUp_58 6 rfl ?_
        refine i_ifeqb dX8_foldUp_60 (tgt := 72) (by decide) (fun c60 => ?_) (fun c60 => ?_)
        · refine r_iload dX8_foldUp_72 7 rfl ?_
          refine r_istore (ls' := [(0, .ref a), (1, .int (iI ((np : Int)))), (2, .int (iI ((l.length : Int)))), (3, .int (iI (sz (lastL l)))), (4, .int (iI ((foldP l (!du) p).2 + (putA (foldP l (!du) p).1 ((cpL l p).take k) (!du)).2))), (5, .int (iI ((p : Int)))), (6, .int (iI (b2 (decide (p % 2 = 1))))), (7, .int (iI ((k : Int)))), (8, .int (iI ((k : Int))))]) dX8_foldUp_74 (by decide) rfl ?_
          refine r_iload dX8_foldUp_76 8 rfl ?_
          refine r_iload_n dX8_foldUp_78 2 rfl ?_
          refine i_const (1) dX8_foldUp_79 ?_
          refine i_sub dX8_foldUp_80 ?_
          refine i_icmpne dX8_foldUp_81 (tgt := 88) (by decide) (by unfold in32; omega) (by unfold in32; omega) (fun c81 => ?_) (fun c81 => ?_)
          · refine r_aload_n dX8_foldUp_88 0 rfl ?_
            refine r_get cl_X8 0 (by decide) kf_X8_9 dX8_foldUp_89 ma9 fa9 rfl ?_
            refine r_iload dX8_foldUp_92 8 rfl ?_
            refine i_iald k (by omega) dX8_foldUp_94 mt9 ft9 (by omega) (by decide) (hr9 k (by omega)).1 ?_
            refine r_istore (ls' := [(0, .ref a), (1, .int (iI ((np : Int)))), (2, .int (iI ((l.length : Int)))), (3, .int (iI (sz (lastL l)))), (4, .int (iI ((foldP l (!du) p).2 + (putA (foldP l (!du) p).1 ((cpL l p).take k) (!du)).2))), (5, .int (iI ((p : Int)))), (6, .int (iI (b2 (decide (p % 2 = 1))))), (7, .int (iI ((k : Int)))), (8, .int (iI ((k : Int)))), (9, .int (iI (sz (((putA (foldP l (!du) p).1 ((cpL l p).take k) (!du)).1).getD k 0))))]) dX8_foldUp_95 (by decide) rfl ?_
            refine r_aload_n dX8_foldUp_97 0 rfl ?_
            refine r_aload_n dX8_foldUp_98 0 rfl ?_
            refine r_get cl_X8 1 (by decide) kf_X8_15 dX8_foldUp_99 ma9 fa9 rfl ?_
            refine r_iload dX8_foldUp_102 8 rfl ?_
            refine i_zald k (by omega) dX8_foldUp_104 mb9 fb9 (by omega) (by decide) (hr9 k (by omega)).2 ?_
            refine r_iload dX8_foldUp_105 9 rfl ?_
            refine r_iload dX8_foldUp_107 7 rfl ?_
            refine i_ifgt dX8_foldUp_109 (tgt := 119) (by decide) (by unfold in32; omega) (fun c109 => ?_) (fun c109 => ?_)
            · refine i_const (1) dX8_foldUp_119 ?_
              refine r_goto dX8_foldUp_120 (tgt := 124) (by decide) ?_
              have hk9 : k < (cpL l p).length := by rw [cpL_len]; omega
              have ed : (cpL l p).getD k 0 = l.getD k 0 := by unfold cpL; rw [if_pos (by simp at c60; omega)]
              have e1 : isB ((putA (foldP l (!du) p).1 ((cpL l p).take k) (!du)).1.getD k 0) = isB ((cpL l p).getD k 0) := by rw [ed, putA_preB (by omega), hP7 _ (by omega)]
              have e2 : sz ((putA (foldP l (!du) p).1 ((cpL l p).take k) (!du)).1.getD k 0) = sz ((cpL l p).getD k 0) := by rw [ed, putA_pre (by omega), hP6 _ (by omega)]
              have em : (!du && decide (k = 0)) = (!true) := by rw [decide_eq_false (show ¬ k = 0 by omega)]; simp
              have es := putA_s (acc := (foldP l (!du) p).1) (xs := cpL l p) (m := !du) hk9
              rw [em] at es
              have er : (putN (putA (foldP l (!du) p).1 ((cpL l p).take k) (!du)).1 ((cpL l p).getD k 0) (!true)).1.length ≤ 200 := by
                have z := putA_tk (foldP l (!du) p).1 (cpL l p) (!du) (k + 1)
                rw [es] at z
                exact Nat.le_trans z (Nat.le_trans (foldP_mono l (!du) (show p + 1 ≤ np by omega)) hroom)
              have cP := c_X8_putLayer (x := (cpL l p).getD k 0) (ap := true) hT0 (putN_room2 er)
              rw [← e1, ← e2] at cP
              refine p_callV (As := [.int (iI (b2 (isB (((putA (foldP l (!du) p).1 ((cpL l p).take k) (!du)).1).getD k 0)))), .int (iI (sz (((putA (foldP l (!du) p).1 ((cpL l p).take k) (!du)).1).getD k 0))), .int (iI 1)]) (b := a) (rest := []) (w := (some (.int (iI (b2 (putN (putA (foldP l (!du) p).1 ((cpL l p).take k) (!du)).1 ((cpL l p).getD k 0) (!true)).2))))) (st' := [.int (iI (b2 (putN (putA (foldP l (!du) p).1 ((cpL l p).take k) (!du)).1 ((cpL l p).getD k 0) (!true)).2))]) kv_X8_foldUp_42 dX8_foldUp_124 rfl rfl (Nat.le_of_ble_eq_true rfl) (Nat.le_of_ble_eq_true rfl) (x_rv ma9 fa9 rfl) rfl rfl (cP) rfl (fun h9 e9 => ?_)
              obtain ⟨hS9, hF9⟩ := e9
              refine i_ifeqb dX8_foldUp_127 (tgt := 133) (by decide) (fun c127 => ?_) (fun c127 => ?_)
              · refine i_iinc (ls' := [(0, .ref a), (1, .int (iI ((np : Int)))), (2, .int (iI ((l.length : Int)))), (3, .int (iI (sz (lastL l)))), (4, .int (iI ((foldP l (!du) p).2 + (putA (foldP l (!du) p).1 ((cpL l p).take k) (!du)).2))), (5, .int (iI ((p : Int)))), (6, .int (iI (b2 (decide (p % 2 = 1))))), (7, .int (iI ((k : Int) + 1))), (8, .int (iI ((k : Int)))), (9, .int (iI (sz (((putA (foldP l (!du) p).1 ((cpL l p).take k) (!du)).1).getD k 0))))]) (1) (v := (k : Int) + 1) dX8_foldUp_133 7 rfl (by omega) (by decide) rfl ?_
                refine r_goto dX8_foldUp_136 (tgt := 52) (by decide) ?_
                have q := ih2 (k + 1) (by omega) (by omega) h9 (by rw [es]; exact hS9) (FR.tr hF hF9)
                rw [show (foldP l (!du) p).2 + (putA (foldP l (!du) p).1 ((cpL l p).take (k + 1)) (!du)).2 = (foldP l (!du) p).2 + (putA (foldP l (!du) p).1 ((cpL l p).take k) (!du)).2 by rw [es]; show _ + (_ + b2 (putN _ _ _).2) = _; rw [c127]; exact congrArg _ (Int.add_zero _)] at q
                exact rr_take 8 rfl q
              · refine i_iinc (ls' := [(0, .ref a), (1, .int (iI ((np : Int)))), (2, .int (iI ((l.length : Int)))), (3, .int (iI (sz (lastL l)))), (4, .int (iI (((foldP l (!du) p).2 + (putA (foldP l (!du) p).1 ((cpL l p).take k) (!du)).2) + 1))), (5, .int (iI ((p : Int)))), (6, .int (iI (b2 (decide (p % 2 = 1))))), (7, .int (iI ((k : Int)))), (8, .int (iI ((k : Int)))), (9, .int (iI (sz (((putA (foldP l (!du) p).1 ((cpL l p).take k) (!du)).1).getD k 0))))]) (1) (v := ((foldP l (!du) p).2 + (putA (foldP l (!du) p).1 ((cpL l p).take k) (!du)).2) + 1) dX8_foldUp_130 4 rfl (by omega) (by decide) rfl ?_
                refine i_iinc (ls' := [(0, .ref a), (1, .int (iI ((np : Int)))), (2, .int (iI ((l.length : Int)))), (3, .int (iI (sz (lastL l)))), (4, .int (iI (((foldP l (!du) p).2 + (putA (foldP l (!du) p).1 ((cpL l p).take k) (!du)).2) + 1))), (5, .int (iI ((p : Int)))), (6, .int (iI (b2 (decide (p % 2 = 1))))), (7, .int (iI ((k : Int) + 1))), (8, .int (iI ((k : Int)))), (9, .int (iI (sz (((putA (foldP l (!du) p).1 ((cpL l p).take k) (!du)).1).getD k 0))))]) (1) (v := (k : Int) + 1) dX8_foldUp_133 7 rfl (by omega) (by decide) rfl ?_
                refine r_goto dX8_foldUp_136 (tgt := 52) (by decide) ?_
                have q := ih2 (k + 1) (by omega) (by omega) h9 (by rw [es]; exact hS9) (FR.tr hF hF9)
                rw [show (foldP l (!du) p).2 + (putA (foldP l (!du) p).1 ((cpL l p).take (k + 1)) (!du)).2 = ((foldP l (!du) p).2 + (putA (foldP l (!du) p).1 ((cpL l p).take k) (!du)).2) + 1 by rw [es]; show _ + (_ + b2 (putN _ _ _).2) = _; rw [c127]; exact (Int.add_assoc _ _ _).symm] at q
                exact rr_take 8 rfl q
            · refine r_aload_n dX8_foldUp_112 0 rfl ?_
              refine r_get cl_X8 6 (by decide) kf_X8_32 dX8_foldUp_113 ma9 fa9 rfl ?_
              refine i_ifeqb dX8_foldUp_116 (tgt := 123) (by decide) (fun c116 => ?_) (fun c116 => ?_)
              · refine i_const (0) dX8_foldUp_123 ?_
                have hk9 : k < (cpL l p).length := by rw [cpL_len]; omega
                have ed : (cpL l p).getD k 0 = l.getD k 0 := by unfold cpL; rw [if_pos (by simp at c60; omega)]
                have e1 : isB ((putA (foldP l (!du) p).1 ((cpL l p).take k) (!du)).1.getD k 0) = isB ((cpL l p).getD k 0) := by rw [ed, putA_preB (by omega), hP7 _ (by omega)]
                have e2 : sz ((putA (foldP l (!du) p).1 ((cpL l p).take k) (!du)).1.getD k 0) = sz ((cpL l p).getD k 0) := by rw [ed, putA_pre (by omega), hP6 _ (by omega)]
                have em : (!du && decide (k = 0)) = (!false) := by rw [c116]; simp; omega
                have es := putA_s (acc := (foldP l (!du) p).1) (xs := cpL l p) (m := !du) hk9
                rw [em] at es
                have er : (putN (putA (foldP l (!du) p).1 ((cpL l p).take k) (!du)).1 ((cpL l p).getD k 0) (!false)).1.length ≤ 200 := by
                  have z := putA_tk (foldP l (!du) p).1 (cpL l p) (!du) (k + 1)
                  rw [es] at z
                  exact Nat.le_trans z (Nat.le_trans (foldP_mono l (!du) (show p + 1 ≤ np by omega)) hroom)
                have cP := c_X8_putLayer (x := (cpL l p).getD k 0) (ap := false) hT0 (putN_room2 er)
                rw [← e1, ← e2] at cP
                refine p_callV (As := [.int (iI (b2 (isB (((putA (foldP l (!du) p).1 ((cpL l p).take k) (!du)).1).getD k 0)))), .int (iI (sz (((putA (foldP l (!du) p).1 ((cpL l p).take k) (!du)).1).getD k 0))), .int (iI 0)]) (b := a) (rest := []) (w := (some (.int (iI (b2 (putN (putA (foldP l (!du) p).1 ((cpL l p).take k) (!du)).1 ((cpL l p).getD k 0) (!false)).2))))) (st' := [.int (iI (b2 (putN (putA (foldP l (!du) p).1 ((cpL l p).take k) (!du)).1 ((cpL l p).getD k 0) (!false)).2))]) kv_X8_foldUp_42 dX8_foldUp_124 rfl rfl (Nat.le_of_ble_eq_true rfl) (Nat.le_of_ble_eq_true rfl) (x_rv ma9 fa9 rfl) rfl rfl (cP) rfl (fun h9 e9 => ?_)
                obtain ⟨hS9, hF9⟩ := e9
                refine i_ifeqb dX8_foldUp_127 (tgt := 133) (by decide) (fun c127 => ?_) (fun c127 => ?_)
                · refine i_iinc (ls' := [(0, .ref a), (1, .int (iI ((np : Int)))), (2, .int (iI ((l.length : Int)))), (3, .int (iI (sz (lastL l)))), (4, .int (iI ((foldP l (!du) p).2 + (putA (foldP l (!du) p).1 ((cpL l p).take k) (!du)).2))), (5, .int (iI ((p : Int)))), (6, .int (iI (b2 (decide (p % 2 = 1))))), (7, .int (iI ((k : Int) + 1))), (8, .int (iI ((k : Int)))), (9, .int (iI (sz (((putA (foldP l (!du) p).1 ((cpL l p).take k) (!du)).1).getD k 0))))]) (1) (v := (k : Int) + 1) dX8_foldUp_133 7 rfl (by omega) (by decide) rfl ?_
                  refine r_goto dX8_foldUp_136 (tgt := 52) (by decide) ?_
                  have q := ih2 (k + 1) (by omega) (by omega) h9 (by rw [es]; exact hS9) (FR.tr hF hF9)
                  rw [show (foldP l (!du) p).2 + (putA (foldP l (!du) p).1 ((cpL l p).take (k + 1)) (!du)).2 = (foldP l (!du) p).2 + (putA (foldP l (!du) p).1 ((cpL l p).take k) (!du)).2 by rw [es]; show _ + (_ + b2 (putN _ _ _).2) = _; rw [c127]; exact congrArg _ (Int.add_zero _)] at q
                  exact rr_take 8 rfl q
                · refine i_iinc (ls' := [(0, .ref a), (1, .int (iI ((np : Int)))), (2, .int (iI ((l.length : Int)))), (3, .int (iI (sz (lastL l)))), (4, .int (iI (((foldP l (!du) p).2 + (putA (foldP l (!du) p).1 ((cpL l p).take k) (!du)).2) + 1))), (5, .int (iI ((p : Int)))), (6, .int (iI (b2 (decide (p % 2 = 1))))), (7, .int (iI ((k : Int)))), (8, .int (iI ((k : Int)))), (9, .int (iI (sz (((putA (foldP l (!du) p).1 ((cpL l p).take k) (!du)).1).getD k 0))))]) (1) (v := ((foldP l (!du) p).2 + (putA (foldP l (!du) p).1 ((cpL l p).take k) (!du)).2) + 1) dX8_foldUp_130 4 rfl (by omega) (by decide) rfl ?_
                  refine i_iinc (ls' := [(0, .ref a), (1, .int (iI ((np : Int)))), (2, .int (iI ((l.length : Int)))), (3, .int (iI (sz (lastL l)))), (4, .int (iI (((foldP l (!du) p).2 + (putA (foldP l (!du) p).1 ((cpL l p).take k) (!du)).2) + 1))), (5, .int (iI ((p : Int)))), (6, .int (iI (b2 (decide (p % 2 = 1))))), (7, .int (iI ((k : Int) + 1))), (8, .int (iI ((k : Int)))), (9, .int (iI (sz (((putA (foldP l (!du) p).1 ((cpL l p).take k) (!du)).1).getD k 0))))]) (1) (v := (k : Int) + 1) dX8_foldUp_133 7 rfl (by omega) (by decide) rfl ?_
                  refine r_goto dX8_foldUp_136 (tgt := 52) (by decide) ?_
                  have q := ih2 (k + 1) (by omega) (by omega) h9 (by rw [es]; exact hS9) (FR.tr hF hF9)
                  rw [show (foldP l (!du) p).2 + (putA (foldP l (!du) p).1 ((cpL l p).take (k + 1)) (!du)).2 = ((foldP l (!du) p).2 + (putA (foldP l (!du) p).1 ((cpL l p).take k) (!du)).2) + 1 by rw [es]; show _ + (_ + b2 (putN _ _ _).2) = _; rw [c127]; exact (Int.add_assoc _ _ _).symm] at q
                  exact rr_take 8 rfl q
              · refine i_const (1) dX8_foldUp_119 ?_
                refine r_goto dX8_foldUp_120 (tgt := 124) (by decide) ?_
                have hk9 : k < (cpL l p).length := by rw [cpL_len]; omega
                have ed : (cpL l p).getD k 0 = l.getD k 0 := by unfold cpL; rw [if_pos (by simp at c60; omega)]
                have e1 : isB ((putA (foldP l (!du) p).1 ((cpL l p).take k) (!du)).1.getD k 0) = isB ((cpL l p).getD k 0) := by rw [ed, putA_preB (by omega), hP7 _ (by omega)]
                have e2 : sz ((putA (foldP l (!du) p).1 ((cpL l p).take k) (!du)).1.getD k 0) = sz ((cpL l p).getD k 0) := by rw [ed, putA_pre (by omega), hP6 _ (by omega)]
                have em : (!du && decide (k = 0)) = (!true) := by rw [c116]; simp
                have es := putA_s (acc := (foldP l (!du) p).1) (xs := cpL l p) (m := !du) hk9
                rw [em] at es
                have er : (putN (putA (foldP l (!du) p).1 ((cpL l p).take k) (!du)).1 ((cpL l p).getD k 0) (!true)).1.length ≤ 200 := by
                  have z := putA_tk (foldP l (!du) p).1 (cpL l p) (!du) (k + 1)
                  rw [es] at z
                  exact Nat.le_trans z (Nat.le_trans (foldP_mono l (!du) (show p + 1 ≤ np by omega)) hroom)
                have cP := c_X8_putLayer (x := (cpL l p).getD k 0) (ap := true) hT0 (putN_room2 er)
                rw [← e1, ← e2] at cP
                refine p_callV (As := [.int (iI (b2 (isB (((putA (foldP l (!du) p).1 ((cpL l p).take k) (!du)).1).getD k 0)))), .int (iI (sz (((putA (foldP l (!du) p).1 ((cpL l p).take k) (!du)).1).getD k 0))), .int (iI 1)]) (b := a) (rest := []) (w := (some (.int (iI (b2 (putN (putA (foldP l (!du) p).1 ((cpL l p).take k) (!du)).1 ((cpL l p).getD k 0) (!true)).2))))) (st' := [.int (iI (b2 (putN (putA (foldP l (!du) p).1 ((cpL l p).take k) (!du)).1 ((cpL l p).getD k 0) (!true)).2))]) kv_X8_foldUp_42 dX8_foldUp_124 rfl rfl (Nat.le_of_ble_eq_true rfl) (Nat.le_of_ble_eq_true rfl) (x_rv ma9 fa9 rfl) rfl rfl (cP) rfl (fun h9 e9 => ?_)
                obtain ⟨hS9, hF9⟩ := e9
                refine i_ifeqb dX8_foldUp_127 (tgt := 133) (by decide) (fun c127 => ?_) (fun c127 => ?_)
                · refine i_iinc (ls' := [(0, .ref a), (1, .int (iI ((np : Int)))), (2, .int (iI ((l.length : Int)))), (3, .int (iI (sz (lastL l)))), (4, .int (iI ((foldP l (!du) p).2 + (putA (foldP l (!du) p).1 ((cpL l p).take k) (!du)).2))), (5, .int (iI ((p : Int)))), (6, .int (iI (b2 (decide (p % 2 = 1))))), (7, .int (iI ((k : Int) + 1))), (8, .int (iI ((k : Int)))), (9, .int (iI (sz (((putA (foldP l (!du) p).1 ((cpL l p).take k) (!du)).1).getD k 0))))]) (1) (v := (k : Int) + 1) dX8_foldUp_133 7 rfl (by omega) (by decide) rfl ?_
                  refine r_goto dX8_foldUp_136 (tgt := 52) (by decide) ?_
                  have q := ih2 (k + 1) (by omega) (by omega) h9 (by rw [es]; exact hS9) (FR.tr hF hF9)
                  rw [show (foldP l (!du) p).2 + (putA (foldP l (!du) p).1 ((cpL l p).take (k + 1)) (!du)).2 = (foldP l (!du) p).2 + (putA (foldP l (!du) p).1 ((cpL l p).take k) (!du)).2 by rw [es]; show _ + (_ + b2 (putN _ _ _).2) = _; rw [c127]; exact congrArg _ (Int.add_zero _)] at q
                  exact rr_take 8 rfl q
                · refine i_iinc (ls' := [(0, .ref a), (1, .int (iI ((np : Int)))), (2, .int (iI ((l.length : Int)))), (3, .int (iI (sz (lastL l)))), (4, .int (iI (((foldP l (!du) p).2 + (putA (foldP l (!du) p).1 ((cpL l p).take k) (!du)).2) + 1))), (5, .int (iI ((p : Int)))), (6, .int (iI (b2 (decide (p % 2 = 1))))), (7, .int (iI ((k : Int)))), (8, .int (iI ((k : Int)))), (9, .int (iI (sz (((putA (foldP l (!du) p).1 ((cpL l p).take k) (!du)).1).getD k 0))))]) (1) (v := ((foldP l (!du) p).2 + (putA (foldP l (!du) p).1 ((cpL l p).take k) (!du)).2) + 1) dX8_foldUp_130 4 rfl (by omega) (by decide) rfl ?_
                  refine i_iinc (ls' := [(0, .ref a), (1, .int (iI ((np : Int)))), (2, .int (iI ((l.length : Int)))), (3, .int (iI (sz (lastL l)))), (4, .int (iI (((foldP l (!du) p).2 + (putA (foldP l (!du) p).1 ((cpL l p).take k) (!du)).2) + 1))), (5, .int (iI ((p : Int)))), (6, .int (iI (b2 (decide (p % 2 = 1))))), (7, .int (iI ((k : Int) + 1))), (8, .int (iI ((k : Int)))), (9, .int (iI (sz (((putA (foldP l (!du) p).1 ((cpL l p).take k) (!du)).1).getD k 0))))]) (1) (v := (k : Int) + 1) dX8_foldUp_133 7 rfl (by omega) (by decide) rfl ?_
                  refine r_goto dX8_foldUp_136 (tgt := 52) (by decide) ?_
                  have q := ih2 (k + 1) (by omega) (by omega) h9 (by rw [es]; exact hS9) (FR.tr hF hF9)
                  rw [show (foldP l (!du) p).2 + (putA (foldP l (!du) p).1 ((cpL l p).take (k + 1)) (!du)).2 = ((foldP l (!du) p).2 + (putA (foldP l (!du) p).1 ((cpL l p).take k) (!du)).2) + 1 by rw [es]; show _ + (_ + b2 (putN _ _ _).2) = _; rw [c127]; exact (Int.add_assoc _ _ _).symm] at q
                  exact rr_take 8 rfl q
          · refine r_iload_n dX8_foldUp_84 3 rfl ?_
            refine r_goto dX8_foldUp_85 (tgt := 95) (by decide) ?_
            refine r_istore (ls' := [(0, .ref a), (1, .int (iI ((np : Int)))), (2, .int (iI ((l.length : Int)))), (3, .int (iI (sz (lastL l)))), (4, .int (iI ((foldP l (!du) p).2 + (putA (foldP l (!du) p).1 ((cpL l p).take k) (!du)).2))), (5, .int (iI ((p : Int)))), (6, .int (iI (b2 (decide (p % 2 = 1))))), (7, .int (iI ((k : Int)))), (8, .int (iI ((k : Int)))), (9, .int (iI (sz (lastL l))))]) dX8_foldUp_95 (by decide) rfl ?_
            refine r_aload_n dX8_foldUp_97 0 rfl ?_
            refine r_aload_n dX8_foldUp_98 0 rfl ?_
            refine r_get cl_X8 1 (by decide) kf_X8_15 dX8_foldUp_99 ma9 fa9 rfl ?_
            refine r_iload dX8_foldUp_102 8 rfl ?_
            refine i_zald k (by omega) dX8_foldUp_104 mb9 fb9 (by omega) (by decide) (hr9 k (by omega)).2 ?_
            refine r_iload dX8_foldUp_105 9 rfl ?_
            refine r_iload dX8_foldUp_107 7 rfl ?_
            refine i_ifgt dX8_foldUp_109 (tgt := 119) (by decide) (by unfold in32; omega) (fun c109 => ?_) (fun c109 => ?_)
            · refine i_const (1) dX8_foldUp_119 ?_
              refine r_goto dX8_foldUp_120 (tgt := 124) (by decide) ?_
              have hk9 : k < (cpL l p).length := by rw [cpL_len]; omega
              have ed : (cpL l p).getD k 0 = l.getD k 0 := by unfold cpL; rw [if_pos (by simp at c60; omega)]
              have e1 : isB ((putA (foldP l (!du) p).1 ((cpL l p).take k) (!du)).1.getD k 0) = isB ((cpL l p).getD k 0) := by rw [ed, putA_preB (by omega), hP7 _ (by omega)]
              have e2 : sz (lastL l) = sz ((cpL l p).getD k 0) := by rw [ed, show k = l.length - 1 by omega]; rfl
              have em : (!du && decide (k = 0)) = (!true) := by rw [decide_eq_false (show ¬ k = 0 by omega)]; simp
              have es := putA_s (acc := (foldP l (!du) p).1) (xs := cpL l p) (m := !du) hk9
              rw [em] at es
              have er : (putN (putA (foldP l (!du) p).1 ((cpL l p).take k) (!du)).1 ((cpL l p).getD k 0) (!true)).1.length ≤ 200 := by
                have z := putA_tk (foldP l (!du) p).1 (cpL l p) (!du) (k + 1)
                rw [es] at z
                exact Nat.le_trans z (Nat.le_trans (foldP_mono l (!du) (show p + 1 ≤ np by omega)) hroom)
              have cP := c_X8_putLayer (x := (cpL l p).getD k 0) (ap := true) hT0 (putN_room2 er)
              rw [← e1, ← e2] at cP
              refine p_callV (As := [.int (iI (b2 (isB (((putA (foldP l (!du) p).1 ((cpL l p).take k) (!du)).1).getD k 0)))), .int (iI (sz (lastL l))), .int (iI 1)]) (b := a) (rest := []) (w := (some (.int (iI (b2 (putN (putA (foldP l (!du) p).1 ((cpL l p).take k) (!du)).1 ((cpL l p).getD k 0) (!true)).2))))) (st' := [.int (iI (b2 (putN (putA (foldP l (!du) p).1 ((cpL l p).take k) (!du)).1 ((cpL l p).getD k 0) (!true)).2))]) kv_X8_foldUp_42 dX8_foldUp_124 rfl rfl (Nat.le_of_ble_eq_true rfl) (Nat.le_of_ble_eq_true rfl) (x_rv ma9 fa9 rfl) rfl rfl (cP) rfl (fun h9 e9 => ?_)
              obtain ⟨hS9, hF9⟩ := e9
              refine i_ifeqb dX8_foldUp_127 (tgt := 133) (by decide) (fun c127 => ?_) (fun c127 => ?_)
              · refine i_iinc (ls' := [(0, .ref a), (1, .int (iI ((np : Int)))), (2, .int (iI ((l.length : Int)))), (3, .int (iI (sz (lastL l)))), (4, .int (iI ((foldP l (!du) p).2 + (putA (foldP l (!du) p).1 ((cpL l p).take k) (!du)).2))), (5, .int (iI ((p : Int)))), (6, .int (iI (b2 (decide (p % 2 = 1))))), (7, .int (iI ((k : Int) + 1))), (8, .int (iI ((k : Int)))), (9, .int (iI (sz (lastL l))))]) (1) (v := (k : Int) + 1) dX8_foldUp_133 7 rfl (by omega) (by decide) rfl ?_
                refine r_goto dX8_foldUp_136 (tgt := 52) (by decide) ?_
                have q := ih2 (k + 1) (by omega) (by omega) h9 (by rw [es]; exact hS9) (FR.tr hF hF9)
                rw [show (foldP l (!du) p).2 + (putA (foldP l (!du) p).1 ((cpL l p).take (k + 1)) (!du)).2 = (foldP l (!du) p).2 + (putA (foldP l (!du) p).1 ((cpL l p).take k) (!du)).2 by rw [es]; show _ + (_ + b2 (putN _ _ _).2) = _; rw [c127]; exact congrArg _ (Int.add_zero _)] at q
                exact rr_take 8 rfl q
              · refine i_iinc (ls' := [(0, .ref a), (1, .int (iI ((np : Int)))), (2, .int (iI ((l.length : Int)))), (3, .int (iI (sz (lastL l)))), (4, .int (iI (((foldP l (!du) p).2 + (putA (foldP l (!du) p).1 ((cpL l p).take k) (!du)).2) + 1))), (5, .int (iI ((p : Int)))), (6, .int (iI (b2 (decide (p % 2 = 1))))), (7, .int (iI ((k : Int)))), (8, .int (iI ((k : Int)))), (9, .int (iI (sz (lastL l))))]) (1) (v := ((foldP l (!du) p).2 + (putA (foldP l (!du) p).1 ((cpL l p).take k) (!du)).2) + 1) dX8_foldUp_130 4 rfl (by omega) (by decide) rfl ?_
                refine i_iinc (ls' := [(0, .ref a), (1, .int (iI ((np : Int)))), (2, .int (iI ((l.length : Int)))), (3, .int (iI (sz (lastL l)))), (4, .int (iI (((foldP l (!du) p).2 + (putA (foldP l (!du) p).1 ((cpL l p).take k) (!du)).2) + 1))), (5, .int (iI ((p : Int)))), (6, .int (iI (b2 (decide (p % 2 = 1))))), (7, .int (iI ((k : Int) + 1))), (8, .int (iI ((k : Int)))), (9, .int (iI (sz (lastL l))))]) (1) (v := (k : Int) + 1) dX8_foldUp_133 7 rfl (by omega) (by decide) rfl ?_
                refine r_goto dX8_foldUp_136 (tgt := 52) (by decide) ?_
                have q := ih2 (k + 1) (by omega) (by omega) h9 (by rw [es]; exact hS9) (FR.tr hF hF9)
                rw [show (foldP l (!du) p).2 + (putA (foldP l (!du) p).1 ((cpL l p).take (k + 1)) (!du)).2 = ((foldP l (!du) p).2 + (putA (foldP l (!du) p).1 ((cpL l p).take k) (!du)).2) + 1 by rw [es]; show _ + (_ + b2 (putN _ _ _).2) = _; rw [c127]; exact (Int.add_assoc _ _ _).symm] at q
                exact rr_take 8 rfl q
            · refine r_aload_n dX8_foldUp_112 0 rfl ?_
              refine r_get cl_X8 6 (by decide) kf_X8_32 dX8_foldUp_113 ma9 fa9 rfl ?_
              refine i_ifeqb dX8_foldUp_116 (tgt := 123) (by decide) (fun c116 => ?_) (fun c116 => ?_)
              · refine i_const (0) dX8_foldUp_123 ?_
                have hk9 : k < (cpL l p).length := by rw [cpL_len]; omega
                have ed : (cpL l p).getD k 0 = l.getD k 0 := by unfold cpL; rw [if_pos (by simp at c60; omega)]
                have e1 : isB ((putA (foldP l (!du) p).1 ((cpL l p).take k) (!du)).1.getD k 0) = isB ((cpL l p).getD k 0) := by rw [ed, putA_preB (by omega), hP7 _ (by omega)]
                have e2 : sz (lastL l) = sz ((cpL l p).getD k 0) := by rw [ed, show k = l.length - 1 by omega]; rfl
                have em : (!du && decide (k = 0)) = (!false) := by rw [c116]; simp; omega
                have es := putA_s (acc := (foldP l (!du) p).1) (xs := cpL l p) (m := !du) hk9
                rw [em] at es
                have er : (putN (putA (foldP l (!du) p).1 ((cpL l p).take k) (!du)).1 ((cpL l p).getD k 0) (!false)).1.length ≤ 200 := by
                  have z := putA_tk (foldP l (!du) p).1 (cpL l p) (!du) (k + 1)
                  rw [es] at z
                  exact Nat.le_trans z (Nat.le_trans (foldP_mono l (!du) (show p + 1 ≤ np by omega)) hroom)
                have cP := c_X8_putLayer (x := (cpL l p).getD k 0) (ap := false) hT0 (putN_room2 er)
                rw [← e1, ← e2] at cP
                refine p_callV (As := [.int (iI (b2 (isB (((putA (foldP l (!du) p).1 ((cpL l p).take k) (!du)).1).getD k 0)))), .int (iI (sz (lastL l))), .int (iI 0)]) (b := a) (rest := []) (w := (some (.int (iI (b2 (putN (putA (foldP l (!du) p).1 ((cpL l p).take k) (!du)).1 ((cpL l p).getD k 0) (!false)).2))))) (st' := [.int (iI (b2 (putN (putA (foldP l (!du) p).1 ((cpL l p).take k) (!du)).1 ((cpL l p).getD k 0) (!false)).2))]) kv_X8_foldUp_42 dX8_foldUp_124 rfl rfl (Nat.le_of_ble_eq_true rfl) (Nat.le_of_ble_eq_true rfl) (x_rv ma9 fa9 rfl) rfl rfl (cP) rfl (fun h9 e9 => ?_)
                obtain ⟨hS9, hF9⟩ := e9
                refine i_ifeqb dX8_foldUp_127 (tgt := 133) (by decide) (fun c127 => ?_) (fun c127 => ?_)
                · refine i_iinc (ls' := [(0, .ref a), (1, .int (iI ((np : Int)))), (2, .int (iI ((l.length : Int)))), (3, .int (iI (sz (lastL l)))), (4, .int (iI ((foldP l (!du) p).2 + (putA (foldP l (!du) p).1 ((cpL l p).take k) (!du)).2))), (5, .int (iI ((p : Int)))), (6, .int (iI (b2 (decide (p % 2 = 1))))), (7, .int (iI ((k : Int) + 1))), (8, .int (iI ((k : Int)))), (9, .int (iI (sz (lastL l))))]) (1) (v := (k : Int) + 1) dX8_foldUp_133 7 rfl (by omega) (by decide) rfl ?_
                  refine r_goto dX8_foldUp_136 (tgt := 52) (by decide) ?_
                  have q := ih2 (k + 1) (by omega) (by omega) h9 (by rw [es]; exact hS9) (FR.tr hF hF9)
                  rw [show (foldP l (!du) p).2 + (putA (foldP l (!du) p).1 ((cpL l p).take (k + 1)) (!du)).2 = (foldP l (!du) p).2 + (putA (foldP l (!du) p).1 ((cpL l p).take k) (!du)).2 by rw [es]; show _ + (_ + b2 (putN _ _ _).2) = _; rw [c127]; exact congrArg _ (Int.add_zero _)] at q
                  exact rr_take 8 rfl q
                · refine i_iinc (ls' := [(0, .ref a), (1, .int (iI ((np : Int)))), (2, .int (iI ((l.length : Int)))), (3, .int (iI (sz (lastL l)))), (4, .int (iI (((foldP l (!du) p).2 + (putA (foldP l (!du) p).1 ((cpL l p).take k) (!du)).2) + 1))), (5, .int (iI ((p : Int)))), (6, .int (iI (b2 (decide (p % 2 = 1))))), (7, .int (iI ((k : Int)))), (8, .int (iI ((k : Int)))), (9, .int (iI (sz (lastL l))))]) (1) (v := ((foldP l (!du) p).2 + (putA (foldP l (!du) p).1 ((cpL l p).take k) (!du)).2) + 1) dX8_foldUp_130 4 rfl (by omega) (by decide) rfl ?_
                  refine i_iinc (ls' := [(0, .ref a), (1, .int (iI ((np : Int)))), (2, .int (iI ((l.length : Int)))), (3, .int (iI (sz (lastL l)))), (4, .int (iI (((foldP l (!du) p).2 + (putA (foldP l (!du) p).1 ((cpL l p).take k) (!du)).2) + 1))), (5, .int (iI ((p : Int)))), (6, .int (iI (b2 (decide (p % 2 = 1))))), (7, .int (iI ((k : Int) + 1))), (8, .int (iI ((k : Int)))), (9, .int (iI (sz (lastL l))))]) (1) (v := (k : Int) + 1) dX8_foldUp_133 7 rfl (by omega) (by decide) rfl ?_
                  refine r_goto dX8_foldUp_136 (tgt := 52) (by decide) ?_
                  have q := ih2 (k + 1) (by omega) (by omega) h9 (by rw [es]; exact hS9) (FR.tr hF hF9)
                  rw [show (foldP l (!du) p).2 + (putA (foldP l (!du) p).1 ((cpL l p).take (k + 1)) (!du)).2 = ((foldP l (!du) p).2 + (putA (foldP l (!du) p).1 ((cpL l p).take k) (!du)).2) + 1 by rw [es]; show _ + (_ + b2 (putN _ _ _).2) = _; rw [c127]; exact (Int.add_assoc _ _ _).symm] at q
                  exact rr_take 8 rfl q
              · refine i_const (1) dX8_foldUp_119 ?_
                refine r_goto dX8_foldUp_120 (tgt := 124) (by decide) ?_
                have hk9 : k < (cpL l p).length := by rw [cpL_len]; omega
                have ed : (cpL l p).getD k 0 = l.getD k 0 := by unfold cpL; rw [if_pos (by simp at c60; omega)]
                have e1 : isB ((putA (foldP l (!du) p).1 ((cpL l p).take k) (!du)).1.getD k 0) = isB ((cpL l p).getD k 0) := by rw [ed, putA_preB (by omega), hP7 _ (by omega)]
                have e2 : sz (lastL l) = sz ((cpL l p).getD k 0) := by rw [ed, show k = l.length - 1 by omega]; rfl
                have em : (!du && decide (k = 0)) = (!true) := by rw [c116]; simp
                have es := putA_s (acc := (foldP l (!du) p).1) (xs := cpL l p) (m := !du) hk9
                rw [em] at es
                have er : (putN (putA (foldP l (!du) p).1 ((cpL l p).take k) (!du)).1 ((cpL l p).getD k 0) (!true)).1.length ≤ 200 := by
                  have z := putA_tk (foldP l (!du) p).1 (cpL l p) (!du) (k + 1)
                  rw [es] at z
                  exact Nat.le_trans z (Nat.le_trans (foldP_mono l (!du) (show p + 1 ≤ np by omega)) hroom)
                have cP := c_X8_putLayer (x := (cpL l p).getD k 0) (ap := true) hT0 (putN_room2 er)
                rw [← e1, ← e2] at cP
                refine p_callV (As := [.int (iI (b2 (isB (((putA (foldP l (!du) p).1 ((cpL l p).take k) (!du)).1).getD k 0)))), .int (iI (sz (lastL l))), .int (iI 1)]) (b := a) (rest := []) (w := (some (.int (iI (b2 (putN (putA (foldP l (!du) p).1 ((cpL l p).take k) (!du)).1 ((cpL l p).getD k 0) (!true)).2))))) (st' := [.int (iI (b2 (putN (putA (foldP l (!du) p).1 ((cpL l p).take k) (!du)).1 ((cpL l p).getD k 0) (!true)).2))]) kv_X8_foldUp_42 dX8_foldUp_124 rfl rfl (Nat.le_of_ble_eq_true rfl) (Nat.le_of_ble_eq_true rfl) (x_rv ma9 fa9 rfl) rfl rfl (cP) rfl (fun h9 e9 => ?_)
                obtain ⟨hS9, hF9⟩ := e9
                refine i_ifeqb dX8_foldUp_127 (tgt := 133) (by decide) (fun c127 => ?_) (fun c127 => ?_)
                · refine i_iinc (ls' := [(0, .ref a), (1, .int (iI ((np : Int)))), (2, .int (iI ((l.length : Int)))), (3, .int (iI (sz (lastL l)))), (4, .int (iI ((foldP l (!du) p).2 + (putA (foldP l (!du) p).1 ((cpL l p).take k) (!du)).2))), (5, .int (iI ((p : Int)))), (6, .int (iI (b2 (decide (p % 2 = 1))))), (7, .int (iI ((k : Int) + 1))), (8, .int (iI ((k : Int)))), (9, .int (iI (sz (lastL l))))]) (1) (v := (k : Int) + 1) dX8_foldUp_133 7 rfl (by omega) (by decide) rfl ?_
                  refine r_goto dX8_foldUp_136 (tgt := 52) (by decide) ?_
                  have q := ih2 (k + 1) (by omega) (by omega) h9 (by rw [es]; exact hS9) (FR.tr hF hF9)
                  rw [show (foldP l (!du) p).2 + (putA (foldP l (!du) p).1 ((cpL l p).take (k + 1)) (!du)).2 = (foldP l (!du) p).2 + (putA (foldP l (!du) p).1 ((cpL l p).take k) (!du)).2 by rw [es]; show _ + (_ + b2 (putN _ _ _).2) = _; rw [c127]; exact congrArg _ (Int.add_zero _)] at q
                  exact rr_take 8 rfl q
                · refine i_iinc (ls' := [(0, .ref a), (1, .int (iI ((np : Int)))), (2, .int (iI ((l.length : Int)))), (3, .int (iI (sz (lastL l)))), (4, .int (iI (((foldP l (!du) p).2 + (putA (foldP l (!du) p).1 ((cpL l p).take k) (!du)).2) + 1))), (5, .int (iI ((p : Int)))), (6, .int (iI (b2 (decide (p % 2 = 1))))), (7, .int (iI ((k : Int)))), (8, .int (iI ((k : Int)))), (9, .int (iI (sz (lastL l))))]) (1) (v := ((foldP l (!du) p).2 + (putA (foldP l (!du) p).1 ((cpL l p).take k) (!du)).2) + 1) dX8_foldUp_130 4 rfl (by omega) (by decide) rfl ?_
                  refine i_iinc (ls' := [(0, .ref a), (1, .int (iI ((np : Int)))), (2, .int (iI ((l.length : Int)))), (3, .int (iI (sz (lastL l)))), (4, .int (iI (((foldP l (!du) p).2 + (putA (foldP l (!du) p).1 ((cpL l p).take k) (!du)).2) + 1))), (5, .int (iI ((p : Int)))), (6, .int (iI (b2 (decide (p % 2 = 1))))), (7, .int (iI ((k : Int) + 1))), (8, .int (iI ((k : Int)))), (9, .int (iI (sz (lastL l))))]) (1) (v := (k : Int) + 1) dX8_foldUp_133 7 rfl (by omega) (by decide) rfl ?_
                  refine r_goto dX8_foldUp_136 (tgt := 52) (by decide) ?_
                  have q := ih2 (k + 1) (by omega) (by omega) h9 (by rw [es]; exact hS9) (FR.tr hF hF9)
                  rw [show (foldP l (!du) p).2 + (putA (foldP l (!du) p).1 ((cpL l p).take (k + 1)) (!du)).2 = ((foldP l (!du) p).2 + (putA (foldP l (!du) p).1 ((cpL l p).take k) (!du)).2) + 1 by rw [es]; show _ + (_ + b2 (putN _ _ _).2) = _; rw [c127]; exact (Int.add_assoc _ _ _).symm] at q
                  exact rr_take 8 rfl q
        · refine r_iload_n dX8_foldUp_63 2 rfl ?_
          refine i_const (1) dX8_foldUp_64 ?_
          refine i_sub dX8_foldUp_65 ?_
          refine r_iload dX8_foldUp_66 7 rfl ?_
          refine i_sub dX8_foldUp_68 ?_
          refine r_goto dX8_foldUp_69 (tgt := 74) (by decide) ?_
          refine r_istore (ls' := [(0, .ref a), (1, .int (iI ((np : Int)))), (2, .int (iI ((l.length : Int)))), (3, .int (iI (sz (lastL l)))), (4, .int (iI ((foldP l (!du) p).2 + (putA (foldP l (!du) p).1 ((cpL l p).take k) (!du)).2))), (5, .int (iI ((p : Int)))), (6, .int (iI (b2 (decide (p % 2 = 1))))), (7, .int (iI ((k : Int)))), (8, .int (iI (((l.length : Int) - 1) - (k : Int))))]) dX8_foldUp_74 (by decide) rfl ?_
          refine r_iload dX8_foldUp_76 8 rfl ?_
          refine r_iload_n dX8_foldUp_78 2 rfl ?_
          refine i_const (1) dX8_foldUp_79 ?_
          refine i_sub dX8_foldUp_80 ?_
          refine i_icmpne dX8_foldUp_81 (tgt := 88) (by decide) (by unfold in32; omega) (by unfold in32; omega) (fun c81 => ?_) (fun c81 => ?_)
          · refine r_aload_n dX8_foldUp_88 0 rfl ?_
            refine r_get cl_X8 0 (by decide) kf_X8_9 dX8_foldUp_89 ma9 fa9 rfl ?_
            refine r_iload dX8_foldUp_92 8 rfl ?_
            refine i_iald (l.length - 1 - k) (by omega) dX8_foldUp_94 mt9 ft9 (by omega) (by decide) (hr9 (l.length - 1 - k) (by omega)).1 ?_
            refine r_istore (ls' := [(0, .ref a), (1, .int (iI ((np : Int)))), (2, .int (iI ((l.length : Int)))), (3, .int (iI (sz (lastL l)))), (4, .int (iI ((foldP l (!du) p).2 + (putA (foldP l (!du) p).1 ((cpL l p).take k) (!du)).2))), (5, .int (iI ((p : Int)))), (6, .int (iI (b2 (decide (p % 2 = 1))))), (7, .int (iI ((k : Int)))), (8, .int (iI (((l.length : Int) - 1) - (k : Int)))), (9, .int (iI (sz (((putA (foldP l (!du) p).1 ((cpL l p).take k) (!du)).1).getD (l.length - 1 - k) 0))))]) dX8_foldUp_95 (by decide) rfl ?_
            refine r_aload_n dX8_foldUp_97 0 rfl ?_
            refine r_aload_n dX8_foldUp_98 0 rfl ?_
            refine r_get cl_X8 1 (by decide) kf_X8_15 dX8_foldUp_99 ma9 fa9 rfl ?_
            refine r_iload dX8_foldUp_102 8 rfl ?_
            refine i_zald (l.length - 1 - k) (by omega) dX8_foldUp_104 mb9 fb9 (by omega) (by decide) (hr9 (l.length - 1 - k) (by omega)).2 ?_
            refine r_iload dX8_foldUp_105 9 rfl ?_
            refine r_iload dX8_foldUp_107 7 rfl ?_
            refine i_ifgt dX8_foldUp_109 (tgt := 119) (by decide) (by unfold in32; omega) (fun c109 => ?_) (fun c109 => ?_)
            · refine i_const (1) dX8_foldUp_119 ?_
              refine r_goto dX8_foldUp_120 (tgt := 124) (by decide) ?_
              have hk9 : k < (cpL l p).length := by rw [cpL_len]; omega
              have ed : (cpL l p).getD k 0 = l.getD (l.length - 1 - k) 0 := by unfold cpL; rw [if_neg (by simp at c60; omega)]; exact getD_rev (by omega)
              have e1 : isB ((putA (foldP l (!du) p).1 ((cpL l p).take k) (!du)).1.getD (l.length - 1 - k) 0) = isB ((cpL l p).getD k 0) := by rw [ed, putA_preB (by omega), hP7 _ (by omega)]
              have e2 : sz ((putA (foldP l (!du) p).1 ((cpL l p).take k) (!du)).1.getD (l.length - 1 - k) 0) = sz ((cpL l p).getD k 0) := by rw [ed, putA_pre (by omega), hP6 _ (by omega)]
              have em : (!du && decide (k = 0)) = (!true) := by rw [decide_eq_false (show ¬ k = 0 by omega)]; simp
              have es := putA_s (acc := (foldP l (!du) p).1) (xs := cpL l p) (m := !du) hk9
              rw [em] at es
              have er : (putN (putA (foldP l (!du) p).1 ((cpL l p).take k) (!du)).1 ((cpL l p).getD k 0) (!true)).1.length ≤ 200 := by
                have z := putA_tk (foldP l (!du) p).1 (cpL l p) (!du) (k + 1)
                rw [es] at z
                exact Nat.le_trans z (Nat.le_trans (foldP_mono l (!du) (show p + 1 ≤ np by omega)) hroom)
              have cP := c_X8_putLayer (x := (cpL l p).getD k 0) (ap := true) hT0 (putN_room2 er)
              rw [← e1, ← e2] at cP
              refine p_callV (As := [.int (iI (b2 (isB (((putA (foldP l (!du) p).1 ((cpL l p).take k) (!du)).1).getD (l.length - 1 - k) 0)))), .int (iI (sz (((putA (foldP l (!du) p).1 ((cpL l p).take k) (!du)).1).getD (l.length - 1 - k) 0))), .int (iI 1)]) (b := a) (rest := []) (w := (some (.int (iI (b2 (putN (putA (foldP l (!du) p).1 ((cpL l p).take k) (!du)).1 ((cpL l p).getD k 0) (!true)).2))))) (st' := [.int (iI (b2 (putN (putA (foldP l (!du) p).1 ((cpL l p).take k) (!du)).1 ((cpL l p).getD k 0) (!true)).2))]) kv_X8_foldUp_42 dX8_foldUp_124 rfl rfl (Nat.le_of_ble_eq_true rfl) (Nat.le_of_ble_eq_true rfl) (x_rv ma9 fa9 rfl) rfl rfl (cP) rfl (fun h9 e9 => ?_)
              obtain ⟨hS9, hF9⟩ := e9
              refine i_ifeqb dX8_foldUp_127 (tgt := 133) (by decide) (fun c127 => ?_) (fun c127 => ?_)
              · refine i_iinc (ls' := [(0, .ref a), (1, .int (iI ((np : Int)))), (2, .int (iI ((l.length : Int)))), (3, .int (iI (sz (lastL l)))), (4, .int (iI ((foldP l (!du) p).2 + (putA (foldP l (!du) p).1 ((cpL l p).take k) (!du)).2))), (5, .int (iI ((p : Int)))), (6, .int (iI (b2 (decide (p % 2 = 1))))), (7, .int (iI ((k : Int) + 1))), (8, .int (iI (((l.length : Int) - 1) - (k : Int)))), (9, .int (iI (sz (((putA (foldP l (!du) p).1 ((cpL l p).take k) (!du)).1).getD (l.length - 1 - k) 0))))]) (1) (v := (k : Int) + 1) dX8_foldUp_133 7 rfl (by omega) (by decide) rfl ?_
                refine r_goto dX8_foldUp_136 (tgt := 52) (by decide) ?_
                have q := ih2 (k + 1) (by omega) (by omega) h9 (by rw [es]; exact hS9) (FR.tr hF hF9)
                rw [show (foldP l (!du) p).2 + (putA (foldP l (!du) p).1 ((cpL l p).take (k + 1)) (!du)).2 = (foldP l (!du) p).2 + (putA (foldP l (!du) p).1 ((cpL l p).take k) (!du)).2 by rw [es]; show _ + (_ + b2 (putN _ _ _).2) = _; rw [c127]; exact congrArg _ (Int.add_zero _)] at q
                exact rr_take 8 rfl q
              · refine i_iinc (ls' := [(0, .ref a), (1, .int (iI ((np : Int)))), (2, .int (iI ((l.length : Int)))), (3, .int (iI (sz (lastL l)))), (4, .int (iI (((foldP l (!du) p).2 + (putA (foldP l (!du) p).1 ((cpL l p).take k) (!du)).2) + 1))), (5, .int (iI ((p : Int)))), (6, .int (iI (b2 (decide (p % 2 = 1))))), (7, .int (iI ((k : Int)))), (8, .int (iI (((l.length : Int) - 1) - (k : Int)))), (9, .int (iI (sz (((putA (foldP l (!du) p).1 ((cpL l p).take k) (!du)).1).getD (l.length - 1 - k) 0))))]) (1) (v := ((foldP l (!du) p).2 + (putA (foldP l (!du) p).1 ((cpL l p).take k) (!du)).2) + 1) dX8_foldUp_130 4 rfl (by omega) (by decide) rfl ?_
                refine i_iinc (ls' := [(0, .ref a), (1, .int (iI ((np : Int)))), (2, .int (iI ((l.length : Int)))), (3, .int (iI (sz (lastL l)))), (4, .int (iI (((foldP l (!du) p).2 + (putA (foldP l (!du) p).1 ((cpL l p).take k) (!du)).2) + 1))), (5, .int (iI ((p : Int)))), (6, .int (iI (b2 (decide (p % 2 = 1))))), (7, .int (iI ((k : Int) + 1))), (8, .int (iI (((l.length : Int) - 1) - (k : Int)))), (9, .int (iI (sz (((putA (foldP l (!du) p).1 ((cpL l p).take k) (!du)).1).getD (l.length - 1 - k) 0))))]) (1) (v := (k : Int) + 1) dX8_foldUp_133 7 rfl (by omega) (by decide) rfl ?_
                refine r_goto dX8_foldUp_136 (tgt := 52) (by decide) ?_
                have q := ih2 (k + 1) (by omega) (by omega) h9 (by rw [es]; exact hS9) (FR.tr hF hF9)
                rw [show (foldP l (!du) p).2 + (putA (foldP l (!du) p).1 ((cpL l p).take (k + 1)) (!du)).2 = ((foldP l (!du) p).2 + (putA (foldP l (!du) p).1 ((cpL l p).take k) (!du)).2) + 1 by rw [es]; show _ + (_ + b2 (putN _ _ _).2) = _; rw [c127]; exact (Int.add_assoc _ _ _).symm] at q
                exact rr_take 8 rfl q
            · refine r_aload_n dX8_foldUp_112 0 rfl ?_
              refine r_get cl_X8 6 (by decide) kf_X8_32 dX8_foldUp_113 ma9 fa9 rfl ?_
              refine i_ifeqb dX8_foldUp_116 (tgt := 123) (by decide) (fun c116 => ?_) (fun c116 => ?_)
              · refine i_const (0) dX8_foldUp_123 ?_
                have hk9 : k < (cpL l p).length := by rw [cpL_len]; omega
                have ed : (cpL l p).getD k 0 = l.getD (l.length - 1 - k) 0 := by unfold cpL; rw [if_neg (by simp at c60; omega)]; exact getD_rev (by omega)
                have e1 : isB ((putA (foldP l (!du) p).1 ((cpL l p).take k) (!du)).1.getD (l.length - 1 - k) 0) = isB ((cpL l p).getD k 0) := by rw [ed, putA_preB (by omega), hP7 _ (by omega)]
                have e2 : sz ((putA (foldP l (!du) p).1 ((cpL l p).take k) (!du)).1.getD (l.length - 1 - k) 0) = sz ((cpL l p).getD k 0) := by rw [ed, putA_pre (by omega), hP6 _ (by omega)]
                have em : (!du && decide (k = 0)) = (!false) := by rw [c116]; simp; omega
                have es := putA_s (acc := (foldP l (!du) p).1) (xs := cpL l p) (m := !du) hk9
                rw [em] at es
                have er : (putN (putA (foldP l (!du) p).1 ((cpL l p).take k) (!du)).1 ((cpL l p).getD k 0) (!false)).1.length ≤ 200 := by
                  have z := putA_tk (foldP l (!du) p).1 (cpL l p) (!du) (k + 1)
                  rw [es] at z
                  exact Nat.le_trans z (Nat.le_trans (foldP_mono l (!du) (show p + 1 ≤ np by omega)) hroom)
                have cP := c_X8_putLayer (x := (cpL l p).getD k 0) (ap := false) hT0 (putN_room2 er)
                rw [← e1, ← e2] at cP
                refine p_callV (As := [.int (iI (b2 (isB (((putA (foldP l (!du) p).1 ((cpL l p).take k) (!du)).1).getD (l.length - 1 - k) 0)))), .int (iI (sz (((putA (foldP l (!du) p).1 ((cpL l p).take k) (!du)).1).getD (l.length - 1 - k) 0))), .int (iI 0)]) (b := a) (rest := []) (w := (some (.int (iI (b2 (putN (putA (foldP l (!du) p).1 ((cpL l p).take k) (!du)).1 ((cpL l p).getD k 0) (!false)).2))))) (st' := [.int (iI (b2 (putN (putA (foldP l (!du) p).1 ((cpL l p).take k) (!du)).1 ((cpL l p).getD k 0) (!false)).2))]) kv_X8_foldUp_42 dX8_foldUp_124 rfl rfl (Nat.le_of_ble_eq_true rfl) (Nat.le_of_ble_eq_true rfl) (x_rv ma9 fa9 rfl) rfl rfl (cP) rfl (fun h9 e9 => ?_)
                obtain ⟨hS9, hF9⟩ := e9
                refine i_ifeqb dX8_foldUp_127 (tgt := 133) (by decide) (fun c127 => ?_) (fun c127 => ?_)
                · refine i_iinc (ls' := [(0, .ref a), (1, .int (iI ((np : Int)))), (2, .int (iI ((l.length : Int)))), (3, .int (iI (sz (lastL l)))), (4, .int (iI ((foldP l (!du) p).2 + (putA (foldP l (!du) p).1 ((cpL l p).take k) (!du)).2))), (5, .int (iI ((p : Int)))), (6, .int (iI (b2 (decide (p % 2 = 1))))), (7, .int (iI ((k : Int) + 1))), (8, .int (iI (((l.length : Int) - 1) - (k : Int)))), (9, .int (iI (sz (((putA (foldP l (!du) p).1 ((cpL l p).take k) (!du)).1).getD (l.length - 1 - k) 0))))]) (1) (v := (k : Int) + 1) dX8_foldUp_133 7 rfl (by omega) (by decide) rfl ?_
                  refine r_goto dX8_foldUp_136 (tgt := 52) (by decide) ?_
                  have q := ih2 (k + 1) (by omega) (by omega) h9 (by rw [es]; exact hS9) (FR.tr hF hF9)
                  rw [show (foldP l (!du) p).2 + (putA (foldP l (!du) p).1 ((cpL l p).take (k + 1)) (!du)).2 = (foldP l (!du) p).2 + (putA (foldP l (!du) p).1 ((cpL l p).take k) (!du)).2 by rw [es]; show _ + (_ + b2 (putN _ _ _).2) = _; rw [c127]; exact congrArg _ (Int.add_zero _)] at q
                  exact rr_take 8 rfl q
                · refine i_iinc (ls' := [(0, .ref a), (1, .int (iI ((np : Int)))), (2, .int (iI ((l.length : Int)))), (3, .int (iI (sz (lastL l)))), (4, .int (iI (((foldP l (!du) p).2 + (putA (foldP l (!du) p).1 ((cpL l p).take k) (!du)).2) + 1))), (5, .int (iI ((p : Int)))), (6, .int (iI (b2 (decide (p % 2 = 1))))), (7, .int (iI ((k : Int)))), (8, .int (iI (((l.length : Int) - 1) - (k : Int)))), (9, .int (iI (sz (((putA (foldP l (!du) p).1 ((cpL l p).take k) (!du)).1).getD (l.length - 1 - k) 0))))]) (1) (v := ((foldP l (!du) p).2 + (putA (foldP l (!du) p).1 ((cpL l p).take k) (!du)).2) + 1) dX8_foldUp_130 4 rfl (by omega) (by decide) rfl ?_
                  refine i_iinc (ls' := [(0, .ref a), (1, .int (iI ((np : Int)))), (2, .int (iI ((l.length : Int)))), (3, .int (iI (sz (lastL l)))), (4, .int (iI (((foldP l (!du) p).2 + (putA (foldP l (!du) p).1 ((cpL l p).take k) (!du)).2) + 1))), (5, .int (iI ((p : Int)))), (6, .int (iI (b2 (decide (p % 2 = 1))))), (7, .int (iI ((k : Int) + 1))), (8, .int (iI (((l.length : Int) - 1) - (k : Int)))), (9, .int (iI (sz (((putA (foldP l (!du) p).1 ((cpL l p).take k) (!du)).1).getD (l.length - 1 - k) 0))))]) (1) (v := (k : Int) + 1) dX8_foldUp_133 7 rfl (by omega) (by decide) rfl ?_
                  refine r_goto dX8_foldUp_136 (tgt := 52) (by decide) ?_
                  have q := ih2 (k + 1) (by omega) (by omega) h9 (by rw [es]; exact hS9) (FR.tr hF hF9)
                  rw [show (foldP l (!du) p).2 + (putA (foldP l (!du) p).1 ((cpL l p).take (k + 1)) (!du)).2 = ((foldP l (!du) p).2 + (putA (foldP l (!du) p).1 ((cpL l p).take k) (!du)).2) + 1 by rw [es]; show _ + (_ + b2 (putN _ _ _).2) = _; rw [c127]; exact (Int.add_assoc _ _ _).symm] at q
                  exact rr_take 8 rfl q
              · refine i_const (1) dX8_foldUp_119 ?_
                refine r_goto dX8_foldUp_120 (tgt := 124) (by decide) ?_
                have hk9 : k < (cpL l p).length := by rw [cpL_len]; omega
                have ed : (cpL l p).getD k 0 = l.getD (l.length - 1 - k) 0 := by unfold cpL; rw [if_neg (by simp at c60; omega)]; exact getD_rev (by omega)
                have e1 : isB ((putA (foldP l (!du) p).1 ((cpL l p).take k) (!du)).1.getD (l.length - 1 - k) 0) = isB ((cpL l p).getD k 0) := by rw [ed, putA_preB (by omega), hP7 _ (by omega)]
                have e2 : sz ((putA (foldP l (!du) p).1 ((cpL l p).take k) (!du)).1.getD (l.length - 1 - k) 0) = sz ((cpL l p).getD k 0) := by rw [ed, putA_pre (by omega), hP6 _ (by omega)]
                have em : (!du && decide (k = 0)) = (!true) := by rw [c116]; simp
                have es := putA_s (acc := (foldP l (!du) p).1) (xs := cpL l p) (m := !du) hk9
                rw [em] at es
                have er : (putN (putA (foldP l (!du) p).1 ((cpL l p).take k) (!du)).1 ((cpL l p).getD k 0) (!true)).1.length ≤ 200 := by
                  have z := putA_tk (foldP l (!du) p).1 (cpL l p) (!du) (k + 1)
                  rw [es] at z
                  exact Nat.le_trans z (Nat.le_trans (foldP_mono l (!du) (show p + 1 ≤ np by omega)) hroom)
                have cP := c_X8_putLayer (x := (cpL l p).getD k 0) (ap := true) hT0 (putN_room2 er)
                rw [← e1, ← e2] at cP
                refine p_callV (As := [.int (iI (b2 (isB (((putA (foldP l (!du) p).1 ((cpL l p).take k) (!du)).1).getD (l.length - 1 - k) 0)))), .int (iI (sz (((putA (foldP l (!du) p).1 ((cpL l p).take k) (!du)).1).getD (l.length - 1 - k) 0))), .int (iI 1)]) (b := a) (rest := []) (w := (some (.int (iI (b2 (putN (putA (foldP l (!du) p).1 ((cpL l p).take k) (!du)).1 ((cpL l p).getD k 0) (!true)).2))))) (st' := [.int (iI (b2 (putN (putA (foldP l (!du) p).1 ((cpL l p).take k) (!du)).1 ((cpL l p).getD k 0) (!true)).2))]) kv_X8_foldUp_42 dX8_foldUp_124 rfl rfl (Nat.le_of_ble_eq_true rfl) (Nat.le_of_ble_eq_true rfl) (x_rv ma9 fa9 rfl) rfl rfl (cP) rfl (fun h9 e9 => ?_)
                obtain ⟨hS9, hF9⟩ := e9
                refine i_ifeqb dX8_foldUp_127 (tgt := 133) (by decide) (fun c127 => ?_) (fun c127 => ?_)
                · refine i_iinc (ls' := [(0, .ref a), (1, .int (iI ((np : Int)))), (2, .int (iI ((l.length : Int)))), (3, .int (iI (sz (lastL l)))), (4, .int (iI ((foldP l (!du) p).2 + (putA (foldP l (!du) p).1 ((cpL l p).take k) (!du)).2))), (5, .int (iI ((p : Int)))), (6, .int (iI (b2 (decide (p % 2 = 1))))), (7, .int (iI ((k : Int) + 1))), (8, .int (iI (((l.length : Int) - 1) - (k : Int)))), (9, .int (iI (sz (((putA (foldP l (!du) p).1 ((cpL l p).take k) (!du)).1).getD (l.length - 1 - k) 0))))]) (1) (v := (k : Int) + 1) dX8_foldUp_133 7 rfl (by omega) (by decide) rfl ?_
                  refine r_goto dX8_foldUp_136 (tgt := 52) (by decide) ?_
                  have q := ih2 (k + 1) (by omega) (by omega) h9 (by rw [es]; exact hS9) (FR.tr hF hF9)
                  rw [show (foldP l (!du) p).2 + (putA (foldP l (!du) p).1 ((cpL l p).take (k + 1)) (!du)).2 = (foldP l (!du) p).2 + (putA (foldP l (!du) p).1 ((cpL l p).take k) (!du)).2 by rw [es]; show _ + (_ + b2 (putN _ _ _).2) = _; rw [c127]; exact congrArg _ (Int.add_zero _)] at q
                  exact rr_take 8 rfl q
                · refine i_iinc (ls' := [(0, .ref a), (1, .int (iI ((np : Int)))), (2, .int (iI ((l.length : Int)))), (3, .int (iI (sz (lastL l)))), (4, .int (iI (((foldP l (!du) p).2 + (putA (foldP l (!du) p).1 ((cpL l p).take k) (!du)).2) + 1))), (5, .int (iI ((p : Int)))), (6, .int (iI (b2 (decide (p % 2 = 1))))), (7, .int (iI ((k : Int)))), (8, .int (iI (((l.length : Int) - 1) - (k : Int)))), (9, .int (iI (sz (((putA (foldP l (!du) p).1 ((cpL l p).take k) (!du)).1).getD (l.length - 1 - k) 0))))]) (1) (v := ((foldP l (!du) p).2 + (putA (foldP l (!du) p).1 ((cpL l p).take k) (!du)).2) + 1) dX8_foldUp_130 4 rfl (by omega) (by decide) rfl ?_
                  refine i_iinc (ls' := [(0, .ref a), (1, .int (iI ((np : Int)))), (2, .int (iI ((l.length : Int)))), (3, .int (iI (sz (lastL l)))), (4, .int (iI (((foldP l (!du) p).2 + (putA (foldP l (!du) p).1 ((cpL l p).take k) (!du)).2) + 1))), (5, .int (iI ((p : Int)))), (6, .int (iI (b2 (decide (p % 2 = 1))))), (7, .int (iI ((k : Int) + 1))), (8, .int (iI (((l.length : Int) - 1) - (k : Int)))), (9, .int (iI (sz (((putA (foldP l (!du) p).1 ((cpL l p).take k) (!du)).1).getD (l.length - 1 - k) 0))))]) (1) (v := (k : Int) + 1) dX8_foldUp_133 7 rfl (by omega) (by decide) rfl ?_
                  refine r_goto dX8_foldUp_136 (tgt := 52) (by decide) ?_
                  have q := ih2 (k + 1) (by omega) (by omega) h9 (by rw [es]; exact hS9) (FR.tr hF hF9)
                  rw [show (foldP l (!du) p).2 + (putA (foldP l (!du) p).1 ((cpL l p).take (k + 1)) (!du)).2 = ((foldP l (!du) p).2 + (putA (foldP l (!du) p).1 ((cpL l p).take k) (!du)).2) + 1 by rw [es]; show _ + (_ + b2 (putN _ _ _).2) = _; rw [c127]; exact (Int.add_assoc _ _ _).symm] at q
                  exact rr_take 8 rfl q
          · refine r_iload_n dX8_foldUp_84 3 rfl ?_
            refine r_goto dX8_foldUp_85 (tgt := 95) (by decide) ?_
            refine r_istore (ls' := [(0, .ref a), (1, .int (iI ((np : Int)))), (2, .int (iI ((l.length : Int)))), (3, .int (iI (sz (lastL l)))), (4, .int (iI ((foldP l (!du) p).2 + (putA (foldP l (!du) p).1 ((cpL l p).take k) (!du)).2))), (5, .int (iI ((p : Int)))), (6, .int (iI (b2 (decide (p % 2 = 1))))), (7, .int (iI ((k : Int)))), (8, .int (iI (((l.length : Int) - 1) - (k : Int)))), (9, .int (iI (sz (lastL l))))]) dX8_foldUp_95 (by decide) rfl ?_
            refine r_aload_n dX8_foldUp_97 0 rfl ?_
            refine r_aload_n dX8_foldUp_98 0 rfl ?_
            refine r_get cl_X8 1 (by decide) kf_X8_15 dX8_foldUp_99 ma9 fa9 rfl ?_
            refine r_iload dX8_foldUp_102 8 rfl ?_
            refine i_zald (l.length - 1 - k) (by omega) dX8_foldUp_104 mb9 fb9 (by omega) (by decide) (hr9 (l.length - 1 - k) (by omega)).2 ?_
            refine r_iload dX8_foldUp_105 9 rfl ?_
            refine r_iload dX8_foldUp_107 7 rfl ?_
            refine i_ifgt dX8_foldUp_109 (tgt := 119) (by decide) (by unfold in32; omega) (fun c109 => ?_) (fun c109 => ?_)
            · refine i_const (1) dX8_foldUp_119 ?_
              refine r_goto dX8_foldUp_120 (tgt := 124) (by decide) ?_
              have hk9 : k < (cpL l p).length := by rw [cpL_len]; omega
              have ed : (cpL l p).getD k 0 = l.getD (l.length - 1 - k) 0 := by unfold cpL; rw [if_neg (by simp at c60; omega)]; exact getD_rev (by omega)
              have e1 : isB ((putA (foldP l (!du) p).1 ((cpL l p).take k) (!du)).1.getD (l.length - 1 - k) 0) = isB ((cpL l p).getD k 0) := by rw [ed, putA_preB (by omega), hP7 _ (by omega)]
              have e2 : sz (lastL l) = sz ((cpL l p).getD k 0) := by rw [ed, show (l.length - 1 - k) = l.length - 1 by omega]; rfl
              have em : (!du && decide (k = 0)) = (!true) := by rw [decide_eq_false (show ¬ k = 0 by omega)]; simp
              have es := putA_s (acc := (foldP l (!du) p).1) (xs := cpL l p) (m := !du) hk9
              rw [em] at es
              have er : (putN (putA (foldP l (!du) p).1 ((cpL l p).take k) (!du)).1 ((cpL l p).getD k 0) (!true)).1.length ≤ 200 := by
                have z := putA_tk (foldP l (!du) p).1 (cpL l p) (!du) (k + 1)
                rw [es] at z
                exact Nat.le_trans z (Nat.le_trans (foldP_mono l (!du) (show p + 1 ≤ np by omega)) hroom)
              have cP := c_X8_putLayer (x := (cpL l p).getD k 0) (ap := true) hT0 (putN_room2 er)
              rw [← e1, ← e2] at cP
              refine p_callV (As := [.int (iI (b2 (isB (((putA (foldP l (!du) p).1 ((cpL l p).take k) (!du)).1).getD (l.length - 1 - k) 0)))), .int (iI (sz (lastL l))), .int (iI 1)]) (b := a) (rest := []) (w := (some (.int (iI (b2 (putN (putA (foldP l (!du) p).1 ((cpL l p).take k) (!du)).1 ((cpL l p).getD k 0) (!true)).2))))) (st' := [.int (iI (b2 (putN (putA (foldP l (!du) p).1 ((cpL l p).take k) (!du)).1 ((cpL l p).getD k 0) (!true)).2))]) kv_X8_foldUp_42 dX8_foldUp_124 rfl rfl (Nat.le_of_ble_eq_true rfl) (Nat.le_of_ble_eq_true rfl) (x_rv ma9 fa9 rfl) rfl rfl (cP) rfl (fun h9 e9 => ?_)
              obtain ⟨hS9, hF9⟩ := e9
              refine i_ifeqb dX8_foldUp_127 (tgt := 133) (by decide) (fun c127 => ?_) (fun c127 => ?_)
              · refine i_iinc (ls' := [(0, .ref a), (1, .int (iI ((np : Int)))), (2, .int (iI ((l.length : Int)))), (3, .int (iI (sz (lastL l)))), (4, .int (iI ((foldP l (!du) p).2 + (putA (foldP l (!du) p).1 ((cpL l p).take k) (!du)).2))), (5, .int (iI ((p : Int)))), (6, .int (iI (b2 (decide (p % 2 = 1))))), (7, .int (iI ((k : Int) + 1))), (8, .int (iI (((l.length : Int) - 1) - (k : Int)))), (9, .int (iI (sz (lastL l))))]) (1) (v := (k : Int) + 1) dX8_foldUp_133 7 rfl (by omega) (by decide) rfl ?_
                refine r_goto dX8_foldUp_136 (tgt := 52) (by decide) ?_
                have q := ih2 (k + 1) (by omega) (by omega) h9 (by rw [es]; exact hS9) (FR.tr hF hF9)
                rw [show (foldP l (!du) p).2 + (putA (foldP l (!du) p).1 ((cpL l p).take (k + 1)) (!du)).2 = (foldP l (!du) p).2 + (putA (foldP l (!du) p).1 ((cpL l p).take k) (!du)).2 by rw [es]; show _ + (_ + b2 (putN _ _ _).2) = _; rw [c127]; exact congrArg _ (Int.add_zero _)] at q
                exact rr_take 8 rfl q
              · refine i_iinc (ls' := [(0, .ref a), (1, .int (iI ((np : Int)))), (2, .int (iI ((l.length : Int)))), (3, .int (iI (sz (lastL l)))), (4, .int (iI (((foldP l (!du) p).2 + (putA (foldP l (!du) p).1 ((cpL l p).take k) (!du)).2) + 1))), (5, .int (iI ((p : Int)))), (6, .int (iI (b2 (decide (p % 2 = 1))))), (7, .int (iI ((k : Int)))), (8, .int (iI (((l.length : Int) - 1) - (k : Int)))), (9, .int (iI (sz (lastL l))))]) (1) (v := ((foldP l (!du) p).2 + (putA (foldP l (!du) p).1 ((cpL l p).take k) (!du)).2) + 1) dX8_foldUp_130 4 rfl (by omega) (by decide) rfl ?_
                refine i_iinc (ls' := [(0, .ref a), (1, .int (iI ((np : Int)))), (2, .int (iI ((l.length : Int)))), (3, .int (iI (sz (lastL l)))), (4, .int (iI (((foldP l (!du) p).2 + (putA (foldP l (!du) p).1 ((cpL l p).take k) (!du)).2) + 1))), (5, .int (iI ((p : Int)))), (6, .int (iI (b2 (decide (p % 2 = 1))))), (7, .int (iI ((k : Int) + 1))), (8, .int (iI (((l.length : Int) - 1) - (k : Int)))), (9, .int (iI (sz (lastL l))))]) (1) (v := (k : Int) + 1) dX8_foldUp_133 7 rfl (by omega) (by decide) rfl ?_
                refine r_goto dX8_foldUp_136 (tgt := 52) (by decide) ?_
                have q := ih2 (k + 1) (by omega) (by omega) h9 (by rw [es]; exact hS9) (FR.tr hF hF9)
                rw [show (foldP l (!du) p).2 + (putA (foldP l (!du) p).1 ((cpL l p).take (k + 1)) (!du)).2 = ((foldP l (!du) p).2 + (putA (foldP l (!du) p).1 ((cpL l p).take k) (!du)).2) + 1 by rw [es]; show _ + (_ + b2 (putN _ _ _).2) = _; rw [c127]; exact (Int.add_assoc _ _ _).symm] at q
                exact rr_take 8 rfl q
            · refine r_aload_n dX8_foldUp_112 0 rfl ?_
              refine r_get cl_X8 6 (by decide) kf_X8_32 dX8_foldUp_113 ma9 fa9 rfl ?_
              refine i_ifeqb dX8_foldUp_116 (tgt := 123) (by decide) (fun c116 => ?_) (fun c116 => ?_)
              · refine i_const (0) dX8_foldUp_123 ?_
                have hk9 : k < (cpL l p).length := by rw [cpL_len]; omega
                have ed : (cpL l p).getD k 0 = l.getD (l.length - 1 - k) 0 := by unfold cpL; rw [if_neg (by simp at c60; omega)]; exact getD_rev (by omega)
                have e1 : isB ((putA (foldP l (!du) p).1 ((cpL l p).take k) (!du)).1.getD (l.length - 1 - k) 0) = isB ((cpL l p).getD k 0) := by rw [ed, putA_preB (by omega), hP7 _ (by omega)]
                have e2 : sz (lastL l) = sz ((cpL l p).getD k 0) := by rw [ed, show (l.length - 1 - k) = l.length - 1 by omega]; rfl
                have em : (!du && decide (k = 0)) = (!false) := by rw [c116]; simp; omega
                have es := putA_s (acc := (foldP l (!du) p).1) (xs := cpL l p) (m := !du) hk9
                rw [em] at es
                have er : (putN (putA (foldP l (!du) p).1 ((cpL l p).take k) (!du)).1 ((cpL l p).getD k 0) (!false)).1.length ≤ 200 := by
                  have z := putA_tk (foldP l (!du) p).1 (cpL l p) (!du) (k + 1)
                  rw [es] at z
                  exact Nat.le_trans z (Nat.le_trans (foldP_mono l (!du) (show p + 1 ≤ np by omega)) hroom)
                have cP := c_X8_putLayer (x := (cpL l p).getD k 0) (ap := false) hT0 (putN_room2 er)
                rw [← e1, ← e2] at cP
                refine p_callV (As := [.int (iI (b2 (isB (((putA (foldP l (!du) p).1 ((cpL l p).take k) (!du)).1).getD (l.length - 1 - k) 0)))), .int (iI (sz (lastL l))), .int (iI 0)]) (b := a) (rest := []) (w := (some (.int (iI (b2 (putN (putA (foldP l (!du) p).1 ((cpL l p).take k) (!du)).1 ((cpL l p).getD k 0) (!false)).2))))) (st' := [.int (iI (b2 (putN (putA (foldP l (!du) p).1 ((cpL l p).take k) (!du)).1 ((cpL l p).getD k 0) (!false)).2))]) kv_X8_foldUp_42 dX8_foldUp_124 rfl rfl (Nat.le_of_ble_eq_true rfl) (Nat.le_of_ble_eq_true rfl) (x_rv ma9 fa9 rfl) rfl rfl (cP) rfl (fun h9 e9 => ?_)
                obtain ⟨hS9, hF9⟩ := e9
                refine i_ifeqb dX8_foldUp_127 (tgt := 133) (by decide) (fun c127 => ?_) (fun c127 => ?_)
                · refine i_iinc (ls' := [(0, .ref a), (1, .int (iI ((np : Int)))), (2, .int (iI ((l.length : Int)))), (3, .int (iI (sz (lastL l)))), (4, .int (iI ((foldP l (!du) p).2 + (putA (foldP l (!du) p).1 ((cpL l p).take k) (!du)).2))), (5, .int (iI ((p : Int)))), (6, .int (iI (b2 (decide (p % 2 = 1))))), (7, .int (iI ((k : Int) + 1))), (8, .int (iI (((l.length : Int) - 1) - (k : Int)))), (9, .int (iI (sz (lastL l))))]) (1) (v := (k : Int) + 1) dX8_foldUp_133 7 rfl (by omega) (by decide) rfl ?_
                  refine r_goto dX8_foldUp_136 (tgt := 52) (by decide) ?_
                  have q := ih2 (k + 1) (by omega) (by omega) h9 (by rw [es]; exact hS9) (FR.tr hF hF9)
                  rw [show (foldP l (!du) p).2 + (putA (foldP l (!du) p).1 ((cpL l p).take (k + 1)) (!du)).2 = (foldP l (!du) p).2 + (putA (foldP l (!du) p).1 ((cpL l p).take k) (!du)).2 by rw [es]; show _ + (_ + b2 (putN _ _ _).2) = _; rw [c127]; exact congrArg _ (Int.add_zero _)] at q
                  exact rr_take 8 rfl q
                · refine i_iinc (ls' := [(0, .ref a), (1, .int (iI ((np : Int)))), (2, .int (iI ((l.length : Int)))), (3, .int (iI (sz (lastL l)))), (4, .int (iI (((foldP l (!du) p).2 + (putA (foldP l (!du) p).1 ((cpL l p).take k) (!du)).2) + 1))), (5, .int (iI ((p : Int)))), (6, .int (iI (b2 (decide (p % 2 = 1))))), (7, .int (iI ((k : Int)))), (8, .int (iI (((l.length : Int) - 1) - (k : Int)))), (9, .int (iI (sz (lastL l))))]) (1) (v := ((foldP l (!du) p).2 + (putA (foldP l (!du) p).1 ((cpL l p).take k) (!du)).2) + 1) dX8_foldUp_130 4 rfl (by omega) (by decide) rfl ?_
                  refine i_iinc (ls' := [(0, .ref a), (1, .int (iI ((np : Int)))), (2, .int (iI ((l.length : Int)))), (3, .int (iI (sz (lastL l)))), (4, .int (iI (((foldP l (!du) p).2 + (putA (foldP l (!du) p).1 ((cpL l p).take k) (!du)).2) + 1))), (5, .int (iI ((p : Int)))), (6, .int (iI (b2 (decide (p % 2 = 1))))), (7, .int (iI ((k : Int) + 1))), (8, .int (iI (((l.length : Int) - 1) - (k : Int)))), (9, .int (iI (sz (lastL l))))]) (1) (v := (k : Int) + 1) dX8_foldUp_133 7 rfl (by omega) (by decide) rfl ?_
                  refine r_goto dX8_foldUp_136 (tgt := 52) (by decide) ?_
                  have q := ih2 (k + 1) (by omega) (by omega) h9 (by rw [es]; exact hS9) (FR.tr hF hF9)
                  rw [show (foldP l (!du) p).2 + (putA (foldP l (!du) p).1 ((cpL l p).take (k + 1)) (!du)).2 = ((foldP l (!du) p).2 + (putA (foldP l (!du) p).1 ((cpL l p).take k) (!du)).2) + 1 by rw [es]; show _ + (_ + b2 (putN _ _ _).2) = _; rw [c127]; exact (Int.add_assoc _ _ _).symm] at q
                  exact rr_take 8 rfl q
              · refine i_const (1) dX8_foldUp_119 ?_
                refine r_goto dX8_foldUp_120 (tgt := 124) (by decide) ?_
                have hk9 : k < (cpL l p).length := by rw [cpL_len]; omega
                have ed : (cpL l p).getD k 0 = l.getD (l.length - 1 - k) 0 := by unfold cpL; rw [if_neg (by simp at c60; omega)]; exact getD_rev (by omega)
                have e1 : isB ((putA (foldP l (!du) p).1 ((cpL l p).take k) (!du)).1.getD (l.length - 1 - k) 0) = isB ((cpL l p).getD k 0) := by rw [ed, putA_preB (by omega), hP7 _ (by omega)]
                have e2 : sz (lastL l) = sz ((cpL l p).getD k 0) := by rw [ed, show (l.length - 1 - k) = l.length - 1 by omega]; rfl
                have em : (!du && decide (k = 0)) = (!true) := by rw [c116]; simp
                have es := putA_s (acc := (foldP l (!du) p).1) (xs := cpL l p) (m := !du) hk9
                rw [em] at es
                have er : (putN (putA (foldP l (!du) p).1 ((cpL l p).take k) (!du)).1 ((cpL l p).getD k 0) (!true)).1.length ≤ 200 := by
                  have z := putA_tk (foldP l (!du) p).1 (cpL l p) (!du) (k + 1)
                  rw [es] at z
                  exact Nat.le_trans z (Nat.le_trans (foldP_mono l (!du) (show p + 1 ≤ np by omega)) hroom)
                have cP := c_X8_putLayer (x := (cpL l p).getD k 0) (ap := true) hT0 (putN_room2 er)
                rw [← e1, ← e2] at cP
                refine p_callV (As := [.int (iI (b2 (isB (((putA (foldP l (!du) p).1 ((cpL l p).take k) (!du)).1).getD (l.length - 1 - k) 0)))), .int (iI (sz (lastL l))), .int (iI 1)]) (b := a) (rest := []) (w := (some (.int (iI (b2 (putN (putA (foldP l (!du) p).1 ((cpL l p).take k) (!du)).1 ((cpL l p).getD k 0) (!true)).2))))) (st' := [.int (iI (b2 (putN (putA (foldP l (!du) p).1 ((cpL l p).take k) (!du)).1 ((cpL l p).getD k 0) (!true)).2))]) kv_X8_foldUp_42 dX8_foldUp_124 rfl rfl (Nat.le_of_ble_eq_true rfl) (Nat.le_of_ble_eq_true rfl) (x_rv ma9 fa9 rfl) rfl rfl (cP) rfl (fun h9 e9 => ?_)
                obtain ⟨hS9, hF9⟩ := e9
                refine i_ifeqb dX8_foldUp_127 (tgt := 133) (by decide) (fun c127 => ?_) (fun c127 => ?_)
                · refine i_iinc (ls' := [(0, .ref a), (1, .int (iI ((np : Int)))), (2, .int (iI ((l.length : Int)))), (3, .int (iI (sz (lastL l)))), (4, .int (iI ((foldP l (!du) p).2 + (putA (foldP l (!du) p).1 ((cpL l p).take k) (!du)).2))), (5, .int (iI ((p : Int)))), (6, .int (iI (b2 (decide (p % 2 = 1))))), (7, .int (iI ((k : Int) + 1))), (8, .int (iI (((l.length : Int) - 1) - (k : Int)))), (9, .int (iI (sz (lastL l))))]) (1) (v := (k : Int) + 1) dX8_foldUp_133 7 rfl (by omega) (by decide) rfl ?_
                  refine r_goto dX8_foldUp_136 (tgt := 52) (by decide) ?_
                  have q := ih2 (k + 1) (by omega) (by omega) h9 (by rw [es]; exact hS9) (FR.tr hF hF9)
                  rw [show (foldP l (!du) p).2 + (putA (foldP l (!du) p).1 ((cpL l p).take (k + 1)) (!du)).2 = (foldP l (!du) p).2 + (putA (foldP l (!du) p).1 ((cpL l p).take k) (!du)).2 by rw [es]; show _ + (_ + b2 (putN _ _ _).2) = _; rw [c127]; exact congrArg _ (Int.add_zero _)] at q
                  exact rr_take 8 rfl q
                · refine i_iinc (ls' := [(0, .ref a), (1, .int (iI ((np : Int)))), (2, .int (iI ((l.length : Int)))), (3, .int (iI (sz (lastL l)))), (4, .int (iI (((foldP l (!du) p).2 + (putA (foldP l (!du) p).1 ((cpL l p).take k) (!du)).2) + 1))), (5, .int (iI ((p : Int)))), (6, .int (iI (b2 (decide (p % 2 = 1))))), (7, .int (iI ((k : Int)))), (8, .int (iI (((l.length : Int) - 1) - (k : Int)))), (9, .int (iI (sz (lastL l))))]) (1) (v := ((foldP l (!du) p).2 + (putA (foldP l (!du) p).1 ((cpL l p).take k) (!du)).2) + 1) dX8_foldUp_130 4 rfl (by omega) (by decide) rfl ?_
                  refine i_iinc (ls' := [(0, .ref a), (1, .int (iI ((np : Int)))), (2, .int (iI ((l.length : Int)))), (3, .int (iI (sz (lastL l)))), (4, .int (iI (((foldP l (!du) p).2 + (putA (foldP l (!du) p).1 ((cpL l p).take k) (!du)).2) + 1))), (5, .int (iI ((p : Int)))), (6, .int (iI (b2 (decide (p % 2 = 1))))), (7, .int (iI ((k : Int) + 1))), (8, .int (iI (((l.length : Int) - 1) - (k : Int)))), (9, .int (iI (sz (lastL l))))]) (1) (v := (k : Int) + 1) dX8_foldUp_133 7 rfl (by omega) (by decide) rfl ?_
                  refine r_goto dX8_foldUp_136 (tgt := 52) (by decide) ?_
                  have q := ih2 (k + 1) (by omega) (by omega) h9 (by rw [es]; exact hS9) (FR.tr hF hF9)
                  rw [show (foldP l (!du) p).2 + (putA (foldP l (!du) p).1 ((cpL l p).take (k + 1)) (!du)).2 = ((foldP l (!du) p).2 + (putA (foldP l (!du) p).1 ((cpL l p).take k) (!du)).2) + 1 by rw [es]; show _ + (_ + b2 (putN _ _ _).2) = _; rw [c127]; exact (Int.add_assoc _ _ _).symm] at q
                  exact rr_take 8 rfl q
    have hT0 := hT
    obtain ⟨gt9, gb9, ⟨ma9, mt9, mb9⟩, -, fa9, ft9, fb9, hl9, hr9⟩ := hT
    have fa9 : hh.2 a = .inr (5, [.ref t, .ref b, .int (iI (((foldP l (!du) p).1).length : Int)), .int (iI ex), .int fo, .int (iI wa), .int (iI (b2 du)), .int (iI (b2 se)), .int (iI (b2 co))]) := fa9
    have hl9 : ((foldP l (!du) p).1).length ≤ 200 := hl9
    have hr9 : sr gt9 gb9 ((foldP l (!du) p).1) := hr9
    refine r_iload dX8_foldUp_28 5 rfl ?_
    refine r_iload_n dX8_foldUp_30 1 rfl ?_
    refine i_icmpge dX8_foldUp_31 (tgt := 145) (by decide) (by unfold in32; omega) (by unfold in32; omega) (fun c31 => ?_) (fun c31 => ?_)
    · refine r_aload_n dX8_foldUp_145 0 rfl ?_
      refine r_aload_n dX8_foldUp_146 0 rfl ?_
      refine r_get cl_X8 3 (by decide) kf_X8_23 dX8_foldUp_147 ma9 fa9 rfl ?_
      refine r_iload_n dX8_foldUp_150 1 rfl ?_
      refine i_mul dX8_foldUp_151 ?_
      refine r_iload dX8_foldUp_152 4 rfl ?_
      refine i_sub dX8_foldUp_154 ?_
      refine i_put [.ref t, .ref b, .int (iI ((((foldP l (!du) p).1).length : Int))), .int (iI ((ex * (np : Int)) - ((foldP l (!du) p).2))), .int fo, .int (iI wa), .int (iI (b2 du)), .int (iI (b2 se)), .int (iI (b2 co))] cl_X8 3 (by decide) kf_X8_23 rfl dX8_foldUp_155 ma9 fa9 rfl rfl (by simp) rfl (fun h1 e0_1 e1_1 e2_1 => ?_)
      have ma_1 : a ∈ h1.1 := by rw [e0_1]; exact ma9
      have mt_1 : t ∈ h1.1 := by rw [e0_1]; exact mt9
      have ft_1 := (e2_1 _ nta).trans ft9
      have mb_1 : b ∈ h1.1 := by rw [e0_1]; exact mb9
      have fb_1 := (e2_1 _ nba).trans fb9
      refine r_aload_n dX8_foldUp_158 0 rfl ?_
      refine r_dup dX8_foldUp_159 rfl ?_
      refine r_get cl_X8 4 (by decide) kf_X8_26 dX8_foldUp_160 ma_1 e1_1 rfl ?_
      refine i_const (1) dX8_foldUp_163 ?_
      refine r_iadd dX8_foldUp_164 ?_
      refine i_put [.ref t, .ref b, .int (iI ((((foldP l (!du) p).1).length : Int))), .int (iI ((ex * (np : Int)) - ((foldP l (!du) p).2))), .int ((fo) + (iI 1)), .int (iI wa), .int (iI (b2 du)), .int (iI (b2 se)), .int (iI (b2 co))] cl_X8 4 (by decide) kf_X8_26 rfl dX8_foldUp_165 ma_1 e1_1 rfl rfl (by simp) rfl (fun h2 e0_2 e1_2 e2_2 => ?_)
      have ma_2 : a ∈ h2.1 := by rw [e0_2]; exact ma_1
      have mt_2 : t ∈ h2.1 := by rw [e0_2]; exact mt_1
      have ft_2 := (e2_2 _ nta).trans ft_1
      have mb_2 : b ∈ h2.1 := by rw [e0_2]; exact mb_1
      have fb_2 := (e2_2 _ nba).trans fb_1
      refine r_aload_n dX8_foldUp_168 0 rfl ?_
      refine i_const (0) dX8_foldUp_169 ?_
      refine i_put [.ref t, .ref b, .int (iI ((((foldP l (!du) p).1).length : Int))), .int (iI ((ex * (np : Int)) - ((foldP l (!du) p).2))), .int ((fo) + (iI 1)), .int (iI wa), .int (iI 0), .int (iI (b2 se)), .int (iI (b2 co))] cl_X8 6 (by decide) kf_X8_32 rfl dX8_foldUp_170 ma_2 e1_2 (b2_nar false) (b2_fit false) (by simp) rfl (fun h3 e0_3 e1_3 e2_3 => ?_)
      have ma_3 : a ∈ h3.1 := by rw [e0_3]; exact ma_2
      have mt_3 : t ∈ h3.1 := by rw [e0_3]; exact mt_2
      have ft_3 := (e2_3 _ nta).trans ft_2
      have mb_3 : b ∈ h3.1 := by rw [e0_3]; exact mb_2
      have fb_3 := (e2_3 _ nba).trans fb_2
      refine r_aload_n dX8_foldUp_173 0 rfl ?_
      refine r_aload_n dX8_foldUp_174 0 rfl ?_
      refine r_get cl_X8 5 (by decide) kf_X8_29 dX8_foldUp_175 ma_3 e1_3 rfl ?_
      refine p_callSN (As := [.int (iI wa)]) (rest := [.ref a]) (w := (some (.int (iI (warmed wa))))) (st' := [.int (iI (warmed wa)), .ref a]) (kv_X8_foldUp_58 (gn_X8_58 hG)) dX8_foldUp_178 rfl rfl (Nat.le_of_ble_eq_true rfl) (Nat.le_of_ble_eq_true rfl) rfl rfl (c_X11_warmedByWork (by omega)) rfl (fun h9 e9 => ?_)
      rw [show h9 = h3 from e9]
      refine i_put [.ref t, .ref b, .int (iI ((((foldP l (!du) p).1).length : Int))), .int (iI ((ex * (np : Int)) - ((foldP l (!du) p).2))), .int ((fo) + (iI 1)), .int (iI (warmed wa)), .int (iI 0), .int (iI (b2 se)), .int (iI (b2 co))] cl_X8 5 (by decide) kf_X8_29 rfl dX8_foldUp_181 ma_3 e1_3 rfl rfl (by simp) rfl (fun h4 e0_4 e1_4 e2_4 => ?_)
      have ma_4 : a ∈ h4.1 := by rw [e0_4]; exact ma_3
      have mt_4 : t ∈ h4.1 := by rw [e0_4]; exact mt_3
      have ft_4 := (e2_4 _ nta).trans ft_3
      have mb_4 : b ∈ h4.1 := by rw [e0_4]; exact mb_3
      have fb_4 := (e2_4 _ nba).trans fb_3
      refine r_return rfl dX8_foldUp_184 ?_
      have ep : p = np := by omega
      subst ep
      exact ⟨rfl, ⟨gt9, gb9, ⟨ma_4, mt_4, mb_4⟩, ⟨nta, nba, ntb⟩, e1_4, ft_4, fb_4, hl9, hr9⟩, FR.tr hF (FR.tr (FR.tr (FR.tr (FR.wa e0_1 e2_1) (FR.wa e0_2 e2_2)) (FR.wa e0_3 e2_3)) (FR.wa e0_4 e2_4))⟩
    · refine r_iload dX8_foldUp_34 5 rfl ?_
      refine i_const (2) dX8_foldUp_36 ?_
      refine i_rem dX8_foldUp_37 (by unfold in32; omega) ⟨by decide, by decide⟩ (by omega) (by omega) ?_
      refine i_const (1) dX8_foldUp_38 ?_
      refine i_icmpne dX8_foldUp_39 (tgt := 46) (by decide) (by unfold in32; omega) ⟨by decide, by decide⟩ (fun c39 => ?_) (fun c39 => ?_)
      · refine i_const (0) dX8_foldUp_46 ?_
        refine r_istore (ls' := [(0, .ref a), (1, .int (iI ((np : Int)))), (2, .int (iI ((l.length : Int)))), (3, .int (iI (sz (lastL l)))), (4, .int (iI ((foldP l (!du) p).2))), (5, .int (iI ((p : Int)))), (6, .int (iI 0))]) dX8_foldUp_47 (by decide) rfl ?_
        refine i_const (0) dX8_foldUp_49 ?_
        refine r_istore (ls' := [(0, .ref a), (1, .int (iI ((np : Int)))), (2, .int (iI ((l.length : Int)))), (3, .int (iI (sz (lastL l)))), (4, .int (iI ((foldP l (!du) p).2))), (5, .int (iI ((p : Int)))), (6, .int (iI 0)), (7, .int (iI 0))]) dX8_foldUp_50 (by decide) rfl ?_
        have q := L2 (by omega) 0 (by omega) hh hT0 hF
        rw [show decide (p % 2 = 1) = false from decide_eq_false (by omega)] at q
        rw [show (foldP l (!du) p).2 + (putA (foldP l (!du) p).1 ((cpL l p).take 0) (!du)).2 = (foldP l (!du) p).2 from Int.add_zero _] at q
        exact q
      · refine i_const (1) dX8_foldUp_42 ?_
        refine r_goto dX8_foldUp_43 (tgt := 47) (by decide) ?_
        refine r_istore (ls' := [(0, .ref a), (1, .int (iI ((np : Int)))), (2, .int (iI ((l.length : Int)))), (3, .int (iI (sz (lastL l)))), (4, .int (iI ((foldP l (!du) p).2))), (5, .int (iI ((p : Int)))), (6, .int (iI 1))]) dX8_foldUp_47 (by decide) rfl ?_
        refine i_const (0) dX8_foldUp_49 ?_
        refine r_istore (ls' := [(0, .ref a), (1, .int (iI ((np : Int)))), (2, .int (iI ((l.length : Int)))), (3, .int (iI (sz (lastL l)))), (4, .int (iI ((foldP l (!du) p).2))), (5, .int (iI ((p : Int)))), (6, .int (iI 1)), (7, .int (iI 0))]) dX8_foldUp_50 (by decide) rfl ?_
        have q := L2 (by omega) 0 (by omega) hh hT0 hF
        rw [show decide (p % 2 = 1) = true from decide_eq_true (by omega)] at q
        rw [show (foldP l (!du) p).2 + (putA (foldP l (!du) p).1 ((cpL l p).take 0) (!du)).2 = (foldP l (!du) p).2 from Int.add_zero _] at q
        exact q
  show RR G MX8_foldUp 0 [(0, .ref a), (1, .int (iI ((np : Int))))] [] h (xm_R MX8_foldUp).cells (xm_R MX8_foldUp).slots (fun o h' => o = .inl none ∧ SH G h' a t b (foldS (l, ex, wa, fo, du, se, co) np) ∧ FR a t b h h')
  refine r_aload_n dX8_foldUp_0 0 rfl ?_
  refine r_get cl_X8 2 (by decide) kf_X8_19 dX8_foldUp_1 ma fa rfl ?_
  refine r_istore_n (ls' := [(0, .ref a), (1, .int (iI ((np : Int)))), (2, .int (iI ((l.length : Int))))]) dX8_foldUp_4 (by decide) rfl ?_
  refine r_iload_n dX8_foldUp_5 2 rfl ?_
  refine i_ifle dX8_foldUp_6 (tgt := 20) (by decide) (by unfold in32; omega) (fun c6 => ?_) (fun c6 => ?_)
  · refine i_const (0) dX8_foldUp_20 ?_
    refine r_istore_n (ls' := [(0, .ref a), (1, .int (iI ((np : Int)))), (2, .int (iI ((l.length : Int)))), (3, .int (iI 0))]) dX8_foldUp_21 (by decide) rfl ?_
    refine i_const (0) dX8_foldUp_22 ?_
    refine r_istore (ls' := [(0, .ref a), (1, .int (iI ((np : Int)))), (2, .int (iI ((l.length : Int)))), (3, .int (iI 0)), (4, .int (iI 0))]) dX8_foldUp_23 (by decide) rfl ?_
    refine i_const (1) dX8_foldUp_25 ?_
    refine r_istore (ls' := [(0, .ref a), (1, .int (iI ((np : Int)))), (2, .int (iI ((l.length : Int)))), (3, .int (iI 0)), (4, .int (iI 0)), (5, .int (iI 1))]) dX8_foldUp_26 (by decide) rfl ?_
    exfalso
    omega
  · refine r_aload_n dX8_foldUp_9 0 rfl ?_
    refine r_get cl_X8 0 (by decide) kf_X8_9 dX8_foldUp_10 ma fa rfl ?_
    refine r_iload_n dX8_foldUp_13 2 rfl ?_
    refine i_const (1) dX8_foldUp_14 ?_
    refine i_sub dX8_foldUp_15 ?_
    refine i_iald (l.length - 1) (by omega) dX8_foldUp_16 mt ft (by omega) (by decide) (hr (l.length - 1) (by omega)).1 ?_
    refine r_goto dX8_foldUp_17 (tgt := 21) (by decide) ?_
    refine r_istore_n (ls' := [(0, .ref a), (1, .int (iI ((np : Int)))), (2, .int (iI ((l.length : Int)))), (3, .int (iI (sz (l.getD (l.length - 1) 0))))]) dX8_foldUp_21 (by decide) rfl ?_
    refine i_const (0) dX8_foldUp_22 ?_
    refine r_istore (ls' := [(0, .ref a), (1, .int (iI ((np : Int)))), (2, .int (iI ((l.length : Int)))), (3, .int (iI (sz (l.getD (l.length - 1) 0)))), (4, .int (iI 0))]) dX8_foldUp_23 (by decide) rfl ?_
    refine i_const (1) dX8_foldUp_25 ?_
    refine r_istore (ls' := [(0, .ref a), (1, .int (iI ((np : Int)))), (2, .int (iI ((l.length : Int)))), (3, .int (iI (sz (l.getD (l.length - 1) 0)))), (4, .int (iI 0)), (5, .int (iI 1))]) dX8_foldUp_26 (by decide) rfl ?_
    have hS1 : SH G h a t b ((foldP l (!du) 1).1, ex, wa, fo, du, se, co) := by rw [foldP_1]; exact hS0
    have q := L 1 (by omega) (by omega) h hS1 FR.rf
    rw [foldP_1] at q
    exact q
set_option maxRecDepth 20000 in
set_option maxHeartbeats 1000000 in
theorem c_X8_rollOut {G : xG} {h : xH} {a t b : Nat} {s : AS} (hS : SH G h a t b s) (hW : WS s) (hG : GD G) {f m : Int} (hf : 2 ≤ f ∧ f ≤ 4) (hm : 0 ≤ m ∧ m ≤ 40) : CC G MX8_rollOut [.ref a, .int (iI f), .int (iI m)] h (fun o h' => o = .inl (some (.int (iI (rollR f (loss s m) s.1 s.1.length).2.1))) ∧ SH G h' a t b (rollS s f m) ∧ FR a t b h h') := by
  have hW0 := hW
  obtain ⟨l, ex, wa, fo, du, se, co⟩ := s
  have hS0 := hS
  obtain ⟨gt, gb, ⟨ma, mt, mb⟩, ⟨nta, nba, ntb⟩, fa, ft, fb, hl, hr⟩ := hS
  have hl : l.length ≤ 200 := hl
  have hr : sr gt gb l := hr
  have fa : h.2 a = .inr (5, [.ref t, .ref b, .int (iI (l.length : Int)), .int (iI ex), .int fo, .int (iI wa), .int (iI (b2 du)), .int (iI (b2 se)), .int (iI (b2 co))]) := fa
  obtain ⟨h1, hnz, h4, hw0, hw1⟩ := hW
  have h1 : 1 ≤ l.length := h1
  have h4 : hgt l ≤ 4000 := h4
  have hw0 : 0 ≤ wa := hw0
  have hw1 : wa ≤ 40 := hw1
  have hnz : ∀ x ∈ l, x ≠ 0 := hnz
  have hg0 := hgt_nn l
  have hgl := hgt_ge l hnz
  have hlo : 0 ≤ loss (l, ex, wa, fo, du, se, co) m ∧ loss (l, ex, wa, fo, du, se, co) m ≤ 40 := loss_b (s := (l, ex, wa, fo, du, se, co)) ⟨hw0, hw1⟩ hm
  have L : ∀ i, i ≤ l.length → ∀ (hh : xH) (gt9 gb9 : Nat → Int32), SHR G hh a t b ((rollR f (loss (l, ex, wa, fo, du, se, co) m) l i).1, ex, wa, fo, du, se, co) gt9 gb9 → (∀ k, i ≤ k → k < l.length → gt9 k = iI (sz (l.getD k 0)) ∧ gb9 k = iI (b2 (isB (l.getD k 0)))) → FR a t b h hh → RR G MX8_rollOut 29 [(0, .ref a), (1, .int (iI f)), (2, .int (iI m)), (3, .int (iI (loss (l, ex, wa, fo, du, se, co) m))), (4, .int (iI ((l.length : Int)))), (5, .int (iI ((rollR f (loss (l, ex, wa, fo, du, se, co) m) l i).2.1))), (6, .int (iI ((rollR f (loss (l, ex, wa, fo, du, se, co) m) l i).2.2.1))), (7, .int (iI (b2 (rollR f (loss (l, ex, wa, fo, du, se, co) m) l i).2.2.2))), (8, .int (iI ((i : Int))))] [] hh (xm_R MX8_rollOut).cells (xm_R MX8_rollOut).slots (fun o h' => o = .inl (some (.int (iI (rollR f (loss (l, ex, wa, fo, du, se, co) m) l l.length).2.1))) ∧ SH G h' a t b (rollS (l, ex, wa, fo, du, se, co) f m) ∧ FR a t b h h') := by
    refine down (fun i hi ih => ?_)
    intro hh gt9 gb9 hT hg hF
    have hT0 := hT
    have hT1 : SH G hh a t b ((rollR f (loss (l, ex, wa, fo, du, se, co) m) l i).1, ex, wa, fo, du, se, co) := hT.sh
    obtain ⟨⟨ma9, mt9, mb9⟩, -, fa9, ft9, fb9, hl9, hr9⟩ := hT
    have fa9 : hh.2 a = .inr (5, [.ref t, .ref b, .int (iI ((rollR f (loss (l, ex, wa, fo, du, se, co) m) l i).1.length : Int)), .int (iI ex), .int fo, .int (iI wa), .int (iI (b2 du)), .int (iI (b2 se)), .int (iI (b2 co))]) := fa9
    have hrl := rollR_len f (loss (l, ex, wa, fo, du, se, co) m) l i
    refine r_iload dX8_rollOut_29 8 rfl ?_
    refine r_iload dX8_rollOut_31 4 rfl ?_
    refine i_icmpge dX8_rollOut_33 (tgt := 98) (by decide) (by unfold in32; omega) (by unfold in32; omega) (fun c33 => ?_) (fun c33 => ?_)
    · refine r_aload_n dX8_rollOut_98 0 rfl ?_
      refine r_dup dX8_rollOut_99 rfl ?_
      refine r_get cl_X8 3 (by decide) kf_X8_23 dX8_rollOut_100 ma9 fa9 rfl ?_
      refine r_iload dX8_rollOut_103 5 rfl ?_
      refine r_iload dX8_rollOut_105 6 rfl ?_
      refine i_add dX8_rollOut_107 ?_
      refine i_sub dX8_rollOut_108 ?_
      refine i_put [.ref t, .ref b, .int (iI (((rollR f (loss (l, ex, wa, fo, du, se, co) m) l i).1.length : Int))), .int (iI (ex - (((rollR f (loss (l, ex, wa, fo, du, se, co) m) l i).2.1) + ((rollR f (loss (l, ex, wa, fo, du, se, co) m) l i).2.2.1)))), .int fo, .int (iI wa), .int (iI (b2 du)), .int (iI (b2 se)), .int (iI (b2 co))] cl_X8 3 (by decide) kf_X8_23 rfl dX8_rollOut_109 ma9 fa9 rfl rfl (by simp) rfl (fun h1 e0_1 e1_1 e2_1 => ?_)
      have ma_1 : a ∈ h1.1 := by rw [e0_1]; exact ma9
      have mt_1 : t ∈ h1.1 := by rw [e0_1]; exact mt9
      have ft_1 := (e2_1 _ nta).trans ft9
      have mb_1 : b ∈ h1.1 := by rw [e0_1]; exact mb9
      have fb_1 := (e2_1 _ nba).trans fb9
      refine r_aload_n dX8_rollOut_112 0 rfl ?_
      refine i_const (0) dX8_rollOut_113 ?_
      refine i_put [.ref t, .ref b, .int (iI (((rollR f (loss (l, ex, wa, fo, du, se, co) m) l i).1.length : Int))), .int (iI (ex - (((rollR f (loss (l, ex, wa, fo, du, se, co) m) l i).2.1) + ((rollR f (loss (l, ex, wa, fo, du, se, co) m) l i).2.2.1)))), .int fo, .int (iI wa), .int (iI (b2 du)), .int (iI 0), .int (iI (b2 co))] cl_X8 7 (by decide) kf_X8_36 rfl dX8_rollOut_114 ma_1 e1_1 (b2_nar false) (b2_fit false) (by simp) rfl (fun h2 e0_2 e1_2 e2_2 => ?_)
      have ma_2 : a ∈ h2.1 := by rw [e0_2]; exact ma_1
      have mt_2 : t ∈ h2.1 := by rw [e0_2]; exact mt_1
      have ft_2 := (e2_2 _ nta).trans ft_1
      have mb_2 : b ∈ h2.1 := by rw [e0_2]; exact mb_1
      have fb_2 := (e2_2 _ nba).trans fb_1
      refine r_aload_n dX8_rollOut_117 0 rfl ?_
      refine r_aload_n dX8_rollOut_118 0 rfl ?_
      refine r_get cl_X8 5 (by decide) kf_X8_29 dX8_rollOut_119 ma_2 e1_2 rfl ?_
      refine p_callSN (As := [.int (iI wa)]) (rest := [.ref a]) (w := (some (.int (iI (warmed wa))))) (st' := [.int (iI (warmed wa)), .ref a]) (kv_X8_rollOut_58 (gn_X8_58 hG)) dX8_rollOut_122 rfl rfl (Nat.le_of_ble_eq_true rfl) (Nat.le_of_ble_eq_true rfl) rfl rfl (c_X11_warmedByWork (by omega)) rfl (fun h9 e9 => ?_)
      rw [show h9 = h2 from e9]
      refine i_put [.ref t, .ref b, .int (iI (((rollR f (loss (l, ex, wa, fo, du, se, co) m) l i).1.length : Int))), .int (iI (ex - (((rollR f (loss (l, ex, wa, fo, du, se, co) m) l i).2.1) + ((rollR f (loss (l, ex, wa, fo, du, se, co) m) l i).2.2.1)))), .int fo, .int (iI (warmed wa)), .int (iI (b2 du)), .int (iI 0), .int (iI (b2 co))] cl_X8 5 (by decide) kf_X8_29 rfl dX8_rollOut_125 ma_2 e1_2 rfl rfl (by simp) rfl (fun h3 e0_3 e1_3 e2_3 => ?_)
      have ma_3 : a ∈ h3.1 := by rw [e0_3]; exact ma_2
      have mt_3 : t ∈ h3.1 := by rw [e0_3]; exact mt_2
      have ft_3 := (e2_3 _ nta).trans ft_2
      have mb_3 : b ∈ h3.1 := by rw [e0_3]; exact mb_2
      have fb_3 := (e2_3 _ nba).trans fb_2
      refine r_iload dX8_rollOut_128 5 rfl ?_
      refine r_ireturn rfl rfl dX8_rollOut_130 ?_
      have ei : i = l.length := by omega
      subst ei
      exact ⟨rfl, ⟨gt9, gb9, ⟨ma_3, mt_3, mb_3⟩, ⟨nta, nba, ntb⟩, e1_3, ft_3, fb_3, hl9, hr9⟩, FR.tr hF (FR.tr (FR.tr (FR.wa e0_1 e2_1) (FR.wa e0_2 e2_2)) (FR.wa e0_3 e2_3))⟩
    · have hi9 : i < l.length := by omega
      have ec := sz_le hi9
      have er := rt_b (x := l.getD i 0) hf hlo.1
      refine r_aload_n dX8_rollOut_36 0 rfl ?_
      refine r_iload dX8_rollOut_37 8 rfl ?_
      refine r_iload_n dX8_rollOut_39 1 rfl ?_
      refine r_iload_n dX8_rollOut_40 3 rfl ?_
      refine p_callV (As := [.int (iI ((i : Int))), .int (iI f), .int (iI (loss (l, ex, wa, fo, du, se, co) m))]) (b := a) (rest := []) (w := (some (.int (iI (rt f (loss (l, ex, wa, fo, du, se, co) m) (l.getD i 0)))))) (st' := [.int (iI (rt f (loss (l, ex, wa, fo, du, se, co) m) (l.getD i 0)))]) kv_X8_rollOut_74 dX8_rollOut_41 rfl rfl (Nat.le_of_ble_eq_true rfl) (Nat.le_of_ble_eq_true rfl) (x_rv ma9 fa9 rfl) rfl rfl (c_X8_thicknessRolledR ma9 mt9 mb9 fa9 ft9 fb9 (i := i) (by omega) (hg i (Nat.le_refl _) hi9).1 (hg i (Nat.le_refl _) hi9).2 (by omega) hf hlo) rfl (fun h9 e9 => ?_)
      rw [show h9 = hh from e9]
      refine r_istore (ls' := [(0, .ref a), (1, .int (iI f)), (2, .int (iI m)), (3, .int (iI (loss (l, ex, wa, fo, du, se, co) m))), (4, .int (iI ((l.length : Int)))), (5, .int (iI ((rollR f (loss (l, ex, wa, fo, du, se, co) m) l i).2.1))), (6, .int (iI ((rollR f (loss (l, ex, wa, fo, du, se, co) m) l i).2.2.1))), (7, .int (iI (b2 (rollR f (loss (l, ex, wa, fo, du, se, co) m) l i).2.2.2))), (8, .int (iI ((i : Int)))), (9, .int (iI (rt f (loss (l, ex, wa, fo, du, se, co) m) (l.getD i 0))))]) dX8_rollOut_44 (by decide) rfl ?_
      refine r_iload dX8_rollOut_46 9 rfl ?_
      refine i_ifne dX8_rollOut_48 (tgt := 60) (by decide) (by unfold in32; omega) (fun c48 => ?_) (fun c48 => ?_)
      · refine r_aload_n dX8_rollOut_60 0 rfl ?_
        refine r_aload_n dX8_rollOut_61 0 rfl ?_
        refine r_get cl_X8 1 (by decide) kf_X8_15 dX8_rollOut_62 ma9 fa9 rfl ?_
        refine r_iload dX8_rollOut_65 8 rfl ?_
        refine i_zald i rfl dX8_rollOut_67 mb9 fb9 (by omega) (by decide) (hg i (Nat.le_refl _) hi9).2 ?_
        refine r_iload dX8_rollOut_68 9 rfl ?_
        refine r_iload dX8_rollOut_70 7 rfl ?_
        refine i_ifneb dX8_rollOut_72 (tgt := 79) (by decide) (fun c72 => ?_) (fun c72 => ?_)
        · refine i_const (0) dX8_rollOut_79 ?_
          have ers := rsg_sz (x := l.getD i 0) hf hlo.1 c48
          have cP := c_X8_putLayerR (x := rsg f (loss (l, ex, wa, fo, du, se, co) m) (l.getD i 0)) (ap := false) hT0 (Or.inl (by show (rollR f (loss (l, ex, wa, fo, du, se, co) m) l i).1.length < 200; omega))
          rw [ers.1, ers.2] at cP
          have es := rollR_f (f := f) (lo := loss (l, ex, wa, fo, du, se, co) m) (l := l) (k := i) c48
          rw [c72] at es
          refine p_callV (As := [.int (iI (b2 (isB (l.getD i 0)))), .int (iI (rt f (loss (l, ex, wa, fo, du, se, co) m) (l.getD i 0))), .int (iI 0)]) (b := a) (rest := []) (w := (some (.int (iI (b2 (putN (rollR f (loss (l, ex, wa, fo, du, se, co) m) l i).1 (rsg f (loss (l, ex, wa, fo, du, se, co) m) (l.getD i 0)) (!false)).2))))) (st' := [.int (iI (b2 (putN (rollR f (loss (l, ex, wa, fo, du, se, co) m) l i).1 (rsg f (loss (l, ex, wa, fo, du, se, co) m) (l.getD i 0)) (!false)).2))]) kv_X8_rollOut_42 dX8_rollOut_80 rfl rfl (Nat.le_of_ble_eq_true rfl) (Nat.le_of_ble_eq_true rfl) (x_rv ma9 fa9 rfl) rfl rfl (cP) rfl (fun h9 e9 => ?_)
          obtain ⟨gt8, gb8, hS9, hk9, hF9⟩ := e9
          refine i_ifeqb dX8_rollOut_83 (tgt := 89) (by decide) (fun c83 => ?_) (fun c83 => ?_)
          · refine i_const (0) dX8_rollOut_89 ?_
            refine r_istore (ls' := [(0, .ref a), (1, .int (iI f)), (2, .int (iI m)), (3, .int (iI (loss (l, ex, wa, fo, du, se, co) m))), (4, .int (iI ((l.length : Int)))), (5, .int (iI ((rollR f (loss (l, ex, wa, fo, du, se, co) m) l i).2.1))), (6, .int (iI ((rollR f (loss (l, ex, wa, fo, du, se, co) m) l i).2.2.1))), (7, .int (iI 0)), (8, .int (iI ((i : Int)))), (9, .int (iI (rt f (loss (l, ex, wa, fo, du, se, co) m) (l.getD i 0))))]) dX8_rollOut_90 (by decide) rfl ?_
            refine i_iinc (ls' := [(0, .ref a), (1, .int (iI f)), (2, .int (iI m)), (3, .int (iI (loss (l, ex, wa, fo, du, se, co) m))), (4, .int (iI ((l.length : Int)))), (5, .int (iI ((rollR f (loss (l, ex, wa, fo, du, se, co) m) l i).2.1))), (6, .int (iI ((rollR f (loss (l, ex, wa, fo, du, se, co) m) l i).2.2.1))), (7, .int (iI 0)), (8, .int (iI ((i : Int) + 1))), (9, .int (iI (rt f (loss (l, ex, wa, fo, du, se, co) m) (l.getD i 0))))]) (1) (v := (i : Int) + 1) dX8_rollOut_92 8 rfl (by omega) (by decide) rfl ?_
            refine r_goto dX8_rollOut_95 (tgt := 29) (by decide) ?_
            have hl2 := rollR_len f (loss (l, ex, wa, fo, du, se, co) m) l (i + 1)
            have q := ih (i + 1) (by omega) (by omega) h9 gt8 gb8 (by rw [es]; exact hS9) (fun k h8 h9 => ?_) (FR.tr hF hF9)
            · rw [es] at q
              rw [show (putN (rollR f (loss (l, ex, wa, fo, du, se, co) m) l i).1 (rsg f (loss (l, ex, wa, fo, du, se, co) m) (l.getD i 0)) true).2 = false from c83] at q
              rw [show b2 false = 0 from rfl, Int.add_zero] at q
              exact rr_take 9 rfl q
            · rw [es] at hl2
              have y := hk9 k (Nat.le_trans hl2 h8)
              have y2 := hg k (by omega) h9
              exact ⟨y.1.trans y2.1, y.2.trans y2.2⟩
          · refine i_iinc (ls' := [(0, .ref a), (1, .int (iI f)), (2, .int (iI m)), (3, .int (iI (loss (l, ex, wa, fo, du, se, co) m))), (4, .int (iI ((l.length : Int)))), (5, .int (iI ((rollR f (loss (l, ex, wa, fo, du, se, co) m) l i).2.1))), (6, .int (iI (((rollR f (loss (l, ex, wa, fo, du, se, co) m) l i).2.2.1) + 1))), (7, .int (iI (b2 (rollR f (loss (l, ex, wa, fo, du, se, co) m) l i).2.2.2))), (8, .int (iI ((i : Int)))), (9, .int (iI (rt f (loss (l, ex, wa, fo, du, se, co) m) (l.getD i 0))))]) (1) (v := ((rollR f (loss (l, ex, wa, fo, du, se, co) m) l i).2.2.1) + 1) dX8_rollOut_86 6 rfl (by omega) (by decide) rfl ?_
            refine i_const (0) dX8_rollOut_89 ?_
            refine r_istore (ls' := [(0, .ref a), (1, .int (iI f)), (2, .int (iI m)), (3, .int (iI (loss (l, ex, wa, fo, du, se, co) m))), (4, .int (iI ((l.length : Int)))), (5, .int (iI ((rollR f (loss (l, ex, wa, fo, du, se, co) m) l i).2.1))), (6, .int (iI (((rollR f (loss (l, ex, wa, fo, du, se, co) m) l i).2.2.1) + 1))), (7, .int (iI 0)), (8, .int (iI ((i : Int)))), (9, .int (iI (rt f (loss (l, ex, wa, fo, du, se, co) m) (l.getD i 0))))]) dX8_rollOut_90 (by decide) rfl ?_
            refine i_iinc (ls' := [(0, .ref a), (1, .int (iI f)), (2, .int (iI m)), (3, .int (iI (loss (l, ex, wa, fo, du, se, co) m))), (4, .int (iI ((l.length : Int)))), (5, .int (iI ((rollR f (loss (l, ex, wa, fo, du, se, co) m) l i).2.1))), (6, .int (iI (((rollR f (loss (l, ex, wa, fo, du, se, co) m) l i).2.2.1) + 1))), (7, .int (iI 0)), (8, .int (iI ((i : Int) + 1))), (9, .int (iI (rt f (loss (l, ex, wa, fo, du, se, co) m) (l.getD i 0))))]) (1) (v := (i : Int) + 1) dX8_rollOut_92 8 rfl (by omega) (by decide) rfl ?_
            refine r_goto dX8_rollOut_95 (tgt := 29) (by decide) ?_
            have hl2 := rollR_len f (loss (l, ex, wa, fo, du, se, co) m) l (i + 1)
            have q := ih (i + 1) (by omega) (by omega) h9 gt8 gb8 (by rw [es]; exact hS9) (fun k h8 h9 => ?_) (FR.tr hF hF9)
            · rw [es] at q
              rw [show (putN (rollR f (loss (l, ex, wa, fo, du, se, co) m) l i).1 (rsg f (loss (l, ex, wa, fo, du, se, co) m) (l.getD i 0)) true).2 = true from c83] at q
              exact rr_take 9 rfl q
            · rw [es] at hl2
              have y := hk9 k (Nat.le_trans hl2 h8)
              have y2 := hg k (by omega) h9
              exact ⟨y.1.trans y2.1, y.2.trans y2.2⟩
        · refine i_const (1) dX8_rollOut_75 ?_
          refine r_goto dX8_rollOut_76 (tgt := 80) (by decide) ?_
          have ers := rsg_sz (x := l.getD i 0) hf hlo.1 c48
          have cP := c_X8_putLayerR (x := rsg f (loss (l, ex, wa, fo, du, se, co) m) (l.getD i 0)) (ap := true) hT0 (Or.inl (by show (rollR f (loss (l, ex, wa, fo, du, se, co) m) l i).1.length < 200; omega))
          rw [ers.1, ers.2] at cP
          have es := rollR_f (f := f) (lo := loss (l, ex, wa, fo, du, se, co) m) (l := l) (k := i) c48
          rw [c72] at es
          refine p_callV (As := [.int (iI (b2 (isB (l.getD i 0)))), .int (iI (rt f (loss (l, ex, wa, fo, du, se, co) m) (l.getD i 0))), .int (iI 1)]) (b := a) (rest := []) (w := (some (.int (iI (b2 (putN (rollR f (loss (l, ex, wa, fo, du, se, co) m) l i).1 (rsg f (loss (l, ex, wa, fo, du, se, co) m) (l.getD i 0)) (!true)).2))))) (st' := [.int (iI (b2 (putN (rollR f (loss (l, ex, wa, fo, du, se, co) m) l i).1 (rsg f (loss (l, ex, wa, fo, du, se, co) m) (l.getD i 0)) (!true)).2))]) kv_X8_rollOut_42 dX8_rollOut_80 rfl rfl (Nat.le_of_ble_eq_true rfl) (Nat.le_of_ble_eq_true rfl) (x_rv ma9 fa9 rfl) rfl rfl (cP) rfl (fun h9 e9 => ?_)
          obtain ⟨gt8, gb8, hS9, hk9, hF9⟩ := e9
          refine i_ifeqb dX8_rollOut_83 (tgt := 89) (by decide) (fun c83 => ?_) (fun c83 => ?_)
          · refine i_const (0) dX8_rollOut_89 ?_
            refine r_istore (ls' := [(0, .ref a), (1, .int (iI f)), (2, .int (iI m)), (3, .int (iI (loss (l, ex, wa, fo, du, se, co) m))), (4, .int (iI ((l.length : Int)))), (5, .int (iI ((rollR f (loss (l, ex, wa, fo, du, se, co) m) l i).2.1))), (6, .int (iI ((rollR f (loss (l, ex, wa, fo, du, se, co) m) l i).2.2.1))), (7, .int (iI 0)), (8, .int (iI ((i : Int)))), (9, .int (iI (rt f (loss (l, ex, wa, fo, du, se, co) m) (l.getD i 0))))]) dX8_rollOut_90 (by decide) rfl ?_
            refine i_iinc (ls' := [(0, .ref a), (1, .int (iI f)), (2, .int (iI m)), (3, .int (iI (loss (l, ex, wa, fo, du, se, co) m))), (4, .int (iI ((l.length : Int)))), (5, .int (iI ((rollR f (loss (l, ex, wa, fo, du, se, co) m) l i).2.1))), (6, .int (iI ((rollR f (loss (l, ex, wa, fo, du, se, co) m) l i).2.2.1))), (7, .int (iI 0)), (8, .int (iI ((i : Int) + 1))), (9, .int (iI (rt f (loss (l, ex, wa, fo, du, se, co) m) (l.getD i 0))))]) (1) (v := (i : Int) + 1) dX8_rollOut_92 8 rfl (by omega) (by decide) rfl ?_
            refine r_goto dX8_rollOut_95 (tgt := 29) (by decide) ?_
            have hl2 := rollR_len f (loss (l, ex, wa, fo, du, se, co) m) l (i + 1)
            have q := ih (i + 1) (by omega) (by omega) h9 gt8 gb8 (by rw [es]; exact hS9) (fun k h8 h9 => ?_) (FR.tr hF hF9)
            · rw [es] at q
              rw [show (putN (rollR f (loss (l, ex, wa, fo, du, se, co) m) l i).1 (rsg f (loss (l, ex, wa, fo, du, se, co) m) (l.getD i 0)) false).2 = false from c83] at q
              rw [show b2 false = 0 from rfl, Int.add_zero] at q
              exact rr_take 9 rfl q
            · rw [es] at hl2
              have y := hk9 k (Nat.le_trans hl2 h8)
              have y2 := hg k (by omega) h9
              exact ⟨y.1.trans y2.1, y.2.trans y2.2⟩
          · refine i_iinc (ls' := [(0, .ref a), (1, .int (iI f)), (2, .int (iI m)), (3, .int (iI (loss (l, ex, wa, fo, du, se, co) m))), (4, .int (iI ((l.length : Int)))), (5, .int (iI ((rollR f (loss (l, ex, wa, fo, du, se, co) m) l i).2.1))), (6, .int (iI (((rollR f (loss (l, ex, wa, fo, du, se, co) m) l i).2.2.1) + 1))), (7, .int (iI (b2 (rollR f (loss (l, ex, wa, fo, du, se, co) m) l i).2.2.2))), (8, .int (iI ((i : Int)))), (9, .int (iI (rt f (loss (l, ex, wa, fo, du, se, co) m) (l.getD i 0))))]) (1) (v := ((rollR f (loss (l, ex, wa, fo, du, se, co) m) l i).2.2.1) + 1) dX8_rollOut_86 6 rfl (by omega) (by decide) rfl ?_
            refine i_const (0) dX8_rollOut_89 ?_
            refine r_istore (ls' := [(0, .ref a), (1, .int (iI f)), (2, .int (iI m)), (3, .int (iI (loss (l, ex, wa, fo, du, se, co) m))), (4, .int (iI ((l.length : Int)))), (5, .int (iI ((rollR f (loss (l, ex, wa, fo, du, se, co) m) l i).2.1))), (6, .int (iI (((rollR f (loss (l, ex, wa, fo, du, se, co) m) l i).2.2.1) + 1))), (7, .int (iI 0)), (8, .int (iI ((i : Int)))), (9, .int (iI (rt f (loss (l, ex, wa, fo, du, se, co) m) (l.getD i 0))))]) dX8_rollOut_90 (by decide) rfl ?_
            refine i_iinc (ls' := [(0, .ref a), (1, .int (iI f)), (2, .int (iI m)), (3, .int (iI (loss (l, ex, wa, fo, du, se, co) m))), (4, .int (iI ((l.length : Int)))), (5, .int (iI ((rollR f (loss (l, ex, wa, fo, du, se, co) m) l i).2.1))), (6, .int (iI (((rollR f (loss (l, ex, wa, fo, du, se, co) m) l i).2.2.1) + 1))), (7, .int (iI 0)), (8, .int (iI ((i : Int) + 1))), (9, .int (iI (rt f (loss (l, ex, wa, fo, du, se, co) m) (l.getD i 0))))]) (1) (v := (i : Int) + 1) dX8_rollOut_92 8 rfl (by omega) (by decide) rfl ?_
            refine r_goto dX8_rollOut_95 (tgt := 29) (by decide) ?_
            have hl2 := rollR_len f (loss (l, ex, wa, fo, du, se, co) m) l (i + 1)
            have q := ih (i + 1) (by omega) (by omega) h9 gt8 gb8 (by rw [es]; exact hS9) (fun k h8 h9 => ?_) (FR.tr hF hF9)
            · rw [es] at q
              rw [show (putN (rollR f (loss (l, ex, wa, fo, du, se, co) m) l i).1 (rsg f (loss (l, ex, wa, fo, du, se, co) m) (l.getD i 0)) false).2 = true from c83] at q
              exact rr_take 9 rfl q
            · rw [es] at hl2
              have y := hk9 k (Nat.le_trans hl2 h8)
              have y2 := hg k (by omega) h9
              exact ⟨y.1.trans y2.1, y.2.trans y2.2⟩
      · refine i_iinc (ls' := [(0, .ref a), (1, .int (iI f)), (2, .int (iI m)), (3, .int (iI (loss (l, ex, wa, fo, du, se, co) m))), (4, .int (iI ((l.length : Int)))), (5, .int (iI (((rollR f (loss (l, ex, wa, fo, du, se, co) m) l i).2.1) + 1))), (6, .int (iI ((rollR f (loss (l, ex, wa, fo, du, se, co) m) l i).2.2.1))), (7, .int (iI (b2 (rollR f (loss (l, ex, wa, fo, du, se, co) m) l i).2.2.2))), (8, .int (iI ((i : Int)))), (9, .int (iI (rt f (loss (l, ex, wa, fo, du, se, co) m) (l.getD i 0))))]) (1) (v := ((rollR f (loss (l, ex, wa, fo, du, se, co) m) l i).2.1) + 1) dX8_rollOut_51 5 rfl (by omega) (by decide) rfl ?_
        refine i_const (1) dX8_rollOut_54 ?_
        refine r_istore (ls' := [(0, .ref a), (1, .int (iI f)), (2, .int (iI m)), (3, .int (iI (loss (l, ex, wa, fo, du, se, co) m))), (4, .int (iI ((l.length : Int)))), (5, .int (iI (((rollR f (loss (l, ex, wa, fo, du, se, co) m) l i).2.1) + 1))), (6, .int (iI ((rollR f (loss (l, ex, wa, fo, du, se, co) m) l i).2.2.1))), (7, .int (iI 1)), (8, .int (iI ((i : Int)))), (9, .int (iI (rt f (loss (l, ex, wa, fo, du, se, co) m) (l.getD i 0))))]) dX8_rollOut_55 (by decide) rfl ?_
        refine r_goto dX8_rollOut_57 (tgt := 92) (by decide) ?_
        refine i_iinc (ls' := [(0, .ref a), (1, .int (iI f)), (2, .int (iI m)), (3, .int (iI (loss (l, ex, wa, fo, du, se, co) m))), (4, .int (iI ((l.length : Int)))), (5, .int (iI (((rollR f (loss (l, ex, wa, fo, du, se, co) m) l i).2.1) + 1))), (6, .int (iI ((rollR f (loss (l, ex, wa, fo, du, se, co) m) l i).2.2.1))), (7, .int (iI 1)), (8, .int (iI ((i : Int) + 1))), (9, .int (iI (rt f (loss (l, ex, wa, fo, du, se, co) m) (l.getD i 0))))]) (1) (v := (i : Int) + 1) dX8_rollOut_92 8 rfl (by omega) (by decide) rfl ?_
        refine r_goto dX8_rollOut_95 (tgt := 29) (by decide) ?_
        have es := rollR_t (f := f) (lo := loss (l, ex, wa, fo, du, se, co) m) (l := l) (k := i) (by omega)
        have q := ih (i + 1) (by omega) (by omega) hh gt9 gb9 (by rw [es]; exact hT0) (fun k h8 h9 => hg k (by omega) h9) hF
        rw [es] at q
        exact rr_take 9 rfl q
  show RR G MX8_rollOut 0 [(0, .ref a), (1, .int (iI f)), (2, .int (iI m))] [] h (xm_R MX8_rollOut).cells (xm_R MX8_rollOut).slots (fun o h' => o = .inl (some (.int (iI (rollR f (loss (l, ex, wa, fo, du, se, co) m) l l.length).2.1))) ∧ SH G h' a t b (rollS (l, ex, wa, fo, du, se, co) f m) ∧ FR a t b h h')
  refine r_aload_n dX8_rollOut_0 0 rfl ?_
  refine r_iload_n dX8_rollOut_1 2 rfl ?_
  refine p_callV (As := [.int (iI m)]) (b := a) (rest := []) (w := (some (.int (iI (loss (l, ex, wa, fo, du, se, co) m))))) (st' := [.int (iI (loss (l, ex, wa, fo, du, se, co) m))]) kv_X8_rollOut_68 dX8_rollOut_2 rfl rfl (Nat.le_of_ble_eq_true rfl) (Nat.le_of_ble_eq_true rfl) (x_rv ma fa rfl) rfl rfl (c_X8_lossPerLayer hS0 hW0 hm) rfl (fun h9 e9 => ?_)
  rw [show h9 = h from e9]
  refine r_istore_n (ls' := [(0, .ref a), (1, .int (iI f)), (2, .int (iI m)), (3, .int (iI (loss (l, ex, wa, fo, du, se, co) m)))]) dX8_rollOut_5 (by decide) rfl ?_
  refine r_aload_n dX8_rollOut_6 0 rfl ?_
  refine r_get cl_X8 2 (by decide) kf_X8_19 dX8_rollOut_7 ma fa rfl ?_
  refine r_istore (ls' := [(0, .ref a), (1, .int (iI f)), (2, .int (iI m)), (3, .int (iI (loss (l, ex, wa, fo, du, se, co) m))), (4, .int (iI ((l.length : Int))))]) dX8_rollOut_10 (by decide) rfl ?_
  refine i_const (0) dX8_rollOut_12 ?_
  refine r_istore (ls' := [(0, .ref a), (1, .int (iI f)), (2, .int (iI m)), (3, .int (iI (loss (l, ex, wa, fo, du, se, co) m))), (4, .int (iI ((l.length : Int)))), (5, .int (iI 0))]) dX8_rollOut_13 (by decide) rfl ?_
  refine i_const (0) dX8_rollOut_15 ?_
  refine r_istore (ls' := [(0, .ref a), (1, .int (iI f)), (2, .int (iI m)), (3, .int (iI (loss (l, ex, wa, fo, du, se, co) m))), (4, .int (iI ((l.length : Int)))), (5, .int (iI 0)), (6, .int (iI 0))]) dX8_rollOut_16 (by decide) rfl ?_
  refine i_const (0) dX8_rollOut_18 ?_
  refine r_istore (ls' := [(0, .ref a), (1, .int (iI f)), (2, .int (iI m)), (3, .int (iI (loss (l, ex, wa, fo, du, se, co) m))), (4, .int (iI ((l.length : Int)))), (5, .int (iI 0)), (6, .int (iI 0)), (7, .int (iI 0))]) dX8_rollOut_19 (by decide) rfl ?_
  refine r_aload_n dX8_rollOut_21 0 rfl ?_
  refine i_const (0) dX8_rollOut_22 ?_
  refine i_put [.ref t, .ref b, .int (iI 0), .int (iI ex), .int fo, .int (iI wa), .int (iI (b2 du)), .int (iI (b2 se)), .int (iI (b2 co))] cl_X8 2 (by decide) kf_X8_19 rfl dX8_rollOut_23 ma fa rfl rfl (by simp) rfl (fun h1 e0_1 e1_1 e2_1 => ?_)
  have ma_1 : a ∈ h1.1 := by rw [e0_1]; exact ma
  have mt_1 : t ∈ h1.1 := by rw [e0_1]; exact mt
  have ft_1 := (e2_1 _ nta).trans ft
  have mb_1 : b ∈ h1.1 := by rw [e0_1]; exact mb
  have fb_1 := (e2_1 _ nba).trans fb
  refine i_const (0) dX8_rollOut_26 ?_
  refine r_istore (ls' := [(0, .ref a), (1, .int (iI f)), (2, .int (iI m)), (3, .int (iI (loss (l, ex, wa, fo, du, se, co) m))), (4, .int (iI ((l.length : Int)))), (5, .int (iI 0)), (6, .int (iI 0)), (7, .int (iI 0)), (8, .int (iI 0))]) dX8_rollOut_27 (by decide) rfl ?_
  exact L 0 (by omega) _ gt gb ⟨⟨ma_1, mt_1, mb_1⟩, ⟨nta, nba, ntb⟩, e1_1, ft_1, fb_1, Nat.zero_le _, fun k hk => absurd hk (Nat.not_lt_zero k)⟩ (fun k _ hk => hr k hk) (FR.wa e0_1 e2_1)
