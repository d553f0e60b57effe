/-! ===== the reference: numbers ===== -/
def cv (T : List Int) (s : Nat) : Nat → Int
  | 0 => 0
  | k + 1 => if 9999999 < cv T s k then cv T s k else 10 * cv T s k + T.getD (s + k) 0 - 48
theorem cv_t {T : List Int} {s k : Nat} (h : 9999999 < cv T s k) : cv T s (k + 1) = cv T s k := by rw [cv, if_pos h]
theorem cv_f {T : List Int} {s k : Nat} (h : cv T s k ≤ 9999999) : cv T s (k + 1) = 10 * cv T s k + T.getD (s + k) 0 - 48 := by rw [cv, if_neg (by omega)]
theorem cv_ok {T : List Int} {s : Nat} (k : Nat) (hd : ∀ i, i < k → isDigB (T.getD (s + i) 0) = true) : (0 ≤ cv T s k ∧ cv T s k ≤ 200000000) ∧ (valU T s k ≤ 9999999 → cv T s k = valU T s k) ∧ (9999999 < valU T s k → 9999999 < cv T s k) := by
  induction k with
  | zero => exact ⟨⟨show (0 : Int) ≤ 0 by decide, show (0 : Int) ≤ 200000000 by decide⟩, fun _ => rfl, fun z => absurd z (show ¬ (9999999 : Int) < 0 by decide)⟩
  | succ k ih =>
    obtain ⟨⟨h0, h1⟩, h2, h3⟩ := ih (fun i hi => hd i (by omega))
    have hdk := dig_t (hd k (by omega))
    have hvn := valU_nn T s k (fun i hi => hd i (by omega))
    have ev : valU T s (k + 1) = valU T s k * 10 + (T.getD (s + k) 0 - 48) := rfl
    by_cases c : 9999999 < cv T s k
    · rw [cv_t c, ev]
      refine ⟨⟨h0, h1⟩, fun z => ?_, fun _ => c⟩
      have : valU T s k ≤ 9999999 := by omega
      have := h2 this
      omega
    · rw [cv_f (by omega), ev]
      have h4 : valU T s k ≤ 9999999 := by
        by_cases d : valU T s k ≤ 9999999
        · exact d
        · have := h3 (by omega); omega
      have h5 := h2 h4
      rw [h5]
      refine ⟨⟨by omega, by omega⟩, fun z => by omega, fun z => by omega⟩
theorem tok_num {T : List Int} {p : Nat} (hk : (tokAt T p).1 = 1) : ∀ i, i < (tokAt T p).2.2 - (tokAt T p).2.1 → isDigB (T.getD ((tokAt T p).2.1 + i) 0) = true := by
  unfold tokAt at hk ⊢
  generalize endR isSepB T p = S at hk ⊢
  unfold tokS at hk ⊢
  split at hk
  · cases hk
  · rename_i c1
    split at hk
    · cases hk
    · rename_i c2
      split at hk
      · rename_i c3
        rw [if_neg c1, if_neg c2, if_pos c3]
        intro i hi
        have hi : i < endR isDigB T (S + 1) - S := hi
        have e := endR_t (p := isDigB) (T := T) (i := S) (by omega) c3
        have b := endR_b isDigB T S
        exact dig_run (endR isDigB T (S + 1) - S) S i hi (by rw [e] at *; omega)
      · split at hk <;> cases hk
def numV (T : List Int) (p : Nat) : Int := if (tokAt T p).1 = 1 then cv T (tokAt T p).2.1 ((tokAt T p).2.2 - (tokAt T p).2.1) else 0
theorem numV_b (T : List Int) (p : Nat) : 0 ≤ numV T p ∧ numV T p ≤ 200000000 := by
  unfold numV
  split
  · rename_i c; exact (cv_ok _ (tok_num c)).1
  · exact ⟨by decide, by decide⟩
theorem numV_r {T : List Int} {p : Nat} (hk : (tokAt T p).1 = 1) {lo hi : Int} (hhi : hi ≤ 1000) : inR (numV T p) lo hi = (decide (lo ≤ nVal T p) && decide (nVal T p ≤ hi)) ∧ (nVal T p ≤ hi → numV T p = nVal T p) := by
  obtain ⟨h1, h2, h3⟩ := cv_ok _ (tok_num hk)
  have e : numV T p = cv T (tokAt T p).2.1 ((tokAt T p).2.2 - (tokAt T p).2.1) := if_pos hk
  have e2 : nVal T p = valU T (tokAt T p).2.1 ((tokAt T p).2.2 - (tokAt T p).2.1) := rfl
  rw [← e] at h1 h2 h3
  rw [← e2] at h2 h3
  by_cases c : nVal T p ≤ 9999999
  · rw [h2 c]; exact ⟨rfl, fun _ => rfl⟩
  · have := h3 (by omega)
    refine ⟨?_, fun z => by omega⟩
    unfold inR
    rw [decide_eq_false (show ¬ numV T p ≤ hi by omega), decide_eq_false (show ¬ nVal T p ≤ hi by omega), Bool.and_false, Bool.and_false]
set_option maxRecDepth 20000 in
set_option maxHeartbeats 1000000 in
theorem c_X12_value {G : xG} {h : xH} {m : Nat} {a : MA} {r : MR} (hM : MO G h m a r) {T : List Int} {p : Nat} {e o : Int} (hT : TS r T p e o) {gi : Nat → Int32} (hA : AR G h a.2.2.2.2.2.2.1 500 gi) (hl5 : T.length ≤ 500) (hg : ∀ k, k < T.length → gi k = iI (T.getD k 0)) (hb : BYT T) : CC G MX12_value [.ref m] h (qI (numV T p) h) := by
  have hbb := hT.b
  have htk := tkM_b T hT.2.1
  by_cases hk1 : (tokAt T p).1 = 1
  · have hdg := tok_num hk1
    have L : ∀ k, k ≤ (tokAt T p).2.2 - (tokAt T p).2.1 → RR G MX12_value 7 [(0, .ref m), (1, .int (iI (cv T (tokAt T p).2.1 k))), (2, .int (iI (((tokAt T p).2.1 : Int) + (k : Int))))] [] h (xm_R MX12_value).cells (xm_R MX12_value).slots (qI (numV T p) h) := by
      refine down (fun k hk9 ih => ?_)
      refine r_iload_n dX12_value_7 2 rfl ?_
      refine r_aload_n dX12_value_8 0 rfl ?_
      refine m_g_nx (v := ((tokAt T p).2.2 : Int)) hM hT.2.2.1 kf_X12_288 dX12_value_9 ?_
      refine i_icmpge dX12_value_12 (tgt := 55) (by decide) (by unfold in32; omega) (by unfold in32; omega) (fun c12 => ?_) (fun c12 => ?_)
      · refine r_iload_n dX12_value_55 1 rfl ?_
        refine r_ireturn rfl rfl dX12_value_56 ?_
        have e9 : numV T p = cv T (tokAt T p).2.1 k := by unfold numV; rw [if_pos hk1, show (tokAt T p).2.2 - (tokAt T p).2.1 = k by omega]
        rw [e9]
        exact ⟨rfl, rfl⟩
      · have hcv := cv_ok k (fun i hi => hdg i (by omega))
        have hd9 := dig_t (hdg k (by omega))
        refine r_aload_n dX12_value_15 0 rfl ?_
        refine m_g_tk (v := tkM (tokAt T p).1) hM hT.2.2.2.2.1 kf_X12_294 dX12_value_16 ?_
        refine i_const (2) dX12_value_19 ?_
        refine i_icmpne dX12_value_20 (tgt := 55) (by decide) (by unfold in32; omega) ⟨by decide, by decide⟩ (fun c20 => ?_) (fun c20 => ?_)
        · refine r_iload_n dX12_value_55 1 rfl ?_
          refine r_ireturn rfl rfl dX12_value_56 ?_
          exfalso
          exact c20 (by rw [hk1]; rfl)
        · refine r_iload_n dX12_value_23 1 rfl ?_
          refine i_ldcW (9999999) (by decide) kk_X12_336 dX12_value_24 ?_
          refine i_icmple dX12_value_27 (tgt := 34) (by decide) (by unfold in32; omega) ⟨by decide, by decide⟩ (fun c27 => ?_) (fun c27 => ?_)
          · refine i_bipush (10) (by decide) dX12_value_34 ?_
            refine r_iload_n dX12_value_36 1 rfl ?_
            refine i_mul dX12_value_37 ?_
            refine r_aload_n dX12_value_38 0 rfl ?_
            refine m_g_bu (v := a.2.2.2.2.2.2.1) hM rfl kf_X12_31 dX12_value_39 ?_
            refine r_iload_n dX12_value_42 2 rfl ?_
            refine m_ld (v := iI (T.getD ((tokAt T p).2.1 + k) 0)) ((tokAt T p).2.1 + k) (by omega) (hg ((tokAt T p).2.1 + k) (by omega)) hA dX12_value_43 (by omega) (by decide) ?_
            refine i_add dX12_value_44 ?_
            refine i_bipush (48) (by decide) dX12_value_45 ?_
            refine i_sub dX12_value_47 ?_
            refine r_istore_n (ls' := [(0, .ref m), (1, .int (iI (((10 * (cv T (tokAt T p).2.1 k)) + (T.getD ((tokAt T p).2.1 + k) 0)) - 48))), (2, .int (iI (((tokAt T p).2.1 : Int) + (k : Int))))]) dX12_value_48 (by decide) rfl ?_
            refine i_iinc (ls' := [(0, .ref m), (1, .int (iI (((10 * (cv T (tokAt T p).2.1 k)) + (T.getD ((tokAt T p).2.1 + k) 0)) - 48))), (2, .int (iI ((((tokAt T p).2.1 : Int) + (k : Int)) + 1)))]) (1) (v := (((tokAt T p).2.1 : Int) + (k : Int)) + 1) dX12_value_49 2 rfl (by omega) (by decide) rfl ?_
            refine r_goto dX12_value_52 (tgt := 7) (by decide) ?_
            have q := ih (k + 1) (by omega) (by omega)
            rw [cv_f (by omega)] at q
            rw [show (((tokAt T p).2.1 : Nat) : Int) + ((k + 1 : Nat) : Int) = ((tokAt T p).2.1 : Int) + (k : Int) + 1 by omega] at q
            exact q
          · refine r_iload_n dX12_value_30 1 rfl ?_
            refine r_goto dX12_value_31 (tgt := 48) (by decide) ?_
            refine r_istore_n (ls' := [(0, .ref m), (1, .int (iI (cv T (tokAt T p).2.1 k))), (2, .int (iI (((tokAt T p).2.1 : Int) + (k : Int))))]) dX12_value_48 (by decide) rfl ?_
            refine i_iinc (ls' := [(0, .ref m), (1, .int (iI (cv T (tokAt T p).2.1 k))), (2, .int (iI ((((tokAt T p).2.1 : Int) + (k : Int)) + 1)))]) (1) (v := (((tokAt T p).2.1 : Int) + (k : Int)) + 1) dX12_value_49 2 rfl (by omega) (by decide) rfl ?_
            refine r_goto dX12_value_52 (tgt := 7) (by decide) ?_
            have q := ih (k + 1) (by omega) (by omega)
            rw [cv_t (by omega)] at q
            rw [show (((tokAt T p).2.1 : Nat) : Int) + ((k + 1 : Nat) : Int) = ((tokAt T p).2.1 : Int) + (k : Int) + 1 by omega] at q
            exact q
    show RR G MX12_value 0 [(0, .ref m)] [] h (xm_R MX12_value).cells (xm_R MX12_value).slots (qI (numV T p) h)
    refine i_const (0) dX12_value_0 ?_
    refine r_istore_n (ls' := [(0, .ref m), (1, .int (iI 0))]) dX12_value_1 (by decide) rfl ?_
    refine r_aload_n dX12_value_2 0 rfl ?_
    refine m_g_bg (v := ((tokAt T p).2.1 : Int)) hM hT.2.2.2.1 kf_X12_291 dX12_value_3 ?_
    refine r_istore_n (ls' := [(0, .ref m), (1, .int (iI 0)), (2, .int (iI (((tokAt T p).2.1 : Int))))]) dX12_value_6 (by decide) rfl ?_
    have q := L 0 (by omega)
    rw [show (((tokAt T p).2.1 : Nat) : Int) + ((0 : Nat) : Int) = ((tokAt T p).2.1 : Int) by omega] at q
    exact q
  · show RR G MX12_value 0 [(0, .ref m)] [] h (xm_R MX12_value).cells (xm_R MX12_value).slots (qI (numV T p) h)
    refine i_const (0) dX12_value_0 ?_
    refine r_istore_n (ls' := [(0, .ref m), (1, .int (iI 0))]) dX12_value_1 (by decide) rfl ?_
    refine r_aload_n dX12_value_2 0 rfl ?_
    refine m_g_bg (v := ((tokAt T p).2.1 : Int)) hM hT.2.2.2.1 kf_X12_291 dX12_value_3 ?_
    refine r_istore_n (ls' := [(0, .ref m), (1, .int (iI 0)), (2, .int (iI (((tokAt T p).2.1 : Int))))]) dX12_value_6 (by decide) rfl ?_
    refine r_iload_n dX12_value_7 2 rfl ?_
    refine r_aload_n dX12_value_8 0 rfl ?_
    refine m_g_nx (v := ((tokAt T p).2.2 : Int)) hM hT.2.2.1 kf_X12_288 dX12_value_9 ?_
    refine i_icmpge dX12_value_12 (tgt := 55) (by decide) (by unfold in32; omega) (by unfold in32; omega) (fun c12 => ?_) (fun c12 => ?_)
    · refine r_iload_n dX12_value_55 1 rfl ?_
      refine r_ireturn rfl rfl dX12_value_56 ?_
      have e9 : numV T p = 0 := if_neg hk1
      rw [e9]
      exact ⟨rfl, rfl⟩
    · refine r_aload_n dX12_value_15 0 rfl ?_
      refine m_g_tk (v := tkM (tokAt T p).1) hM hT.2.2.2.2.1 kf_X12_294 dX12_value_16 ?_
      refine i_const (2) dX12_value_19 ?_
      refine i_icmpne dX12_value_20 (tgt := 55) (by decide) (by unfold in32; omega) ⟨by decide, by decide⟩ (fun _ => ?_) (fun c => absurd (tkM_2 hbb.1 c) hk1)
      refine r_iload_n dX12_value_55 1 rfl ?_
      refine r_ireturn rfl rfl dX12_value_56 ?_
      have e9 : numV T p = 0 := if_neg hk1
      rw [e9]
      exact ⟨rfl, rfl⟩
