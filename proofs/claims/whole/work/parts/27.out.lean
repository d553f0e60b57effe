/-! ===== the text that was written ===== -/
def OU (G : xG) (h : xH) (o A : Nat) (bs : List Int) : Prop := ∃ g : Nat → Int32, (o ∈ h.1 ∧ A ∈ h.1) ∧ h.2 o = .inr (2, [.ref A, .int (iI (bs.length : Int))]) ∧ h.2 A = .inl (G.2.1 0, 1200, .inl g) ∧ bs.length ≤ 1200 ∧ (∀ k, k < bs.length → g k = iI (bs.getD k 0))
def digs (n : Int) : List Int := (if 1000 ≤ n then [48 + n / 1000 % 10] else []) ++ ((if 100 ≤ n then [48 + n / 100 % 10] else []) ++ ((if 10 ≤ n then [48 + n / 10 % 10] else []) ++ (if 1 ≤ n then [48 + n / 1 % 10] else [])))
def layT (x : Int) : List Int := (if isB x then 66 else 68) :: digs (sz x)
/-- the first k layers from the top -/
def wrL (l : List Int) : Nat → List Int
  | 0 => []
  | k + 1 => wrL l k ++ (layT (l.getD (l.length - 1 - k) 0) ++ (if k + 1 < l.length then [32] else []))
theorem digs_len (n : Int) : (digs n).length ≤ 4 := by unfold digs; simp only [List.length_append]; split <;> split <;> split <;> split <;> simp
theorem wrL_len (l : List Int) (k : Nat) : (wrL l k).length ≤ 6 * k := by
  induction k with
  | zero => simp [wrL]
  | succ k ih =>
    have := digs_len (sz (l.getD (l.length - 1 - k) 0))
    have e : (if k + 1 < l.length then [32] else ([] : List Int)).length ≤ 1 := by split <;> simp
    simp only [wrL, layT, List.length_append, List.length_cons]
    omega
theorem OU.fr {G : xG} {h h' : xH} {o A : Nat} {fp : List Nat} {bs : List Int} (hU : OU G h o A bs) (hF : FRp fp h h') (h1 : o ∉ fp) (h2 : A ∉ fp) : OU G h' o A bs := by
  obtain ⟨g, ⟨mO, mA⟩, fO, fA, r⟩ := hU
  exact ⟨g, ⟨by rw [hF.1]; exact mO, by rw [hF.1]; exact mA⟩, (hF.2 o h1).trans fO, (hF.2 A h2).trans fA, r⟩
theorem ob_push {g : Nat → Int32} {bs : List Int} {x : Int} (h : ∀ k, k < bs.length → g k = iI (bs.getD k 0)) : ∀ k, k < (bs ++ [x]).length → upd g bs.length (iI x) k = iI ((bs ++ [x]).getD k 0) := by
  intro k hk
  rw [List.length_append, List.length_singleton] at hk
  by_cases e : k = bs.length
  · rw [e]; simp [upd]
  · simp only [upd, if_neg e]
    rw [h k (by omega), List.getD_eq_getElem?_getD, List.getD_eq_getElem?_getD, List.getElem?_append_left (by omega)]
set_option maxRecDepth 20000 in
set_option maxHeartbeats 1000000 in
theorem c_X4_put {G : xG} {h : xH} {o A : Nat} {bs : List Int} (hU : OU G h o A bs) {x : Int} (hl9 : bs.length < 1200) : CC G MX4_put [.ref o, .int (iI x)] h (fun o' h' => o' = .inl none ∧ OU G h' o A (bs ++ [x]) ∧ FRp [o, A] h h') := by
  have hU0 := hU
  obtain ⟨g, ⟨mO, mA⟩, fO, fA, hl, hg⟩ := hU
  have nOA : o ≠ A := ne_oi fO fA
  show RR G MX4_put 0 [(0, .ref o), (1, .int (iI x))] [] h (xm_R MX4_put).cells (xm_R MX4_put).slots (fun o' h' => o' = .inl none ∧ OU G h' o A (bs ++ [x]) ∧ FRp [o, A] h h')
  refine r_aload_n dX4_put_0 0 rfl ?_
  refine r_get cl_X4 1 (by decide) kf_X4_15 dX4_put_1 mO fO rfl ?_
  refine r_aload_n dX4_put_4 0 rfl ?_
  refine r_get cl_X4 0 (by decide) kf_X4_9 dX4_put_5 mO fO rfl ?_
  refine r_alen (t := 0) (v := iI 1200) rfl dX4_put_8 mA fA (by decide) ?_
  refine i_icmpge dX4_put_9 (tgt := 32) (by decide) (by unfold in32; omega) ⟨by decide, by decide⟩ (fun c9 => ?_) (fun c9 => ?_)
  · refine r_return rfl dX4_put_32 ?_
    exfalso
    omega
  · refine r_aload_n dX4_put_12 0 rfl ?_
    refine r_get cl_X4 0 (by decide) kf_X4_9 dX4_put_13 mO fO rfl ?_
    refine r_aload_n dX4_put_16 0 rfl ?_
    refine r_get cl_X4 1 (by decide) kf_X4_15 dX4_put_17 mO fO rfl ?_
    refine r_iload_n dX4_put_20 1 rfl ?_
    refine i_iast bs.length rfl dX4_put_21 mA fA (by omega) (by decide) (fun h1 e0_1 e1_1 e2_1 => ?_)
    have mo_1 : o ∈ h1.1 := by rw [e0_1]; exact mO
    have fo_1 := (e2_1 _ nOA).trans fO
    have mA_1 : A ∈ h1.1 := by rw [e0_1]; exact mA
    refine r_aload_n dX4_put_22 0 rfl ?_
    refine r_dup dX4_put_23 rfl ?_
    refine r_get cl_X4 1 (by decide) kf_X4_15 dX4_put_24 mo_1 fo_1 rfl ?_
    refine i_const (1) dX4_put_27 ?_
    refine i_add dX4_put_28 ?_
    refine i_put [.ref A, .int (iI ((bs.length : Int) + 1))] cl_X4 1 (by decide) kf_X4_15 rfl dX4_put_29 mo_1 fo_1 rfl rfl (by simp) rfl (fun h2 e0_2 e1_2 e2_2 => ?_)
    have mo_2 : o ∈ h2.1 := by rw [e0_2]; exact mo_1
    have mA_2 : A ∈ h2.1 := by rw [e0_2]; exact mA_1
    have fA_2 := (e2_2 _ (Ne.symm nOA)).trans e1_1
    refine r_return rfl dX4_put_32 ?_
    have fz : h2.2 o = .inr (2, [.ref A, .int (iI ((bs ++ [x]).length : Int))]) := by rw [e1_2, List.length_append, List.length_singleton]; rfl
    exact ⟨rfl, ⟨_, ⟨mo_2, mA_2⟩, fz, fA_2, by rw [List.length_append, List.length_singleton]; omega, ob_push hg⟩, FRp.tr (FRp.w (by simp) e0_1 e2_1) (FRp.w (by simp) e0_2 e2_2)⟩
set_option maxRecDepth 20000 in
set_option maxHeartbeats 1000000 in
theorem c_X4_putNumber {G : xG} {h : xH} {o A : Nat} {bs : List Int} (hU : OU G h o A bs) {n : Int} (hn : 1 ≤ n ∧ n ≤ 4000) (hr : bs.length + 4 ≤ 1200) : CC G MX4_putNumber [.ref o, .int (iI n)] h (fun o' h' => o' = .inl none ∧ OU G h' o A (bs ++ digs n) ∧ FRp [o, A] h h') := by
  have hU9 := hU
  have hF9 : FRp [o, A] h h := FRp.rf
  obtain ⟨g9, ⟨mO9, mA9⟩, fO9, fA9, hl9, hg9⟩ := hU
  show RR G MX4_putNumber 0 [(0, .ref o), (1, .int (iI n))] [] h (xm_R MX4_putNumber).cells (xm_R MX4_putNumber).slots (fun o' h' => o' = .inl none ∧ OU G h' o A (bs ++ digs n) ∧ FRp [o, A] h h')
  refine i_sipush (1000) (by decide) dX4_putNumber_0 ?_
  refine r_istore_n (ls' := [(0, .ref o), (1, .int (iI n)), (2, .int (iI 1000))]) dX4_putNumber_3 (by decide) rfl ?_
  refine r_iload_n dX4_putNumber_4 2 rfl ?_
  refine i_ifle dX4_putNumber_5 (tgt := 34) (by decide) ⟨by decide, by decide⟩ (fun c => absurd c (by decide)) (fun _ => ?_)
  refine r_iload_n dX4_putNumber_8 1 rfl ?_
  refine r_iload_n dX4_putNumber_9 2 rfl ?_
  refine i_icmplt dX4_putNumber_10 (tgt := 26) (by decide) (by unfold in32; omega) ⟨by decide, by decide⟩ (fun c10 => ?_) (fun c10 => ?_)
  · refine r_iload_n dX4_putNumber_26 2 rfl ?_
    refine i_bipush (10) (by decide) dX4_putNumber_27 ?_
    refine i_div dX4_putNumber_29 ⟨by decide, by decide⟩ ⟨by decide, by decide⟩ (by decide) (by decide) ?_
    rw [show (1000 : Int) / 10 = 100 from by decide]
    refine r_istore_n (ls' := [(0, .ref o), (1, .int (iI n)), (2, .int (iI 100))]) dX4_putNumber_30 (by decide) rfl ?_
    refine r_goto dX4_putNumber_31 (tgt := 4) (by decide) ?_
    refine r_iload_n dX4_putNumber_4 2 rfl ?_
    refine i_ifle dX4_putNumber_5 (tgt := 34) (by decide) ⟨by decide, by decide⟩ (fun c => absurd c (by decide)) (fun _ => ?_)
    refine r_iload_n dX4_putNumber_8 1 rfl ?_
    refine r_iload_n dX4_putNumber_9 2 rfl ?_
    refine i_icmplt dX4_putNumber_10 (tgt := 26) (by decide) (by unfold in32; omega) ⟨by decide, by decide⟩ (fun c10 => ?_) (fun c10 => ?_)
    · refine r_iload_n dX4_putNumber_26 2 rfl ?_
      refine i_bipush (10) (by decide) dX4_putNumber_27 ?_
      refine i_div dX4_putNumber_29 ⟨by decide, by decide⟩ ⟨by decide, by decide⟩ (by decide) (by decide) ?_
      rw [show (100 : Int) / 10 = 10 from by decide]
      refine r_istore_n (ls' := [(0, .ref o), (1, .int (iI n)), (2, .int (iI 10))]) dX4_putNumber_30 (by decide) rfl ?_
      refine r_goto dX4_putNumber_31 (tgt := 4) (by decide) ?_
      refine r_iload_n dX4_putNumber_4 2 rfl ?_
      refine i_ifle dX4_putNumber_5 (tgt := 34) (by decide) ⟨by decide, by decide⟩ (fun c => absurd c (by decide)) (fun _ => ?_)
      refine r_iload_n dX4_putNumber_8 1 rfl ?_
      refine r_iload_n dX4_putNumber_9 2 rfl ?_
      refine i_icmplt dX4_putNumber_10 (tgt := 26) (by decide) (by unfold in32; omega) ⟨by decide, by decide⟩ (fun c10 => ?_) (fun c10 => ?_)
      · refine r_iload_n dX4_putNumber_26 2 rfl ?_
        refine i_bipush (10) (by decide) dX4_putNumber_27 ?_
        refine i_div dX4_putNumber_29 ⟨by decide, by decide⟩ ⟨by decide, by decide⟩ (by decide) (by decide) ?_
        rw [show (10 : Int) / 10 = 1 from by decide]
        refine r_istore_n (ls' := [(0, .ref o), (1, .int (iI n)), (2, .int (iI 1))]) dX4_putNumber_30 (by decide) rfl ?_
        refine r_goto dX4_putNumber_31 (tgt := 4) (by decide) ?_
        refine r_iload_n dX4_putNumber_4 2 rfl ?_
        refine i_ifle dX4_putNumber_5 (tgt := 34) (by decide) ⟨by decide, by decide⟩ (fun c => absurd c (by decide)) (fun _ => ?_)
        refine r_iload_n dX4_putNumber_8 1 rfl ?_
        refine r_iload_n dX4_putNumber_9 2 rfl ?_
        refine i_icmplt dX4_putNumber_10 (tgt := 26) (by decide) (by unfold in32; omega) ⟨by decide, by decide⟩ (fun c10 => ?_) (fun c10 => ?_)
        · refine r_iload_n dX4_putNumber_26 2 rfl ?_
          refine i_bipush (10) (by decide) dX4_putNumber_27 ?_
          refine i_div dX4_putNumber_29 ⟨by decide, by decide⟩ ⟨by decide, by decide⟩ (by decide) (by decide) ?_
          rw [show (1 : Int) / 10 = 0 from by decide]
          refine r_istore_n (ls' := [(0, .ref o), (1, .int (iI n)), (2, .int (iI 0))]) dX4_putNumber_30 (by decide) rfl ?_
          refine r_goto dX4_putNumber_31 (tgt := 4) (by decide) ?_
          refine r_iload_n dX4_putNumber_4 2 rfl ?_
          refine i_ifle dX4_putNumber_5 (tgt := 34) (by decide) ⟨by decide, by decide⟩ (fun _ => ?_) (fun c => absurd c (by decide))
          refine r_return rfl dX4_putNumber_34 ?_
          have e : bs = bs ++ digs n := by unfold digs; rw [if_neg (by omega), if_neg (by omega), if_neg (by omega), if_neg (by omega)]; simp
          rw [e] at hU9
          exact ⟨rfl, hU9, hF9⟩
        · refine r_aload_n dX4_putNumber_13 0 rfl ?_
          refine i_bipush (48) (by decide) dX4_putNumber_14 ?_
          refine r_iload_n dX4_putNumber_16 1 rfl ?_
          refine r_iload_n dX4_putNumber_17 2 rfl ?_
          refine i_div dX4_putNumber_18 (by unfold in32; omega) ⟨by decide, by decide⟩ (by omega) (by omega) ?_
          refine i_bipush (10) (by decide) dX4_putNumber_19 ?_
          refine i_rem dX4_putNumber_21 (by unfold in32; omega) ⟨by decide, by decide⟩ (by omega) (by omega) ?_
          refine i_add dX4_putNumber_22 ?_
          refine p_callV (As := [.int (iI (48 + ((n / 1) % 10)))]) (b := o) (rest := []) (w := none) (st' := []) kv_X4_putNumber_19 dX4_putNumber_23 rfl rfl (Nat.le_of_ble_eq_true rfl) (Nat.le_of_ble_eq_true rfl) (x_rv mO9 fO9 rfl) rfl rfl (c_X4_put hU9 (x := 48 + ((n / 1) % 10)) (by first | omega | (simp only [List.length_append, List.length_singleton, List.length_cons, List.length_nil]; omega))) rfl (fun h9 e9 => ?_)
          obtain ⟨hU9, hF8⟩ := e9
          have hF9 := FRp.tr hF9 hF8
          have hU0 := hU9
          obtain ⟨g9, ⟨mO9, mA9⟩, fO9, fA9, hl9, hg9⟩ := hU0
          refine r_iload_n dX4_putNumber_26 2 rfl ?_
          refine i_bipush (10) (by decide) dX4_putNumber_27 ?_
          refine i_div dX4_putNumber_29 ⟨by decide, by decide⟩ ⟨by decide, by decide⟩ (by decide) (by decide) ?_
          rw [show (1 : Int) / 10 = 0 from by decide]
          refine r_istore_n (ls' := [(0, .ref o), (1, .int (iI n)), (2, .int (iI 0))]) dX4_putNumber_30 (by decide) rfl ?_
          refine r_goto dX4_putNumber_31 (tgt := 4) (by decide) ?_
          refine r_iload_n dX4_putNumber_4 2 rfl ?_
          refine i_ifle dX4_putNumber_5 (tgt := 34) (by decide) ⟨by decide, by decide⟩ (fun _ => ?_) (fun c => absurd c (by decide))
          refine r_return rfl dX4_putNumber_34 ?_
          have e : bs ++ [48 + ((n / 1) % 10)] = bs ++ digs n := by unfold digs; rw [if_neg (by omega), if_neg (by omega), if_neg (by omega), if_pos (by omega)]; simp
          rw [e] at hU9
          exact ⟨rfl, hU9, hF9⟩
      · refine r_aload_n dX4_putNumber_13 0 rfl ?_
        refine i_bipush (48) (by decide) dX4_putNumber_14 ?_
        refine r_iload_n dX4_putNumber_16 1 rfl ?_
        refine r_iload_n dX4_putNumber_17 2 rfl ?_
        refine i_div dX4_putNumber_18 (by unfold in32; omega) ⟨by decide, by decide⟩ (by omega) (by omega) ?_
        refine i_bipush (10) (by decide) dX4_putNumber_19 ?_
        refine i_rem dX4_putNumber_21 (by unfold in32; omega) ⟨by decide, by decide⟩ (by omega) (by omega) ?_
        refine i_add dX4_putNumber_22 ?_
        refine p_callV (As := [.int (iI (48 + ((n / 10) % 10)))]) (b := o) (rest := []) (w := none) (st' := []) kv_X4_putNumber_19 dX4_putNumber_23 rfl rfl (Nat.le_of_ble_eq_true rfl) (Nat.le_of_ble_eq_true rfl) (x_rv mO9 fO9 rfl) rfl rfl (c_X4_put hU9 (x := 48 + ((n / 10) % 10)) (by first | omega | (simp only [List.length_append, List.length_singleton, List.length_cons, List.length_nil]; omega))) rfl (fun h9 e9 => ?_)
        obtain ⟨hU9, hF8⟩ := e9
        have hF9 := FRp.tr hF9 hF8
        have hU0 := hU9
        obtain ⟨g9, ⟨mO9, mA9⟩, fO9, fA9, hl9, hg9⟩ := hU0
        refine r_iload_n dX4_putNumber_26 2 rfl ?_
        refine i_bipush (10) (by decide) dX4_putNumber_27 ?_
        refine i_div dX4_putNumber_29 ⟨by decide, by decide⟩ ⟨by decide, by decide⟩ (by decide) (by decide) ?_
        rw [show (10 : Int) / 10 = 1 from by decide]
        refine r_istore_n (ls' := [(0, .ref o), (1, .int (iI n)), (2, .int (iI 1))]) dX4_putNumber_30 (by decide) rfl ?_
        refine r_goto dX4_putNumber_31 (tgt := 4) (by decide) ?_
        refine r_iload_n dX4_putNumber_4 2 rfl ?_
        refine i_ifle dX4_putNumber_5 (tgt := 34) (by decide) ⟨by decide, by decide⟩ (fun c => absurd c (by decide)) (fun _ => ?_)
        refine r_iload_n dX4_putNumber_8 1 rfl ?_
        refine r_iload_n dX4_putNumber_9 2 rfl ?_
        refine i_icmplt dX4_putNumber_10 (tgt := 26) (by decide) (by unfold in32; omega) ⟨by decide, by decide⟩ (fun c10 => ?_) (fun c10 => ?_)
        · refine r_iload_n dX4_putNumber_26 2 rfl ?_
          refine i_bipush (10) (by decide) dX4_putNumber_27 ?_
          refine i_div dX4_putNumber_29 ⟨by decide, by decide⟩ ⟨by decide, by decide⟩ (by decide) (by decide) ?_
          rw [show (1 : Int) / 10 = 0 from by decide]
          refine r_istore_n (ls' := [(0, .ref o), (1, .int (iI n)), (2, .int (iI 0))]) dX4_putNumber_30 (by decide) rfl ?_
          refine r_goto dX4_putNumber_31 (tgt := 4) (by decide) ?_
          refine r_iload_n dX4_putNumber_4 2 rfl ?_
          refine i_ifle dX4_putNumber_5 (tgt := 34) (by decide) ⟨by decide, by decide⟩ (fun _ => ?_) (fun c => absurd c (by decide))
          refine r_return rfl dX4_putNumber_34 ?_
          have e : bs ++ [48 + ((n / 10) % 10)] = bs ++ digs n := by unfold digs; rw [if_neg (by omega), if_neg (by omega), if_pos (by omega), if_neg (by omega)]; simp
          rw [e] at hU9
          exact ⟨rfl, hU9, hF9⟩
        · refine r_aload_n dX4_putNumber_13 0 rfl ?_
          refine i_bipush (48) (by decide) dX4_putNumber_14 ?_
          refine r_iload_n dX4_putNumber_16 1 rfl ?_
          refine r_iload_n dX4_putNumber_17 2 rfl ?_
          refine i_div dX4_putNumber_18 (by unfold in32; omega) ⟨by decide, by decide⟩ (by omega) (by omega) ?_
          refine i_bipush (10) (by decide) dX4_putNumber_19 ?_
          refine i_rem dX4_putNumber_21 (by unfold in32; omega) ⟨by decide, by decide⟩ (by omega) (by omega) ?_
          refine i_add dX4_putNumber_22 ?_
          refine p_callV (As := [.int (iI (48 + ((n / 1) % 10)))]) (b := o) (rest := []) (w := none) (st' := []) kv_X4_putNumber_19 dX4_putNumber_23 rfl rfl (Nat.le_of_ble_eq_true rfl) (Nat.le_of_ble_eq_true rfl) (x_rv mO9 fO9 rfl) rfl rfl (c_X4_put hU9 (x := 48 + ((n / 1) % 10)) (by first | omega | (simp only [List.length_append, List.length_singleton, List.length_cons, List.length_nil]; omega))) rfl (fun h9 e9 => ?_)
          obtain ⟨hU9, hF8⟩ := e9
          have hF9 := FRp.tr hF9 hF8
          have hU0 := hU9
          obtain ⟨g9, ⟨mO9, mA9⟩, fO9, fA9, hl9, hg9⟩ := hU0
          refine r_iload_n dX4_putNumber_26 2 rfl ?_
          refine i_bipush (10) (by decide) dX4_putNumber_27 ?_
          refine i_div dX4_putNumber_29 ⟨by decide, by decide⟩ ⟨by decide, by decide⟩ (by decide) (by decide) ?_
          rw [show (1 : Int) / 10 = 0 from by decide]
          refine r_istore_n (ls' := [(0, .ref o), (1, .int (iI n)), (2, .int (iI 0))]) dX4_putNumber_30 (by decide) rfl ?_
          refine r_goto dX4_putNumber_31 (tgt := 4) (by decide) ?_
          refine r_iload_n dX4_putNumber_4 2 rfl ?_
          refine i_ifle dX4_putNumber_5 (tgt := 34) (by decide) ⟨by decide, by decide⟩ (fun _ => ?_) (fun c => absurd c (by decide))
          refine r_return rfl dX4_putNumber_34 ?_
          have e : bs ++ [48 + ((n / 10) % 10)] ++ [48 + ((n / 1) % 10)] = bs ++ digs n := by unfold digs; rw [if_neg (by omega), if_neg (by omega), if_pos (by omega), if_pos (by omega)]; simp
          rw [e] at hU9
          exact ⟨rfl, hU9, hF9⟩
    · refine r_aload_n dX4_putNumber_13 0 rfl ?_
      refine i_bipush (48) (by decide) dX4_putNumber_14 ?_
      refine r_iload_n dX4_putNumber_16 1 rfl ?_
      refine r_iload_n dX4_putNumber_17 2 rfl ?_
      refine i_div dX4_putNumber_18 (by unfold in32; omega) ⟨by decide, by decide⟩ (by omega) (by omega) ?_
      refine i_bipush (10) (by decide) dX4_putNumber_19 ?_
      refine i_rem dX4_putNumber_21 (by unfold in32; omega) ⟨by decide, by decide⟩ (by omega) (by omega) ?_
      refine i_add dX4_putNumber_22 ?_
      refine p_callV (As := [.int (iI (48 + ((n / 100) % 10)))]) (b := o) (rest := []) (w := none) (st' := []) kv_X4_putNumber_19 dX4_putNumber_23 rfl rfl (Nat.le_of_ble_eq_true rfl) (Nat.le_of_ble_eq_true rfl) (x_rv mO9 fO9 rfl) rfl rfl (c_X4_put hU9 (x := 48 + ((n / 100) % 10)) (by first | omega | (simp only [List.length_append, List.length_singleton, List.length_cons, List.length_nil]; omega))) rfl (fun h9 e9 => ?_)
      obtain ⟨hU9, hF8⟩ := e9
      have hF9 := FRp.tr hF9 hF8
      have hU0 := hU9
      obtain ⟨g9, ⟨mO9, mA9⟩, fO9, fA9, hl9, hg9⟩ := hU0
      refine r_iload_n dX4_putNumber_26 2 rfl ?_
      refine i_bipush (10) (by decide) dX4_putNumber_27 ?_
      refine i_div dX4_putNumber_29 ⟨by decide, by decide⟩ ⟨by decide, by decide⟩ (by decide) (by decide) ?_
      rw [show (100 : Int) / 10 = 10 from by decide]
      refine r_istore_n (ls' := [(0, .ref o), (1, .int (iI n)), (2, .int (iI 10))]) dX4_putNumber_30 (by decide) rfl ?_
      refine r_goto dX4_putNumber_31 (tgt := 4) (by decide) ?_
      refine r_iload_n dX4_putNumber_4 2 rfl ?_
      refine i_ifle dX4_putNumber_5 (tgt := 34) (by decide) ⟨by decide, by decide⟩ (fun c => absurd c (by decide)) (fun _ => ?_)
      refine r_iload_n dX4_putNumber_8 1 rfl ?_
      refine r_iload_n dX4_putNumber_9 2 rfl ?_
      refine i_icmplt dX4_putNumber_10 (tgt := 26) (by decide) (by unfold in32; omega) ⟨by decide, by decide⟩ (fun c10 => ?_) (fun c10 => ?_)
      · refine r_iload_n dX4_putNumber_26 2 rfl ?_
        refine i_bipush (10) (by decide) dX4_putNumber_27 ?_
        refine i_div dX4_putNumber_29 ⟨by decide, by decide⟩ ⟨by decide, by decide⟩ (by decide) (by decide) ?_
        rw [show (10 : Int) / 10 = 1 from by decide]
        refine r_istore_n (ls' := [(0, .ref o), (1, .int (iI n)), (2, .int (iI 1))]) dX4_putNumber_30 (by decide) rfl ?_
        refine r_goto dX4_putNumber_31 (tgt := 4) (by decide) ?_
        refine r_iload_n dX4_putNumber_4 2 rfl ?_
        refine i_ifle dX4_putNumber_5 (tgt := 34) (by decide) ⟨by decide, by decide⟩ (fun c => absurd c (by decide)) (fun _ => ?_)
        refine r_iload_n dX4_putNumber_8 1 rfl ?_
        refine r_iload_n dX4_putNumber_9 2 rfl ?_
        refine i_icmplt dX4_putNumber_10 (tgt := 26) (by decide) (by unfold in32; omega) ⟨by decide, by decide⟩ (fun c10 => ?_) (fun c10 => ?_)
        · refine r_iload_n dX4_putNumber_26 2 rfl ?_
          refine i_bipush (10) (by decide) dX4_putNumber_27 ?_
          refine i_div dX4_putNumber_29 ⟨by decide, by decide⟩ ⟨by decide, by decide⟩ (by decide) (by decide) ?_
          rw [show (1 : Int) / 10 = 0 from by decide]
          refine r_istore_n (ls' := [(0, .ref o), (1, .int (iI n)), (2, .int (iI 0))]) dX4_putNumber_30 (by decide) rfl ?_
          refine r_goto dX4_putNumber_31 (tgt := 4) (by decide) ?_
          refine r_iload_n dX4_putNumber_4 2 rfl ?_
          refine i_ifle dX4_putNumber_5 (tgt := 34) (by decide) ⟨by decide, by decide⟩ (fun _ => ?_) (fun c => absurd c (by decide))
          refine r_return rfl dX4_putNumber_34 ?_
          have e : bs ++ [48 + ((n / 100) % 10)] = bs ++ digs n := by unfold digs; rw [if_neg (by omega), if_pos (by omega), if_neg (by omega), if_neg (by omega)]; simp
          rw [e] at hU9
          exact ⟨rfl, hU9, hF9⟩
        · refine r_aload_n dX4_putNumber_13 0 rfl ?_
          refine i_bipush (48) (by decide) dX4_putNumber_14 ?_
          refine r_iload_n dX4_putNumber_16 1 rfl ?_
          refine r_iload_n dX4_putNumber_17 2 rfl ?_
          refine i_div dX4_putNumber_18 (by unfold in32; omega) ⟨by decide, by decide⟩ (by omega) (by omega) ?_
          refine i_bipush (10) (by decide) dX4_putNumber_19 ?_
          refine i_rem dX4_putNumber_21 (by unfold in32; omega) ⟨by decide, by decide⟩ (by omega) (by omega) ?_
          refine i_add dX4_putNumber_22 ?_
          refine p_callV (As := [.int (iI (48 + ((n / 1) % 10)))]) (b := o) (rest := []) (w := none) (st' := []) kv_X4_putNumber_19 dX4_putNumber_23 rfl rfl (Nat.le_of_ble_eq_true rfl) (Nat.le_of_ble_eq_true rfl) (x_rv mO9 fO9 rfl) rfl rfl (c_X4_put hU9 (x := 48 + ((n / 1) % 10)) (by first | omega | (simp only [List.length_append, List.length_singleton, List.length_cons, List.length_nil]; omega))) rfl (fun h9 e9 => ?_)
          obtain ⟨hU9, hF8⟩ := e9
          have hF9 := FRp.tr hF9 hF8
          have hU0 := hU9
          obtain ⟨g9, ⟨mO9, mA9⟩, fO9, fA9, hl9, hg9⟩ := hU0
          refine r_iload_n dX4_putNumber_26 2 rfl ?_
          refine i_bipush (10) (by decide) dX4_putNumber_27 ?_
          refine i_div dX4_putNumber_29 ⟨by decide, by decide⟩ ⟨by decide, by decide⟩ (by decide) (by decide) ?_
          rw [show (1 : Int) / 10 = 0 from by decide]
          refine r_istore_n (ls' := [(0, .ref o), (1, .int (iI n)), (2, .int (iI 0))]) dX4_putNumber_30 (by decide) rfl ?_
          refine r_goto dX4_putNumber_31 (tgt := 4) (by decide) ?_
          refine r_iload_n dX4_putNumber_4 2 rfl ?_
          refine i_ifle dX4_putNumber_5 (tgt := 34) (by decide) ⟨by decide, by decide⟩ (fun _ => ?_) (fun c => absurd c (by decide))
          refine r_return rfl dX4_putNumber_34 ?_
          have e : bs ++ [48 + ((n / 100) % 10)] ++ [48 + ((n / 1) % 10)] = bs ++ digs n := by unfold digs; rw [if_neg (by omega), if_pos (by omega), if_neg (by omega), if_pos (by omega)]; simp
          rw [e] at hU9
          exact ⟨rfl, hU9, hF9⟩
      · refine r_aload_n dX4_putNumber_13 0 rfl ?_
        refine i_bipush (48) (by decide) dX4_putNumber_14 ?_
        refine r_iload_n dX4_putNumber_16 1 rfl ?_
        refine r_iload_n dX4_putNumber_17 2 rfl ?_
        refine i_div dX4_putNumber_18 (by unfold in32; omega) ⟨by decide, by decide⟩ (by omega) (by omega) ?_
        refine i_bipush (10) (by decide) dX4_putNumber_19 ?_
        refine i_rem dX4_putNumber_21 (by unfold in32; omega) ⟨by decide, by decide⟩ (by omega) (by omega) ?_
        refine i_add dX4_putNumber_22 ?_
        refine p_callV (As := [.int (iI (48 + ((n / 10) % 10)))]) (b := o) (rest := []) (w := none) (st' := []) kv_X4_putNumber_19 dX4_putNumber_23 rfl rfl (Nat.le_of_ble_eq_true rfl) (Nat.le_of_ble_eq_true rfl) (x_rv mO9 fO9 rfl) rfl rfl (c_X4_put hU9 (x := 48 + ((n / 10) % 10)) (by first | omega | (simp only [List.length_append, List.length_singleton, List.length_cons, List.length_nil]; omega))) rfl (fun h9 e9 => ?_)
        obtain ⟨hU9, hF8⟩ := e9
        have hF9 := FRp.tr hF9 hF8
        have hU0 := hU9
        obtain ⟨g9, ⟨mO9, mA9⟩, fO9, fA9, hl9, hg9⟩ := hU0
        refine r_iload_n dX4_putNumber_26 2 rfl ?_
        refine i_bipush (10) (by decide) dX4_putNumber_27 ?_
        refine i_div dX4_putNumber_29 ⟨by decide, by decide⟩ ⟨by decide, by decide⟩ (by decide) (by decide) ?_
        rw [show (10 : Int) / 10 = 1 from by decide]
        refine r_istore_n (ls' := [(0, .ref o), (1, .int (iI n)), (2, .int (iI 1))]) dX4_putNumber_30 (by decide) rfl ?_
        refine r_goto dX4_putNumber_31 (tgt := 4) (by decide) ?_
        refine r_iload_n dX4_putNumber_4 2 rfl ?_
        refine i_ifle dX4_putNumber_5 (tgt := 34) (by decide) ⟨by decide, by decide⟩ (fun c => absurd c (by decide)) (fun _ => ?_)
        refine r_iload_n dX4_putNumber_8 1 rfl ?_
        refine r_iload_n dX4_putNumber_9 2 rfl ?_
        refine i_icmplt dX4_putNumber_10 (tgt := 26) (by decide) (by unfold in32; omega) ⟨by decide, by decide⟩ (fun c10 => ?_) (fun c10 => ?_)
        · refine r_iload_n dX4_putNumber_26 2 rfl ?_
          refine i_bipush (10) (by decide) dX4_putNumber_27 ?_
          refine i_div dX4_putNumber_29 ⟨by decide, by decide⟩ ⟨by decide, by decide⟩ (by decide) (by decide) ?_
          rw [show (1 : Int) / 10 = 0 from by decide]
          refine r_istore_n (ls' := [(0, .ref o), (1, .int (iI n)), (2, .int (iI 0))]) dX4_putNumber_30 (by decide) rfl ?_
          refine r_goto dX4_putNumber_31 (tgt := 4) (by decide) ?_
          refine r_iload_n dX4_putNumber_4 2 rfl ?_
          refine i_ifle dX4_putNumber_5 (tgt := 34) (by decide) ⟨by decide, by decide⟩ (fun _ => ?_) (fun c => absurd c (by decide))
          refine r_return rfl dX4_putNumber_34 ?_
          have e : bs ++ [48 + ((n / 100) % 10)] ++ [48 + ((n / 10) % 10)] = bs ++ digs n := by unfold digs; rw [if_neg (by omega), if_pos (by omega), if_pos (by omega), if_neg (by omega)]; simp
          rw [e] at hU9
          exact ⟨rfl, hU9, hF9⟩
        · refine r_aload_n dX4_putNumber_13 0 rfl ?_
          refine i_bipush (48) (by decide) dX4_putNumber_14 ?_
          refine r_iload_n dX4_putNumber_16 1 rfl ?_
          refine r_iload_n dX4_putNumber_17 2 rfl ?_
          refine i_div dX4_putNumber_18 (by unfold in32; omega) ⟨by decide, by decide⟩ (by omega) (by omega) ?_
          refine i_bipush (10) (by decide) dX4_putNumber_19 ?_
          refine i_rem dX4_putNumber_21 (by unfold in32; omega) ⟨by decide, by decide⟩ (by omega) (by omega) ?_
          refine i_add dX4_putNumber_22 ?_
          refine p_callV (As := [.int (iI (48 + ((n / 1) % 10)))]) (b := o) (rest := []) (w := none) (st' := []) kv_X4_putNumber_19 dX4_putNumber_23 rfl rfl (Nat.le_of_ble_eq_true rfl) (Nat.le_of_ble_eq_true rfl) (x_rv mO9 fO9 rfl) rfl rfl (c_X4_put hU9 (x := 48 + ((n / 1) % 10)) (by first | omega | (simp only [List.length_append, List.length_singleton, List.length_cons, List.length_nil]; omega))) rfl (fun h9 e9 => ?_)
          obtain ⟨hU9, hF8⟩ := e9
          have hF9 := FRp.tr hF9 hF8
          have hU0 := hU9
          obtain ⟨g9, ⟨mO9, mA9⟩, fO9, fA9, hl9, hg9⟩ := hU0
          refine r_iload_n dX4_putNumber_26 2 rfl ?_
          refine i_bipush (10) (by decide) dX4_putNumber_27 ?_
          refine i_div dX4_putNumber_29 ⟨by decide, by decide⟩ ⟨by decide, by decide⟩ (by decide) (by decide) ?_
          rw [show (1 : Int) / 10 = 0 from by decide]
          refine r_istore_n (ls' := [(0, .ref o), (1, .int (iI n)), (2, .int (iI 0))]) dX4_putNumber_30 (by decide) rfl ?_
          refine r_goto dX4_putNumber_31 (tgt := 4) (by decide) ?_
          refine r_iload_n dX4_putNumber_4 2 rfl ?_
          refine i_ifle dX4_putNumber_5 (tgt := 34) (by decide) ⟨by decide, by decide⟩ (fun _ => ?_) (fun c => absurd c (by decide))
          refine r_return rfl dX4_putNumber_34 ?_
          have e : bs ++ [48 + ((n / 100) % 10)] ++ [48 + ((n / 10) % 10)] ++ [48 + ((n / 1) % 10)] = bs ++ digs n := by unfold digs; rw [if_neg (by omega), if_pos (by omega), if_pos (by omega), if_pos (by omega)]; simp
          rw [e] at hU9
          exact ⟨rfl, hU9, hF9⟩
  · refine r_aload_n dX4_putNumber_13 0 rfl ?_
    refine i_bipush (48) (by decide) dX4_putNumber_14 ?_
    refine r_iload_n dX4_putNumber_16 1 rfl ?_
    refine r_iload_n dX4_putNumber_17 2 rfl ?_
    refine i_div dX4_putNumber_18 (by unfold in32; omega) ⟨by decide, by decide⟩ (by omega) (by omega) ?_
    refine i_bipush (10) (by decide) dX4_putNumber_19 ?_
    refine i_rem dX4_putNumber_21 (by unfold in32; omega) ⟨by decide, by decide⟩ (by omega) (by omega) ?_
    refine i_add dX4_putNumber_22 ?_
    refine p_callV (As := [.int (iI (48 + ((n / 1000) % 10)))]) (b := o) (rest := []) (w := none) (st' := []) kv_X4_putNumber_19 dX4_putNumber_23 rfl rfl (Nat.le_of_ble_eq_true rfl) (Nat.le_of_ble_eq_true rfl) (x_rv mO9 fO9 rfl) rfl rfl (c_X4_put hU9 (x := 48 + ((n / 1000) % 10)) (by first | omega | (simp only [List.length_append, List.length_singleton, List.length_cons, List.length_nil]; omega))) rfl (fun h9 e9 => ?_)
    obtain ⟨hU9, hF8⟩ := e9
    have hF9 := FRp.tr hF9 hF8
    have hU0 := hU9
    obtain ⟨g9, ⟨mO9, mA9⟩, fO9, fA9, hl9, hg9⟩ := hU0
    refine r_iload_n dX4_putNumber_26 2 rfl ?_
    refine i_bipush (10) (by decide) dX4_putNumber_27 ?_
    refine i_div dX4_putNumber_29 ⟨by decide, by decide⟩ ⟨by decide, by decide⟩ (by decide) (by decide) ?_
    rw [show (1000 : Int) / 10 = 100 from by decide]
    refine r_istore_n (ls' := [(0, .ref o), (1, .int (iI n)), (2, .int (iI 100))]) dX4_putNumber_30 (by decide) rfl ?_
    refine r_goto dX4_putNumber_31 (tgt := 4) (by decide) ?_
    refine r_iload_n dX4_putNumber_4 2 rfl ?_
    refine i_ifle dX4_putNumber_5 (tgt := 34) (by decide) ⟨by decide, by decide⟩ (fun c => absurd c (by decide)) (fun _ => ?_)
    refine r_iload_n dX4_putNumber_8 1 rfl ?_
    refine r_iload_n dX4_putNumber_9 2 rfl ?_
    refine i_icmplt dX4_putNumber_10 (tgt := 26) (by decide) (by unfold in32; omega) ⟨by decide, by decide⟩ (fun c10 => ?_) (fun c10 => ?_)
    · refine r_iload_n dX4_putNumber_26 2 rfl ?_
      refine i_bipush (10) (by decide) dX4_putNumber_27 ?_
      refine i_div dX4_putNumber_29 ⟨by decide, by decide⟩ ⟨by decide, by decide⟩ (by decide) (by decide) ?_
      rw [show (100 : Int) / 10 = 10 from by decide]
      refine r_istore_n (ls' := [(0, .ref o), (1, .int (iI n)), (2, .int (iI 10))]) dX4_putNumber_30 (by decide) rfl ?_
      refine r_goto dX4_putNumber_31 (tgt := 4) (by decide) ?_
      refine r_iload_n dX4_putNumber_4 2 rfl ?_
      refine i_ifle dX4_putNumber_5 (tgt := 34) (by decide) ⟨by decide, by decide⟩ (fun c => absurd c (by decide)) (fun _ => ?_)
      refine r_iload_n dX4_putNumber_8 1 rfl ?_
      refine r_iload_n dX4_putNumber_9 2 rfl ?_
      refine i_icmplt dX4_putNumber_10 (tgt := 26) (by decide) (by unfold in32; omega) ⟨by decide, by decide⟩ (fun c10 => ?_) (fun c10 => ?_)
      · refine r_iload_n dX4_putNumber_26 2 rfl ?_
        refine i_bipush (10) (by decide) dX4_putNumber_27 ?_
        refine i_div dX4_putNumber_29 ⟨by decide, by decide⟩ ⟨by decide, by decide⟩ (by decide) (by decide) ?_
        rw [show (10 : Int) / 10 = 1 from by decide]
        refine r_istore_n (ls' := [(0, .ref o), (1, .int (iI n)), (2, .int (iI 1))]) dX4_putNumber_30 (by decide) rfl ?_
        refine r_goto dX4_putNumber_31 (tgt := 4) (by decide) ?_
        refine r_iload_n dX4_putNumber_4 2 rfl ?_
        refine i_ifle dX4_putNumber_5 (tgt := 34) (by decide) ⟨by decide, by decide⟩ (fun c => absurd c (by decide)) (fun _ => ?_)
        refine r_iload_n dX4_putNumber_8 1 rfl ?_
        refine r_iload_n dX4_putNumber_9 2 rfl ?_
        refine i_icmplt dX4_putNumber_10 (tgt := 26) (by decide) (by unfold in32; omega) ⟨by decide, by decide⟩ (fun c10 => ?_) (fun c10 => ?_)
        · refine r_iload_n dX4_putNumber_26 2 rfl ?_
          refine i_bipush (10) (by decide) dX4_putNumber_27 ?_
          refine i_div dX4_putNumber_29 ⟨by decide, by decide⟩ ⟨by decide, by decide⟩ (by decide) (by decide) ?_
          rw [show (1 : Int) / 10 = 0 from by decide]
          refine r_istore_n (ls' := [(0, .ref o), (1, .int (iI n)), (2, .int (iI 0))]) dX4_putNumber_30 (by decide) rfl ?_
          refine r_goto dX4_putNumber_31 (tgt := 4) (by decide) ?_
          refine r_iload_n dX4_putNumber_4 2 rfl ?_
          refine i_ifle dX4_putNumber_5 (tgt := 34) (by decide) ⟨by decide, by decide⟩ (fun _ => ?_) (fun c => absurd c (by decide))
          refine r_return rfl dX4_putNumber_34 ?_
          have e : bs ++ [48 + ((n / 1000) % 10)] = bs ++ digs n := by unfold digs; rw [if_pos (by omega), if_neg (by omega), if_neg (by omega), if_neg (by omega)]; simp
          rw [e] at hU9
          exact ⟨rfl, hU9, hF9⟩
        · refine r_aload_n dX4_putNumber_13 0 rfl ?_
          refine i_bipush (48) (by decide) dX4_putNumber_14 ?_
          refine r_iload_n dX4_putNumber_16 1 rfl ?_
          refine r_iload_n dX4_putNumber_17 2 rfl ?_
          refine i_div dX4_putNumber_18 (by unfold in32; omega) ⟨by decide, by decide⟩ (by omega) (by omega) ?_
          refine i_bipush (10) (by decide) dX4_putNumber_19 ?_
          refine i_rem dX4_putNumber_21 (by unfold in32; omega) ⟨by decide, by decide⟩ (by omega) (by omega) ?_
          refine i_add dX4_putNumber_22 ?_
          refine p_callV (As := [.int (iI (48 + ((n / 1) % 10)))]) (b := o) (rest := []) (w := none) (st' := []) kv_X4_putNumber_19 dX4_putNumber_23 rfl rfl (Nat.le_of_ble_eq_true rfl) (Nat.le_of_ble_eq_true rfl) (x_rv mO9 fO9 rfl) rfl rfl (c_X4_put hU9 (x := 48 + ((n / 1) % 10)) (by first | omega | (simp only [List.length_append, List.length_singleton, List.length_cons, List.length_nil]; omega))) rfl (fun h9 e9 => ?_)
          obtain ⟨hU9, hF8⟩ := e9
          have hF9 := FRp.tr hF9 hF8
          have hU0 := hU9
          obtain ⟨g9, ⟨mO9, mA9⟩, fO9, fA9, hl9, hg9⟩ := hU0
          refine r_iload_n dX4_putNumber_26 2 rfl ?_
          refine i_bipush (10) (by decide) dX4_putNumber_27 ?_
          refine i_div dX4_putNumber_29 ⟨by decide, by decide⟩ ⟨by decide, by decide⟩ (by decide) (by decide) ?_
          rw [show (1 : Int) / 10 = 0 from by decide]
          refine r_istore_n (ls' := [(0, .ref o), (1, .int (iI n)), (2, .int (iI 0))]) dX4_putNumber_30 (by decide) rfl ?_
          refine r_goto dX4_putNumber_31 (tgt := 4) (by decide) ?_
          refine r_iload_n dX4_putNumber_4 2 rfl ?_
          refine i_ifle dX4_putNumber_5 (tgt := 34) (by decide) ⟨by decide, by decide⟩ (fun _ => ?_) (fun c => absurd c (by decide))
          refine r_return rfl dX4_putNumber_34 ?_
          have e : bs ++ [48 + ((n / 1000) % 10)] ++ [48 + ((n / 1) % 10)] = bs ++ digs n := by unfold digs; rw [if_pos (by omega), if_neg (by omega), if_neg (by omega), if_pos (by omega)]; simp
          rw [e] at hU9
          exact ⟨rfl, hU9, hF9⟩
      · refine r_aload_n dX4_putNumber_13 0 rfl ?_
        refine i_bipush (48) (by decide) dX4_putNumber_14 ?_
        refine r_iload_n dX4_putNumber_16 1 rfl ?_
        refine r_iload_n dX4_putNumber_17 2 rfl ?_
        refine i_div dX4_putNumber_18 (by unfold in32; omega) ⟨by decide, by decide⟩ (by omega) (by omega) ?_
        refine i_bipush (10) (by decide) dX4_putNumber_19 ?_
        refine i_rem dX4_putNumber_21 (by unfold in32; omega) ⟨by decide, by decide⟩ (by omega) (by omega) ?_
        refine i_add dX4_putNumber_22 ?_
        refine p_callV (As := [.int (iI (48 + ((n / 10) % 10)))]) (b := o) (rest := []) (w := none) (st' := []) kv_X4_putNumber_19 dX4_putNumber_23 rfl rfl (Nat.le_of_ble_eq_true rfl) (Nat.le_of_ble_eq_true rfl) (x_rv mO9 fO9 rfl) rfl rfl (c_X4_put hU9 (x := 48 + ((n / 10) % 10)) (by first | omega | (simp only [List.length_append, List.length_singleton, List.length_cons, List.length_nil]; omega))) rfl (fun h9 e9 => ?_)
        obtain ⟨hU9, hF8⟩ := e9
        have hF9 := FRp.tr hF9 hF8
        have hU0 := hU9
        obtain ⟨g9, ⟨mO9, mA9⟩, fO9, fA9, hl9, hg9⟩ := hU0
        refine r_iload_n dX4_putNumber_26 2 rfl ?_
        refine i_bipush (10) (by decide) dX4_putNumber_27 ?_
        refine i_div dX4_putNumber_29 ⟨by decide, by decide⟩ ⟨by decide, by decide⟩ (by decide) (by decide) ?_
        rw [show (10 : Int) / 10 = 1 from by decide]
        refine r_istore_n (ls' := [(0, .ref o), (1, .int (iI n)), (2, .int (iI 1))]) dX4_putNumber_30 (by decide) rfl ?_
        refine r_goto dX4_putNumber_31 (tgt := 4) (by decide) ?_
        refine r_iload_n dX4_putNumber_4 2 rfl ?_
        refine i_ifle dX4_putNumber_5 (tgt := 34) (by decide) ⟨by decide, by decide⟩ (fun c => absurd c (by decide)) (fun _ => ?_)
        refine r_iload_n dX4_putNumber_8 1 rfl ?_
        refine r_iload_n dX4_putNumber_9 2 rfl ?_
        refine i_icmplt dX4_putNumber_10 (tgt := 26) (by decide) (by unfold in32; omega) ⟨by decide, by decide⟩ (fun c10 => ?_) (fun c10 => ?_)
        · refine r_iload_n dX4_putNumber_26 2 rfl ?_
          refine i_bipush (10) (by decide) dX4_putNumber_27 ?_
          refine i_div dX4_putNumber_29 ⟨by decide, by decide⟩ ⟨by decide, by decide⟩ (by decide) (by decide) ?_
          rw [show (1 : Int) / 10 = 0 from by decide]
          refine r_istore_n (ls' := [(0, .ref o), (1, .int (iI n)), (2, .int (iI 0))]) dX4_putNumber_30 (by decide) rfl ?_
          refine r_goto dX4_putNumber_31 (tgt := 4) (by decide) ?_
          refine r_iload_n dX4_putNumber_4 2 rfl ?_
          refine i_ifle dX4_putNumber_5 (tgt := 34) (by decide) ⟨by decide, by decide⟩ (fun _ => ?_) (fun c => absurd c (by decide))
          refine r_return rfl dX4_putNumber_34 ?_
          have e : bs ++ [48 + ((n / 1000) % 10)] ++ [48 + ((n / 10) % 10)] = bs ++ digs n := by unfold digs; rw [if_pos (by omega), if_neg (by omega), if_pos (by omega), if_neg (by omega)]; simp
          rw [e] at hU9
          exact ⟨rfl, hU9, hF9⟩
        · refine r_aload_n dX4_putNumber_13 0 rfl ?_
          refine i_bipush (48) (by decide) dX4_putNumber_14 ?_
          refine r_iload_n dX4_putNumber_16 1 rfl ?_
          refine r_iload_n dX4_putNumber_17 2 rfl ?_
          refine i_div dX4_putNumber_18 (by unfold in32; omega) ⟨by decide, by decide⟩ (by omega) (by omega) ?_
          refine i_bipush (10) (by decide) dX4_putNumber_19 ?_
          refine i_rem dX4_putNumber_21 (by unfold in32; omega) ⟨by decide, by decide⟩ (by omega) (by omega) ?_
          refine i_add dX4_putNumber_22 ?_
          refine p_callV (As := [.int (iI (48 + ((n / 1) % 10)))]) (b := o) (rest := []) (w := none) (st' := []) kv_X4_putNumber_19 dX4_putNumber_23 rfl rfl (Nat.le_of_ble_eq_true rfl) (Nat.le_of_ble_eq_true rfl) (x_rv mO9 fO9 rfl) rfl rfl (c_X4_put hU9 (x := 48 + ((n / 1) % 10)) (by first | omega | (simp only [List.length_append, List.length_singleton, List.length_cons, List.length_nil]; omega))) rfl (fun h9 e9 => ?_)
          obtain ⟨hU9, hF8⟩ := e9
          have hF9 := FRp.tr hF9 hF8
          have hU0 := hU9
          obtain ⟨g9, ⟨mO9, mA9⟩, fO9, fA9, hl9, hg9⟩ := hU0
          refine r_iload_n dX4_putNumber_26 2 rfl ?_
          refine i_bipush (10) (by decide) dX4_putNumber_27 ?_
          refine i_div dX4_putNumber_29 ⟨by decide, by decide⟩ ⟨by decide, by decide⟩ (by decide) (by decide) ?_
          rw [show (1 : Int) / 10 = 0 from by decide]
          refine r_istore_n (ls' := [(0, .ref o), (1, .int (iI n)), (2, .int (iI 0))]) dX4_putNumber_30 (by decide) rfl ?_
          refine r_goto dX4_putNumber_31 (tgt := 4) (by decide) ?_
          refine r_iload_n dX4_putNumber_4 2 rfl ?_
          refine i_ifle dX4_putNumber_5 (tgt := 34) (by decide) ⟨by decide, by decide⟩ (fun _ => ?_) (fun c => absurd c (by decide))
          refine r_return rfl dX4_putNumber_34 ?_
          have e : bs ++ [48 + ((n / 1000) % 10)] ++ [48 + ((n / 10) % 10)] ++ [48 + ((n / 1) % 10)] = bs ++ digs n := by unfold digs; rw [if_pos (by omega), if_neg (by omega), if_pos (by omega), if_pos (by omega)]; simp
          rw [e] at hU9
          exact ⟨rfl, hU9, hF9⟩
    · refine r_aload_n dX4_putNumber_13 0 rfl ?_
      refine i_bipush (48) (by decide) dX4_putNumber_14 ?_
      refine r_iload_n dX4_putNumber_16 1 rfl ?_
      refine r_iload_n dX4_putNumber_17 2 rfl ?_
      refine i_div dX4_putNumber_18 (by unfold in32; omega) ⟨by decide, by decide⟩ (by omega) (by omega) ?_
      refine i_bipush (10) (by decide) dX4_putNumber_19 ?_
      refine i_rem dX4_putNumber_21 (by unfold in32; omega) ⟨by decide, by decide⟩ (by omega) (by omega) ?_
      refine i_add dX4_putNumber_22 ?_
      refine p_callV (As := [.int (iI (48 + ((n / 100) % 10)))]) (b := o) (rest := []) (w := none) (st' := []) kv_X4_putNumber_19 dX4_putNumber_23 rfl rfl (Nat.le_of_ble_eq_true rfl) (Nat.le_of_ble_eq_true rfl) (x_rv mO9 fO9 rfl) rfl rfl (c_X4_put hU9 (x := 48 + ((n / 100) % 10)) (by first | omega | (simp only [List.length_append, List.length_singleton, List.length_cons, List.length_nil]; omega))) rfl (fun h9 e9 => ?_)
      obtain ⟨hU9, hF8⟩ := e9
      have hF9 := FRp.tr hF9 hF8
      have hU0 := hU9
      obtain ⟨g9, ⟨mO9, mA9⟩, fO9, fA9, hl9, hg9⟩ := hU0
      refine r_iload_n dX4_putNumber_26 2 rfl ?_
      refine i_bipush (10) (by decide) dX4_putNumber_27 ?_
      refine i_div dX4_putNumber_29 ⟨by decide, by decide⟩ ⟨by decide, by decide⟩ (by decide) (by decide) ?_
      rw [show (100 : Int) / 10 = 10 from by decide]
      refine r_istore_n (ls' := [(0, .ref o), (1, .int (iI n)), (2, .int (iI 10))]) dX4_putNumber_30 (by decide) rfl ?_
      refine r_goto dX4_putNumber_31 (tgt := 4) (by decide) ?_
      refine r_iload_n dX4_putNumber_4 2 rfl ?_
      refine i_ifle dX4_putNumber_5 (tgt := 34) (by decide) ⟨by decide, by decide⟩ (fun c => absurd c (by decide)) (fun _ => ?_)
      refine r_iload_n dX4_putNumber_8 1 rfl ?_
      refine r_iload_n dX4_putNumber_9 2 rfl ?_
      refine i_icmplt dX4_putNumber_10 (tgt := 26) (by decide) (by unfold in32; omega) ⟨by decide, by decide⟩ (fun c10 => ?_) (fun c10 => ?_)
      · refine r_iload_n dX4_putNumber_26 2 rfl ?_
        refine i_bipush (10) (by decide) dX4_putNumber_27 ?_
        refine i_div dX4_putNumber_29 ⟨by decide, by decide⟩ ⟨by decide, by decide⟩ (by decide) (by decide) ?_
        rw [show (10 : Int) / 10 = 1 from by decide]
        refine r_istore_n (ls' := [(0, .ref o), (1, .int (iI n)), (2, .int (iI 1))]) dX4_putNumber_30 (by decide) rfl ?_
        refine r_goto dX4_putNumber_31 (tgt := 4) (by decide) ?_
        refine r_iload_n dX4_putNumber_4 2 rfl ?_
        refine i_ifle dX4_putNumber_5 (tgt := 34) (by decide) ⟨by decide, by decide⟩ (fun c => absurd c (by decide)) (fun _ => ?_)
        refine r_iload_n dX4_putNumber_8 1 rfl ?_
        refine r_iload_n dX4_putNumber_9 2 rfl ?_
        refine i_icmplt dX4_putNumber_10 (tgt := 26) (by decide) (by unfold in32; omega) ⟨by decide, by decide⟩ (fun c10 => ?_) (fun c10 => ?_)
        · refine r_iload_n dX4_putNumber_26 2 rfl ?_
          refine i_bipush (10) (by decide) dX4_putNumber_27 ?_
          refine i_div dX4_putNumber_29 ⟨by decide, by decide⟩ ⟨by decide, by decide⟩ (by decide) (by decide) ?_
          rw [show (1 : Int) / 10 = 0 from by decide]
          refine r_istore_n (ls' := [(0, .ref o), (1, .int (iI n)), (2, .int (iI 0))]) dX4_putNumber_30 (by decide) rfl ?_
          refine r_goto dX4_putNumber_31 (tgt := 4) (by decide) ?_
          refine r_iload_n dX4_putNumber_4 2 rfl ?_
          refine i_ifle dX4_putNumber_5 (tgt := 34) (by decide) ⟨by decide, by decide⟩ (fun _ => ?_) (fun c => absurd c (by decide))
          refine r_return rfl dX4_putNumber_34 ?_
          have e : bs ++ [48 + ((n / 1000) % 10)] ++ [48 + ((n / 100) % 10)] = bs ++ digs n := by unfold digs; rw [if_pos (by omega), if_pos (by omega), if_neg (by omega), if_neg (by omega)]; simp
          rw [e] at hU9
          exact ⟨rfl, hU9, hF9⟩
        · refine r_aload_n dX4_putNumber_13 0 rfl ?_
          refine i_bipush (48) (by decide) dX4_putNumber_14 ?_
          refine r_iload_n dX4_putNumber_16 1 rfl ?_
          refine r_iload_n dX4_putNumber_17 2 rfl ?_
          refine i_div dX4_putNumber_18 (by unfold in32; omega) ⟨by decide, by decide⟩ (by omega) (by omega) ?_
          refine i_bipush (10) (by decide) dX4_putNumber_19 ?_
          refine i_rem dX4_putNumber_21 (by unfold in32; omega) ⟨by decide, by decide⟩ (by omega) (by omega) ?_
          refine i_add dX4_putNumber_22 ?_
          refine p_callV (As := [.int (iI (48 + ((n / 1) % 10)))]) (b := o) (rest := []) (w := none) (st' := []) kv_X4_putNumber_19 dX4_putNumber_23 rfl rfl (Nat.le_of_ble_eq_true rfl) (Nat.le_of_ble_eq_true rfl) (x_rv mO9 fO9 rfl) rfl rfl (c_X4_put hU9 (x := 48 + ((n / 1) % 10)) (by first | omega | (simp only [List.length_append, List.length_singleton, List.length_cons, List.length_nil]; omega))) rfl (fun h9 e9 => ?_)
          obtain ⟨hU9, hF8⟩ := e9
          have hF9 := FRp.tr hF9 hF8
          have hU0 := hU9
          obtain ⟨g9, ⟨mO9, mA9⟩, fO9, fA9, hl9, hg9⟩ := hU0
          refine r_iload_n dX4_putNumber_26 2 rfl ?_
          refine i_bipush (10) (by decide) dX4_putNumber_27 ?_
          refine i_div dX4_putNumber_29 ⟨by decide, by decide⟩ ⟨by decide, by decide⟩ (by decide) (by decide) ?_
          rw [show (1 : Int) / 10 = 0 from by decide]
          refine r_istore_n (ls' := [(0, .ref o), (1, .int (iI n)), (2, .int (iI 0))]) dX4_putNumber_30 (by decide) rfl ?_
          refine r_goto dX4_putNumber_31 (tgt := 4) (by decide) ?_
          refine r_iload_n dX4_putNumber_4 2 rfl ?_
          refine i_ifle dX4_putNumber_5 (tgt := 34) (by decide) ⟨by decide, by decide⟩ (fun _ => ?_) (fun c => absurd c (by decide))
          refine r_return rfl dX4_putNumber_34 ?_
          have e : bs ++ [48 + ((n / 1000) % 10)] ++ [48 + ((n / 100) % 10)] ++ [48 + ((n / 1) % 10)] = bs ++ digs n := by unfold digs; rw [if_pos (by omega), if_pos (by omega), if_neg (by omega), if_pos (by omega)]; simp
          rw [e] at hU9
          exact ⟨rfl, hU9, hF9⟩
      · refine r_aload_n dX4_putNumber_13 0 rfl ?_
        refine i_bipush (48) (by decide) dX4_putNumber_14 ?_
        refine r_iload_n dX4_putNumber_16 1 rfl ?_
        refine r_iload_n dX4_putNumber_17 2 rfl ?_
        refine i_div dX4_putNumber_18 (by unfold in32; omega) ⟨by decide, by decide⟩ (by omega) (by omega) ?_
        refine i_bipush (10) (by decide) dX4_putNumber_19 ?_
        refine i_rem dX4_putNumber_21 (by unfold in32; omega) ⟨by decide, by decide⟩ (by omega) (by omega) ?_
        refine i_add dX4_putNumber_22 ?_
        refine p_callV (As := [.int (iI (48 + ((n / 10) % 10)))]) (b := o) (rest := []) (w := none) (st' := []) kv_X4_putNumber_19 dX4_putNumber_23 rfl rfl (Nat.le_of_ble_eq_true rfl) (Nat.le_of_ble_eq_true rfl) (x_rv mO9 fO9 rfl) rfl rfl (c_X4_put hU9 (x := 48 + ((n / 10) % 10)) (by first | omega | (simp only [List.length_append, List.length_singleton, List.length_cons, List.length_nil]; omega))) rfl (fun h9 e9 => ?_)
        obtain ⟨hU9, hF8⟩ := e9
        have hF9 := FRp.tr hF9 hF8
        have hU0 := hU9
        obtain ⟨g9, ⟨mO9, mA9⟩, fO9, fA9, hl9, hg9⟩ := hU0
        refine r_iload_n dX4_putNumber_26 2 rfl ?_
        refine i_bipush (10) (by decide) dX4_putNumber_27 ?_
        refine i_div dX4_putNumber_29 ⟨by decide, by decide⟩ ⟨by decide, by decide⟩ (by decide) (by decide) ?_
        rw [show (10 : Int) / 10 = 1 from by decide]
        refine r_istore_n (ls' := [(0, .ref o), (1, .int (iI n)), (2, .int (iI 1))]) dX4_putNumber_30 (by decide) rfl ?_
        refine r_goto dX4_putNumber_31 (tgt := 4) (by decide) ?_
        refine r_iload_n dX4_putNumber_4 2 rfl ?_
        refine i_ifle dX4_putNumber_5 (tgt := 34) (by decide) ⟨by decide, by decide⟩ (fun c => absurd c (by decide)) (fun _ => ?_)
        refine r_iload_n dX4_putNumber_8 1 rfl ?_
        refine r_iload_n dX4_putNumber_9 2 rfl ?_
        refine i_icmplt dX4_putNumber_10 (tgt := 26) (by decide) (by unfold in32; omega) ⟨by decide, by decide⟩ (fun c10 => ?_) (fun c10 => ?_)
        · refine r_iload_n dX4_putNumber_26 2 rfl ?_
          refine i_bipush (10) (by decide) dX4_putNumber_27 ?_
          refine i_div dX4_putNumber_29 ⟨by decide, by decide⟩ ⟨by decide, by decide⟩ (by decide) (by decide) ?_
          rw [show (1 : Int) / 10 = 0 from by decide]
          refine r_istore_n (ls' := [(0, .ref o), (1, .int (iI n)), (2, .int (iI 0))]) dX4_putNumber_30 (by decide) rfl ?_
          refine r_goto dX4_putNumber_31 (tgt := 4) (by decide) ?_
          refine r_iload_n dX4_putNumber_4 2 rfl ?_
          refine i_ifle dX4_putNumber_5 (tgt := 34) (by decide) ⟨by decide, by decide⟩ (fun _ => ?_) (fun c => absurd c (by decide))
          refine r_return rfl dX4_putNumber_34 ?_
          have e : bs ++ [48 + ((n / 1000) % 10)] ++ [48 + ((n / 100) % 10)] ++ [48 + ((n / 10) % 10)] = bs ++ digs n := by unfold digs; rw [if_pos (by omega), if_pos (by omega), if_pos (by omega), if_neg (by omega)]; simp
          rw [e] at hU9
          exact ⟨rfl, hU9, hF9⟩
        · refine r_aload_n dX4_putNumber_13 0 rfl ?_
          refine i_bipush (48) (by decide) dX4_putNumber_14 ?_
          refine r_iload_n dX4_putNumber_16 1 rfl ?_
          refine r_iload_n dX4_putNumber_17 2 rfl ?_
          refine i_div dX4_putNumber_18 (by unfold in32; omega) ⟨by decide, by decide⟩ (by omega) (by omega) ?_
          refine i_bipush (10) (by decide) dX4_putNumber_19 ?_
          refine i_rem dX4_putNumber_21 (by unfold in32; omega) ⟨by decide, by decide⟩ (by omega) (by omega) ?_
          refine i_add dX4_putNumber_22 ?_
          refine p_callV (As := [.int (iI (48 + ((n / 1) % 10)))]) (b := o) (rest := []) (w := none) (st' := []) kv_X4_putNumber_19 dX4_putNumber_23 rfl rfl (Nat.le_of_ble_eq_true rfl) (Nat.le_of_ble_eq_true rfl) (x_rv mO9 fO9 rfl) rfl rfl (c_X4_put hU9 (x := 48 + ((n / 1) % 10)) (by first | omega | (simp only [List.length_append, List.length_singleton, List.length_cons, List.length_nil]; omega))) rfl (fun h9 e9 => ?_)
          obtain ⟨hU9, hF8⟩ := e9
          have hF9 := FRp.tr hF9 hF8
          have hU0 := hU9
          obtain ⟨g9, ⟨mO9, mA9⟩, fO9, fA9, hl9, hg9⟩ := hU0
          refine r_iload_n dX4_putNumber_26 2 rfl ?_
          refine i_bipush (10) (by decide) dX4_putNumber_27 ?_
          refine i_div dX4_putNumber_29 ⟨by decide, by decide⟩ ⟨by decide, by decide⟩ (by decide) (by decide) ?_
          rw [show (1 : Int) / 10 = 0 from by decide]
          refine r_istore_n (ls' := [(0, .ref o), (1, .int (iI n)), (2, .int (iI 0))]) dX4_putNumber_30 (by decide) rfl ?_
          refine r_goto dX4_putNumber_31 (tgt := 4) (by decide) ?_
          refine r_iload_n dX4_putNumber_4 2 rfl ?_
          refine i_ifle dX4_putNumber_5 (tgt := 34) (by decide) ⟨by decide, by decide⟩ (fun _ => ?_) (fun c => absurd c (by decide))
          refine r_return rfl dX4_putNumber_34 ?_
          have e : bs ++ [48 + ((n / 1000) % 10)] ++ [48 + ((n / 100) % 10)] ++ [48 + ((n / 10) % 10)] ++ [48 + ((n / 1) % 10)] = bs ++ digs n := by unfold digs; rw [if_pos (by omega), if_pos (by omega), if_pos (by omega), if_pos (by omega)]; simp
          rw [e] at hU9
          exact ⟨rfl, hU9, hF9⟩
set_option maxRecDepth 20000 in
set_option maxHeartbeats 1000000 in
theorem c_X4_replaceBy {G : xG} {h : xH} {o A : Nat} {bs : List Int} (hU : OU G h o A bs) {a t b : Nat} {s : AS} (hS : SH G h a t b s) (hW : WS s) (nS : a ≠ o ∧ a ≠ A ∧ t ≠ o ∧ t ≠ A ∧ b ≠ o ∧ b ≠ A) : CC G MX4_replaceBy [.ref o, .ref a] h (fun o' h' => o' = .inl none ∧ OU G h' o A (wrL s.1 s.1.length) ∧ FRp [o, A] h h') := by
  have nS0 := nS
  obtain ⟨l, ex, wa, fo, du, se, co⟩ := s
  have hS0 := hS
  obtain ⟨gt, gb, ⟨ma, mt, mb⟩, ⟨nta, nba, ntb⟩, fa, ft, fb, hl, hr⟩ := hS
  have hl : l.length ≤ 200 := hl
  have hr : sr gt gb l := hr
  have fa : h.2 a = .inr (5, [.ref t, .ref b, .int (iI (l.length : Int)), .int (iI ex), .int fo, .int (iI wa), .int (iI (b2 du)), .int (iI (b2 se)), .int (iI (b2 co))]) := fa
  have hW0 := hW
  obtain ⟨h1, hnz, h4, hw0, hw1⟩ := hW
  have h1 : 1 ≤ l.length := h1
  have h4 : hgt l ≤ 4000 := h4
  have hw0 : 0 ≤ wa := hw0
  have hw1 : wa ≤ 40 := hw1
  have hnz : ∀ x ∈ l, x ≠ 0 := hnz
  have hg0 := hgt_nn l
  have hgl := hgt_ge l hnz
  have L : ∀ k, k ≤ l.length → ∀ (hh : xH), OU G hh o A (wrL l k) → FRp [o, A] h hh → RR G MX4_replaceBy 12 [(0, .ref o), (1, .ref a), (2, .int (iI ((l.length : Int) - 1 - (k : Int))))] [] hh (xm_R MX4_replaceBy).cells (xm_R MX4_replaceBy).slots (fun o' h' => o' = .inl none ∧ OU G h' o A (wrL l l.length) ∧ FRp [o, A] h h') := by
    refine down (fun k hk ih => ?_)
    intro hh hU9 hF9
    have hU0 := hU9
    obtain ⟨g9, ⟨mO9, mA9⟩, fO9, fA9, hl9, hg9⟩ := hU0
    have hwl := wrL_len l k
    have ma9 : a ∈ hh.1 := by rw [hF9.1]; exact ma
    have mt9 : t ∈ hh.1 := by rw [hF9.1]; exact mt
    have mb9 : b ∈ hh.1 := by rw [hF9.1]; exact mb
    have fa9 := (hF9.2 a (by simp [nS0])).trans fa
    have ft9 := (hF9.2 t (by simp [nS0])).trans ft
    have fb9 := (hF9.2 b (by simp [nS0])).trans fb
    refine r_iload_n dX4_replaceBy_12 2 rfl ?_
    refine i_iflt dX4_replaceBy_13 (tgt := 62) (by decide) (by unfold in32; omega) (fun c13 => ?_) (fun c13 => ?_)
    · refine r_return rfl dX4_replaceBy_62 ?_
      rw [show k = l.length by omega] at hU9
      exact ⟨rfl, hU9, hF9⟩
    · refine r_aload_n dX4_replaceBy_16 0 rfl ?_
      refine r_aload_n dX4_replaceBy_17 1 rfl ?_
      refine r_get cl_X8 1 (by decide) kf_X4_28 dX4_replaceBy_18 ma9 fa9 rfl ?_
      refine r_iload_n dX4_replaceBy_21 2 rfl ?_
      refine i_zald (l.length - 1 - k) (by omega) dX4_replaceBy_22 mb9 fb9 (by omega) (by decide) (hr (l.length - 1 - k) (by omega)).2 ?_
      refine i_ifeqb dX4_replaceBy_23 (tgt := 31) (by decide) (fun c23 => ?_) (fun c23 => ?_)
      · refine i_bipush (68) (by decide) dX4_replaceBy_31 ?_
        refine p_callV (As := [.int (iI 68)]) (b := o) (rest := []) (w := none) (st' := []) kv_X4_replaceBy_19 dX4_replaceBy_33 rfl rfl (Nat.le_of_ble_eq_true rfl) (Nat.le_of_ble_eq_true rfl) (x_rv mO9 fO9 rfl) rfl rfl (c_X4_put hU9 (x := 68) (by first | omega | (simp only [List.length_append, List.length_singleton, List.length_cons, List.length_nil]; omega))) rfl (fun h9 e9 => ?_)
        obtain ⟨hU9, hF8⟩ := e9
        have hF9 := FRp.tr hF9 hF8
        have hU0 := hU9
        obtain ⟨g9, ⟨mO9, mA9⟩, fO9, fA9, hl9, hg9⟩ := hU0
        have ma9 : a ∈ h9.1 := by rw [hF9.1]; exact ma
        have mt9 : t ∈ h9.1 := by rw [hF9.1]; exact mt
        have mb9 : b ∈ h9.1 := by rw [hF9.1]; exact mb
        have fa9 := (hF9.2 a (by simp [nS0])).trans fa
        have ft9 := (hF9.2 t (by simp [nS0])).trans ft
        have fb9 := (hF9.2 b (by simp [nS0])).trans fb
        have ec := sz_le (l := l) (i := (l.length - 1 - k)) (by omega)
        have ep := sz_pos (hnz _ (getD_mem (l := l) (i := (l.length - 1 - k)) (by omega)))
        refine r_aload_n dX4_replaceBy_36 0 rfl ?_
        refine r_aload_n dX4_replaceBy_37 1 rfl ?_
        refine r_get cl_X8 0 (by decide) kf_X4_32 dX4_replaceBy_38 ma9 fa9 rfl ?_
        refine r_iload_n dX4_replaceBy_41 2 rfl ?_
        refine i_iald (l.length - 1 - k) (by omega) dX4_replaceBy_42 mt9 ft9 (by omega) (by decide) (hr (l.length - 1 - k) (by omega)).1 ?_
        refine p_callV (As := [.int (iI (sz (l.getD (l.length - 1 - k) 0)))]) (b := o) (rest := []) (w := none) (st' := []) kv_X4_replaceBy_35 dX4_replaceBy_43 rfl rfl (Nat.le_of_ble_eq_true rfl) (Nat.le_of_ble_eq_true rfl) (x_rv mO9 fO9 rfl) rfl rfl (c_X4_putNumber hU9 (n := sz (l.getD (l.length - 1 - k) 0)) (by omega) (by simp only [List.length_append, List.length_singleton]; omega)) rfl (fun h9 e9 => ?_)
        have hdl := digs_len (sz (l.getD (l.length - 1 - k) 0))
        obtain ⟨hU9, hF8⟩ := e9
        have hF9 := FRp.tr hF9 hF8
        have hU0 := hU9
        obtain ⟨g9, ⟨mO9, mA9⟩, fO9, fA9, hl9, hg9⟩ := hU0
        have ma9 : a ∈ h9.1 := by rw [hF9.1]; exact ma
        have mt9 : t ∈ h9.1 := by rw [hF9.1]; exact mt
        have mb9 : b ∈ h9.1 := by rw [hF9.1]; exact mb
        have fa9 := (hF9.2 a (by simp [nS0])).trans fa
        have ft9 := (hF9.2 t (by simp [nS0])).trans ft
        have fb9 := (hF9.2 b (by simp [nS0])).trans fb
        refine r_iload_n dX4_replaceBy_46 2 rfl ?_
        refine i_ifle dX4_replaceBy_47 (tgt := 56) (by decide) (by unfold in32; omega) (fun c47 => ?_) (fun c47 => ?_)
        · refine i_iinc (ls' := [(0, .ref o), (1, .ref a), (2, .int (iI (((l.length : Int) - 1 - (k : Int)) - 1)))]) (-1) (v := ((l.length : Int) - 1 - (k : Int)) - 1) dX4_replaceBy_56 2 rfl (by omega) (by decide) rfl ?_
          refine r_goto dX4_replaceBy_59 (tgt := 12) (by decide) ?_
          have e : wrL l k ++ [68] ++ digs (sz (l.getD (l.length - 1 - k) 0)) = wrL l (k + 1) := by
            simp only [wrL, layT, c23, if_true, Bool.false_eq_true, if_false]
            rw [if_neg (by omega)]
            simp [List.append_assoc]
          rw [e] at hU9
          have q := ih (k + 1) (by omega) (by omega) _ hU9 hF9
          rw [show (l.length : Int) - 1 - ((k + 1 : Nat) : Int) = (l.length : Int) - 1 - (k : Int) - 1 by omega] at q
          exact q
        · refine r_aload_n dX4_replaceBy_50 0 rfl ?_
          refine i_bipush (32) (by decide) dX4_replaceBy_51 ?_
          refine p_callV (As := [.int (iI 32)]) (b := o) (rest := []) (w := none) (st' := []) kv_X4_replaceBy_19 dX4_replaceBy_53 rfl rfl (Nat.le_of_ble_eq_true rfl) (Nat.le_of_ble_eq_true rfl) (x_rv mO9 fO9 rfl) rfl rfl (c_X4_put hU9 (x := 32) (by first | omega | (simp only [List.length_append, List.length_singleton, List.length_cons, List.length_nil]; omega))) rfl (fun h9 e9 => ?_)
          obtain ⟨hU9, hF8⟩ := e9
          have hF9 := FRp.tr hF9 hF8
          have hU0 := hU9
          obtain ⟨g9, ⟨mO9, mA9⟩, fO9, fA9, hl9, hg9⟩ := hU0
          have ma9 : a ∈ h9.1 := by rw [hF9.1]; exact ma
          have mt9 : t ∈ h9.1 := by rw [hF9.1]; exact mt
          have mb9 : b ∈ h9.1 := by rw [hF9.1]; exact mb
          have fa9 := (hF9.2 a (by simp [nS0])).trans fa
          have ft9 := (hF9.2 t (by simp [nS0])).trans ft
          have fb9 := (hF9.2 b (by simp [nS0])).trans fb
          refine i_iinc (ls' := [(0, .ref o), (1, .ref a), (2, .int (iI (((l.length : Int) - 1 - (k : Int)) - 1)))]) (-1) (v := ((l.length : Int) - 1 - (k : Int)) - 1) dX4_replaceBy_56 2 rfl (by omega) (by decide) rfl ?_
          refine r_goto dX4_replaceBy_59 (tgt := 12) (by decide) ?_
          have e : wrL l k ++ [68] ++ digs (sz (l.getD (l.length - 1 - k) 0)) ++ [32] = wrL l (k + 1) := by
            simp only [wrL, layT, c23, if_true, Bool.false_eq_true, if_false]
            rw [if_pos (by omega)]
            simp [List.append_assoc]
          rw [e] at hU9
          have q := ih (k + 1) (by omega) (by omega) _ hU9 hF9
          rw [show (l.length : Int) - 1 - ((k + 1 : Nat) : Int) = (l.length : Int) - 1 - (k : Int) - 1 by omega] at q
          exact q
      · refine i_bipush (66) (by decide) dX4_replaceBy_26 ?_
        refine r_goto dX4_replaceBy_28 (tgt := 33) (by decide) ?_
        refine p_callV (As := [.int (iI 66)]) (b := o) (rest := []) (w := none) (st' := []) kv_X4_replaceBy_19 dX4_replaceBy_33 rfl rfl (Nat.le_of_ble_eq_true rfl) (Nat.le_of_ble_eq_true rfl) (x_rv mO9 fO9 rfl) rfl rfl (c_X4_put hU9 (x := 66) (by first | omega | (simp only [List.length_append, List.length_singleton, List.length_cons, List.length_nil]; omega))) rfl (fun h9 e9 => ?_)
        obtain ⟨hU9, hF8⟩ := e9
        have hF9 := FRp.tr hF9 hF8
        have hU0 := hU9
        obtain ⟨g9, ⟨mO9, mA9⟩, fO9, fA9, hl9, hg9⟩ := hU0
        have ma9 : a ∈ h9.1 := by rw [hF9.1]; exact ma
        have mt9 : t ∈ h9.1 := by rw [hF9.1]; exact mt
        have mb9 : b ∈ h9.1 := by rw [hF9.1]; exact mb
        have fa9 := (hF9.2 a (by simp [nS0])).trans fa
        have ft9 := (hF9.2 t (by simp [nS0])).trans ft
        have fb9 := (hF9.2 b (by simp [nS0])).trans fb
        have ec := sz_le (l := l) (i := (l.length - 1 - k)) (by omega)
        have ep := sz_pos (hnz _ (getD_mem (l := l) (i := (l.length - 1 - k)) (by omega)))
        refine r_aload_n dX4_replaceBy_36 0 rfl ?_
        refine r_aload_n dX4_replaceBy_37 1 rfl ?_
        refine r_get cl_X8 0 (by decide) kf_X4_32 dX4_replaceBy_38 ma9 fa9 rfl ?_
        refine r_iload_n dX4_replaceBy_41 2 rfl ?_
        refine i_iald (l.length - 1 - k) (by omega) dX4_replaceBy_42 mt9 ft9 (by omega) (by decide) (hr (l.length - 1 - k) (by omega)).1 ?_
        refine p_callV (As := [.int (iI (sz (l.getD (l.length - 1 - k) 0)))]) (b := o) (rest := []) (w := none) (st' := []) kv_X4_replaceBy_35 dX4_replaceBy_43 rfl rfl (Nat.le_of_ble_eq_true rfl) (Nat.le_of_ble_eq_true rfl) (x_rv mO9 fO9 rfl) rfl rfl (c_X4_putNumber hU9 (n := sz (l.getD (l.length - 1 - k) 0)) (by omega) (by simp only [List.length_append, List.length_singleton]; omega)) rfl (fun h9 e9 => ?_)
        have hdl := digs_len (sz (l.getD (l.length - 1 - k) 0))
        obtain ⟨hU9, hF8⟩ := e9
        have hF9 := FRp.tr hF9 hF8
        have hU0 := hU9
        obtain ⟨g9, ⟨mO9, mA9⟩, fO9, fA9, hl9, hg9⟩ := hU0
        have ma9 : a ∈ h9.1 := by rw [hF9.1]; exact ma
        have mt9 : t ∈ h9.1 := by rw [hF9.1]; exact mt
        have mb9 : b ∈ h9.1 := by rw [hF9.1]; exact mb
        have fa9 := (hF9.2 a (by simp [nS0])).trans fa
        have ft9 := (hF9.2 t (by simp [nS0])).trans ft
        have fb9 := (hF9.2 b (by simp [nS0])).trans fb
        refine r_iload_n dX4_replaceBy_46 2 rfl ?_
        refine i_ifle dX4_replaceBy_47 (tgt := 56) (by decide) (by unfold in32; omega) (fun c47 => ?_) (fun c47 => ?_)
        · refine i_iinc (ls' := [(0, .ref o), (1, .ref a), (2, .int (iI (((l.length : Int) - 1 - (k : Int)) - 1)))]) (-1) (v := ((l.length : Int) - 1 - (k : Int)) - 1) dX4_replaceBy_56 2 rfl (by omega) (by decide) rfl ?_
          refine r_goto dX4_replaceBy_59 (tgt := 12) (by decide) ?_
          have e : wrL l k ++ [66] ++ digs (sz (l.getD (l.length - 1 - k) 0)) = wrL l (k + 1) := by
            simp only [wrL, layT, c23, if_true, Bool.false_eq_true, if_false]
            rw [if_neg (by omega)]
            simp [List.append_assoc]
          rw [e] at hU9
          have q := ih (k + 1) (by omega) (by omega) _ hU9 hF9
          rw [show (l.length : Int) - 1 - ((k + 1 : Nat) : Int) = (l.length : Int) - 1 - (k : Int) - 1 by omega] at q
          exact q
        · refine r_aload_n dX4_replaceBy_50 0 rfl ?_
          refine i_bipush (32) (by decide) dX4_replaceBy_51 ?_
          refine p_callV (As := [.int (iI 32)]) (b := o) (rest := []) (w := none) (st' := []) kv_X4_replaceBy_19 dX4_replaceBy_53 rfl rfl (Nat.le_of_ble_eq_true rfl) (Nat.le_of_ble_eq_true rfl) (x_rv mO9 fO9 rfl) rfl rfl (c_X4_put hU9 (x := 32) (by first | omega | (simp only [List.length_append, List.length_singleton, List.length_cons, List.length_nil]; omega))) rfl (fun h9 e9 => ?_)
          obtain ⟨hU9, hF8⟩ := e9
          have hF9 := FRp.tr hF9 hF8
          have hU0 := hU9
          obtain ⟨g9, ⟨mO9, mA9⟩, fO9, fA9, hl9, hg9⟩ := hU0
          have ma9 : a ∈ h9.1 := by rw [hF9.1]; exact ma
          have mt9 : t ∈ h9.1 := by rw [hF9.1]; exact mt
          have mb9 : b ∈ h9.1 := by rw [hF9.1]; exact mb
          have fa9 := (hF9.2 a (by simp [nS0])).trans fa
          have ft9 := (hF9.2 t (by simp [nS0])).trans ft
          have fb9 := (hF9.2 b (by simp [nS0])).trans fb
          refine i_iinc (ls' := [(0, .ref o), (1, .ref a), (2, .int (iI (((l.length : Int) - 1 - (k : Int)) - 1)))]) (-1) (v := ((l.length : Int) - 1 - (k : Int)) - 1) dX4_replaceBy_56 2 rfl (by omega) (by decide) rfl ?_
          refine r_goto dX4_replaceBy_59 (tgt := 12) (by decide) ?_
          have e : wrL l k ++ [66] ++ digs (sz (l.getD (l.length - 1 - k) 0)) ++ [32] = wrL l (k + 1) := by
            simp only [wrL, layT, c23, if_true, Bool.false_eq_true, if_false]
            rw [if_pos (by omega)]
            simp [List.append_assoc]
          rw [e] at hU9
          have q := ih (k + 1) (by omega) (by omega) _ hU9 hF9
          rw [show (l.length : Int) - 1 - ((k + 1 : Nat) : Int) = (l.length : Int) - 1 - (k : Int) - 1 by omega] at q
          exact q
  have hU0 := hU
  obtain ⟨g, ⟨mO, mA⟩, fO, fA, hl, hg⟩ := hU
  have nOA : o ≠ A := ne_oi fO fA
  show RR G MX4_replaceBy 0 [(0, .ref o), (1, .ref a)] [] h (xm_R MX4_replaceBy).cells (xm_R MX4_replaceBy).slots (fun o' h' => o' = .inl none ∧ OU G h' o A (wrL l l.length) ∧ FRp [o, A] h h')
  refine r_aload_n dX4_replaceBy_0 0 rfl ?_
  refine i_const (0) dX4_replaceBy_1 ?_
  refine i_put [.ref A, .int (iI 0)] cl_X4 1 (by decide) kf_X4_15 rfl dX4_replaceBy_2 mO fO rfl rfl (by simp) rfl (fun h1 e0_1 e1_1 e2_1 => ?_)
  have ma_1 : a ∈ h1.1 := by rw [e0_1]; exact ma
  have fa_1 := (e2_1 _ nS0.1).trans fa
  have mt_1 : t ∈ h1.1 := by rw [e0_1]; exact mt
  have ft_1 := (e2_1 _ nS0.2.2.1).trans ft
  have mb_1 : b ∈ h1.1 := by rw [e0_1]; exact mb
  have fb_1 := (e2_1 _ nS0.2.2.2.2.1).trans fb
  have mo_1 : o ∈ h1.1 := by rw [e0_1]; exact mO
  have mA_1 : A ∈ h1.1 := by rw [e0_1]; exact mA
  have fA_1 := (e2_1 _ (Ne.symm nOA)).trans fA
  refine r_aload_n dX4_replaceBy_5 1 rfl ?_
  refine r_get cl_X8 2 (by decide) kf_X4_23 dX4_replaceBy_6 ma_1 fa_1 rfl ?_
  refine i_const (1) dX4_replaceBy_9 ?_
  refine i_sub dX4_replaceBy_10 ?_
  refine r_istore_n (ls' := [(0, .ref o), (1, .ref a), (2, .int (iI ((l.length : Int) - 1)))]) dX4_replaceBy_11 (by decide) rfl ?_
  have hU1 : OU G h1 o A (wrL l 0) := ⟨g, ⟨mo_1, mA_1⟩, e1_1, fA_1, Nat.zero_le _, fun k hk => absurd hk (Nat.not_lt_zero k)⟩
  have q := L 0 (by omega) _ hU1 (FRp.w (by simp) e0_1 e2_1)
  rw [show (l.length : Int) - 1 - ((0 : Nat) : Int) = (l.length : Int) - 1 by omega] at q
  exact q
