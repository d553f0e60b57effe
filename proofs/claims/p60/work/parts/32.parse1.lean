/-! ===== the parser: words, numbers, semicolons ===== -/
def txL : List (List Int) := [[115, 104, 101, 101, 116], [98, 101, 110, 99, 104], [100, 111, 117, 103, 104], [98, 117, 116, 116, 101, 114], [102, 111, 108, 100], [114, 111, 108, 108], [100, 117, 115, 116], [115, 101, 97, 108], [99, 111, 111, 108], [116, 97, 107, 101, 111, 117, 116], [119, 97, 105, 116], [99, 117, 116], [115, 116, 97, 99, 107]]
def txS (i : Nat) : List Int := txL.getD i []
def ldcW : List (String × Nat × String × Nat) := [("PastryBench$Parser", 72, "sheet", 0), ("PastryBench$Parser", 74, "bench", 1), ("PastryBench$Parser", 102, "dough", 2), ("PastryBench$Parser", 104, "butter", 3)]
def GT (G : xG) (sa : Nat → Nat) : Prop := GS G ∧ (∀ i, i < 4 → STR G (sa i) (txS i)) ∧ ∀ w ∈ ldcW, x_zz G (fun _ U _ => vk_R w.1 w.2.1 w.2.2.1 (sa w.2.2.2) U)
def isW (T : List Int) (t : Nat × Nat × Nat) (w : List Int) : Bool := decide (t.1 = 0) && (decide (t.2.2 - t.2.1 = w.length) && decide (∀ k, k < w.length → T.getD (t.2.1 + k) 0 = w.getD k 0))
abbrev PR (α : Type) : Type := (Int × Int) ⊕ (α × Nat)
def okP {α : Type} (r : PR α) : Bool := match r with | .inl _ => false | .inr _ => true
theorem okP_t {α : Type} {r : PR α} (h : okP r = true) : ∃ a p, r = .inr (a, p) := by cases r with | inl e => cases h | inr a => exact ⟨a.1, a.2, rfl⟩
theorem okP_f {α : Type} {r : PR α} (h : okP r = false) : ∃ e, r = .inl e := by cases r with | inl e => exact ⟨e, rfl⟩ | inr a => cases h
def sErr {α : Type} (T : List Int) (p : Nat) (c : Int) : PR α := .inl (c, ((tokAt T p).2.1 : Int))
def sWord (T : List Int) (p : Nat) (w : List Int) : PR Unit := if isW T (tokAt T p) w then .inr ((), (tokAt T p).2.2) else sErr T p 1
def sSemi (T : List Int) (p : Nat) : PR Unit := if (tokAt T p).1 = 2 then .inr ((), (tokAt T p).2.2) else sErr T p 1
def nVal (T : List Int) (p : Nat) : Int := valU T (tokAt T p).2.1 ((tokAt T p).2.2 - (tokAt T p).2.1)
def sNum (T : List Int) (p : Nat) (lo hi : Int) : PR Int := if (tokAt T p).1 = 1 then (if nVal T p < lo then sErr T p 2 else if hi < nVal T p then sErr T p 2 else .inr (nVal T p, (tokAt T p).2.2)) else sErr T p 1
def isLW (T : List Int) (p : Nat) : Bool := isW T (tokAt T p) (txS 2) || isW T (tokAt T p) (txS 3)
def PAR (G : xG) (h : xH) (K : xK) (o to I : Nat) (T : List Int) (t : Nat × Nat × Nat) (c off num : Int) : Prop := o ∈ h.1 ∧ h.2 o = .inr (3, [.ref to, .int (iI c), .int (iI off), .int (iI num)]) ∧ TKO G h K to I T t
theorem TKO.fr {G : xG} {h h' : xH} {K : xK} {o I : Nat} {fp : List Nat} {T : List Int} {t : Nat × Nat × Nat} (hI : TKO G h K o I T t) (hF : FRp fp h h') (h1 : o ∉ fp) : TKO G h' K o I T t := by
  obtain ⟨v, m, f, r⟩ := hI
  exact ⟨v, by rw [hF.1]; exact m, (hF.2 o h1).trans f, r⟩
theorem PAR.fr {G : xG} {h h' : xH} {K : xK} {o to I : Nat} {fp : List Nat} {T : List Int} {t : Nat × Nat × Nat} {c off num : Int} (hI : PAR G h K o to I T t c off num) (hF : FRp fp h h') (h1 : o ∉ fp) (h2 : to ∉ fp) : PAR G h' K o to I T t c off num :=
  ⟨by rw [hF.1]; exact hI.1, (hF.2 o h1).trans hI.2.1, hI.2.2.fr hF h2⟩
theorem PAR.ne {G : xG} {h : xH} {K : xK} {o to I : Nat} {T : List Int} {t : Nat × Nat × Nat} {c off num : Int} (hI : PAR G h K o to I T t c off num) : o ≠ to := by
  obtain ⟨v, m, f, r⟩ := hI.2.2
  exact ne_oo hI.2.1 f (by decide)
theorem INP.nt {G : xG} {h : xH} {K : xK} {o to I : Nat} {T : List Int} {t : Nat × Nat × Nat} {c off num : Int} (hP : PAR G h K o to I T t c off num) (hI : INP G h I T) : I ∉ [o, to] := by
  obtain ⟨v, m, f, r⟩ := hP.2.2
  obtain ⟨g, m2, f2, r2⟩ := hI
  intro z
  rcases List.mem_cons.mp z with z | z
  · exact ne_oi hP.2.1 f2 z.symm
  · exact ne_oi f f2 (List.mem_singleton.mp z).symm
/-- what a method of the parser leaves: r is what it read -/
def PS {α : Type} (G : xG) (h h' : xH) (K : xK) (o to I : Nat) (T : List Int) (fp : List Nat) (r : PR α) (f : α → Int → xH → Prop) (bad : xH → Prop) : Prop := FRp ([o, to] ++ fp) h h' ∧ match r with
  | .inl e => bad h' ∧ ∃ t num, PAR G h' K o to I T t e.1 e.2 num
  | .inr a => ∃ num, f a.1 num h' ∧ PAR G h' K o to I T (tokAt T a.2) 0 (-1) num ∧ a.2 ≤ T.length
theorem dig_run {T : List Int} : ∀ (d S k : Nat), k < d → S + d ≤ endR isDigB T S → isDigB (T.getD (S + k) 0) = true := by
  intro d
  induction d with
  | zero => intro S k hk; exact absurd hk (Nat.not_lt_zero k)
  | succ d ih =>
    intro S k hk h
    have hb := endR_b isDigB T S
    by_cases hn : T.length ≤ S
    · rw [endR_n hn] at h; omega
    · cases e : isDigB (T.getD S 0)
      · rw [endR_f e] at h; omega
      · cases k with
        | zero => exact e
        | succ k =>
          rw [endR_t (by omega) e] at h
          rw [show S + (k + 1) = S + 1 + k by omega]
          exact ih (S + 1) k (by omega) (by omega)
theorem nVal_nn {T : List Int} {p : Nat} (hp : p ≤ T.length) (hk : (tokAt T p).1 = 1) : 0 ≤ nVal T p := by
  have hb := tokAt_b T hp
  unfold nVal
  refine valU_nn _ _ _ (fun i hi => ?_)
  unfold tokAt at hk hi ⊢
  generalize endR isSepB T p = S at hk hi ⊢
  unfold tokS at hk hi ⊢
  split at hk
  · simp at hk
  · rename_i h1
    rw [if_neg h1] at hi ⊢
    split at hk
    · simp at hk
    · rename_i h2
      rw [if_neg h2] at hi ⊢
      split at hk
      · rename_i h3
        rw [if_pos h3] at hi ⊢
        have hi : i < endR isDigB T (S + 1) - S := hi
        have e : endR isDigB T S = endR isDigB T (S + 1) := endR_t (by omega) h3
        exact dig_run (endR isDigB T S - S) S i (by omega) (by omega)
      · split at hk <;> simp at hk
theorem gk_Tne {G : xG} {K : xK} (h : GK G K) {i j : Nat} (hi : i < 5) (hj : j < 5) (e : i ≠ j) : ¬ K.2.1 i = K.2.1 j := fun z => e (h.2.2.1.2 i j hi hj z)
set_option maxRecDepth 20000 in
set_option maxHeartbeats 1000000 in
theorem c_X10_isWord {G : xG} {h : xH} {K : xK} (hGK : GK G K) (hGS : GS G) {o I : Nat} {T : List Int} (hI : INP G h I T) {t : Nat × Nat × Nat} (hO : TKO G h K o I T t) (ht : t.1 < 5 ∧ t.2.1 ≤ t.2.2 ∧ t.2.2 ≤ T.length) {q : Nat} {tx : List Int} (hT : STR G q tx) : CC G MX10_isWord [.ref o, .ref q] h (qI (b2 (isW T t tx)) h) := by
  obtain ⟨k, s, e⟩ := t
  obtain ⟨g, mI, fI, hT5, hg, hb⟩ := hI
  obtain ⟨v, mo, fo, hv⟩ := hO
  obtain ⟨hk5, hse, hen⟩ := ht
  have hk5 : k < 5 := hk5
  have hse : s ≤ e := hse
  have hen : e ≤ T.length := hen
  have fo : h.2 o = .inr (6, [.ref I, .int (iI (T.length : Int)), .int (iI (e : Int)), .ref (K.2.1 k), .int (iI (s : Int)), .int (iI v)]) := fo
  obtain ⟨w9, hQ, -⟩ := hT.1
  have htl := hT.2.1
  have hb9 := hT.2.2
  have L : k = 0 → e - s = tx.length → ∀ i, i ≤ tx.length → (∀ j, j < i → T.getD (s + j) 0 = tx.getD j 0) → RR G MX10_isWord 30 [(0, .ref o), (1, .ref q), (2, .int (iI ((i : Int))))] [] h (xm_R MX10_isWord).cells (xm_R MX10_isWord).slots (qI (b2 (isW T (k, s, e) tx)) h) := by
    intro hk0 hlen
    refine down (fun i hi ih => ?_)
    intro hj
    refine r_iload_n dX10_isWord_30 2 rfl ?_
    refine r_aload_n dX10_isWord_31 1 rfl ?_
    refine p_callV (As := []) (b := q) (rest := [.int (iI ((i : Int)))]) (w := (some (.int (iI ((tx.length : Int)))))) (st' := [.int (iI ((tx.length : Int))), .int (iI ((i : Int)))]) kv_X10_isWord_69 dX10_isWord_32 rfl rfl (Nat.le_of_ble_eq_true rfl) (Nat.le_of_ble_eq_true rfl) (x_rvc hQ) rfl rfl (c_J0_length_8abf5 hGS hT) rfl (fun h9 e9 => ?_)
    rw [show h9 = h from e9]
    refine i_icmpge dX10_isWord_35 (tgt := 65) (by decide) (by unfold in32; omega) (by unfold in32; omega) (fun c35 => ?_) (fun c35 => ?_)
    · refine i_const (1) dX10_isWord_65 ?_
      refine r_ireturn rfl (b2_nar true) dX10_isWord_66 ?_
      have e9 : isW T (k, s, e) tx = true := by
        unfold isW
        rw [decide_eq_true hk0, decide_eq_true hlen, decide_eq_true (fun j hj9 => hj j (by omega))]; rfl
      rw [e9]
      exact ⟨rfl, rfl⟩
    · have hbi := hb (s + i) (by omega)
      have hbt := hb9 i (by omega)
      refine r_aload_n dX10_isWord_38 0 rfl ?_
      refine r_get cl_X10 0 (by decide) kf_X10_9 dX10_isWord_39 mo fo rfl ?_
      refine r_aload_n dX10_isWord_42 0 rfl ?_
      refine r_get cl_X10 4 (by decide) kf_X10_44 dX10_isWord_43 mo fo rfl ?_
      refine r_iload_n dX10_isWord_46 2 rfl ?_
      refine i_add dX10_isWord_47 ?_
      refine i_iald (s + i) (by omega) dX10_isWord_48 mI fI (by omega) (by decide) (hg (s + i) (by omega)) ?_
      refine r_aload_n dX10_isWord_49 1 rfl ?_
      refine r_iload_n dX10_isWord_50 2 rfl ?_
      refine p_callV (As := [.int (iI ((i : Int)))]) (b := q) (rest := [.int (iI (T.getD (s + i) 0))]) (w := (some (.int (iI (tx.getD i 0))))) (st' := [.int (iI (tx.getD i 0)), .int (iI (T.getD (s + i) 0))]) kv_X10_isWord_74 dX10_isWord_51 rfl rfl (Nat.le_of_ble_eq_true rfl) (Nat.le_of_ble_eq_true rfl) (x_rvc hQ) rfl rfl (c_J0_charAt_5068e hGS hT (i := i) (by omega)) rfl (fun h9 e9 => ?_)
      rw [show h9 = h from e9]
      refine i_icmpeq dX10_isWord_54 (tgt := 59) (by decide) (by unfold in32; omega) (by unfold in32; omega) (fun c54 => ?_) (fun c54 => ?_)
      · refine i_iinc (ls' := [(0, .ref o), (1, .ref q), (2, .int (iI ((i : Int) + 1)))]) (1) (v := (i : Int) + 1) dX10_isWord_59 2 rfl (by omega) (by decide) rfl ?_
        refine r_goto dX10_isWord_62 (tgt := 30) (by decide) ?_
        exact ih (i + 1) (by omega) (by omega) (fun j hj9 => by
            by_cases z : j = i
            · rw [z]; exact c54
            · exact hj j (by omega))
      · refine i_const (0) dX10_isWord_57 ?_
        refine r_ireturn rfl (b2_nar false) dX10_isWord_58 ?_
        have e9 : isW T (k, s, e) tx = false := by
          unfold isW
          rw [decide_eq_false (p := ∀ k, k < tx.length → T.getD (s + k) 0 = tx.getD k 0) (fun z => c54 (z i (by omega)))]; simp
        rw [e9]
        exact ⟨rfl, rfl⟩
  show RR G MX10_isWord 0 [(0, .ref o), (1, .ref q)] [] h (xm_R MX10_isWord).cells (xm_R MX10_isWord).slots (qI (b2 (isW T (k, s, e) tx)) h)
  refine r_aload_n dX10_isWord_0 0 rfl ?_
  refine r_get cl_X10 3 (by decide) kf_X10_21 dX10_isWord_1 mo fo rfl ?_
  refine r_gets (gk_T hGK 0 (by decide)) kg_X10_50 dX10_isWord_4 ?_
  refine r_acmpne dX10_isWord_7 (tgt := 26) (by decide) (fun c7 => ?_) (fun c7 => ?_)
  · refine i_const (0) dX10_isWord_26 ?_
    refine r_ireturn rfl (b2_nar false) dX10_isWord_27 ?_
    have e9 : isW T (k, s, e) tx = false := by
      unfold isW
      rw [decide_eq_false (show ¬ (k, s, e).1 = 0 from fun z => c7 (by rw [show k = 0 from z]))]; rfl
    rw [e9]
    exact ⟨rfl, rfl⟩
  · refine r_aload_n dX10_isWord_10 0 rfl ?_
    refine r_get cl_X10 2 (by decide) kf_X10_34 dX10_isWord_11 mo fo rfl ?_
    refine r_aload_n dX10_isWord_14 0 rfl ?_
    refine r_get cl_X10 4 (by decide) kf_X10_44 dX10_isWord_15 mo fo rfl ?_
    refine i_sub dX10_isWord_18 ?_
    refine r_aload_n dX10_isWord_19 1 rfl ?_
    refine p_callV (As := []) (b := q) (rest := [.int (iI ((e : Int) - (s : Int)))]) (w := (some (.int (iI ((tx.length : Int)))))) (st' := [.int (iI ((tx.length : Int))), .int (iI ((e : Int) - (s : Int)))]) kv_X10_isWord_69 dX10_isWord_20 rfl rfl (Nat.le_of_ble_eq_true rfl) (Nat.le_of_ble_eq_true rfl) (x_rvc hQ) rfl rfl (c_J0_length_8abf5 hGS hT) rfl (fun h9 e9 => ?_)
    rw [show h9 = h from e9]
    refine i_icmpeq dX10_isWord_23 (tgt := 28) (by decide) (by unfold in32; omega) (by unfold in32; omega) (fun c23 => ?_) (fun c23 => ?_)
    · refine i_const (0) dX10_isWord_28 ?_
      refine r_istore_n (ls' := [(0, .ref o), (1, .ref q), (2, .int (iI 0))]) dX10_isWord_29 (by decide) rfl ?_
      have hk0 : k = 0 := by
        by_cases z : k = 0
        · exact z
        · exact absurd c7 (gk_Tne hGK hk5 (by omega) z)
      exact L hk0 (by omega) 0 (by omega) (fun j hj => absurd hj (Nat.not_lt_zero j))
    · refine i_const (0) dX10_isWord_26 ?_
      refine r_ireturn rfl (b2_nar false) dX10_isWord_27 ?_
      have e9 : isW T (k, s, e) tx = false := by
        unfold isW
        rw [decide_eq_false (p := (k, s, e).2.2 - (k, s, e).2.1 = tx.length) (fun z => c23 (by have z : e - s = tx.length := z; omega))]; simp
      rw [e9]
      exact ⟨rfl, rfl⟩
set_option maxRecDepth 20000 in
set_option maxHeartbeats 1000000 in
theorem c_X5_fail {G : xG} {h : xH} {K : xK} (hGK : GK G K) {o to I : Nat} {T : List Int} {t : Nat × Nat × Nat} {c off num c9 : Int} (hP : PAR G h K o to I T t c off num) : CC G MX5_fail [.ref o, .int (iI c9)] h (fun oo h' => oo = .inl (some (.int (iI (b2 false)))) ∧ PAR G h' K o to I T t c9 (t.2.1 : Int) num ∧ FRp [o, to] h h') := by
  have hP0 := hP
  have not := hP.ne
  obtain ⟨mo, fo, v, mt, ft, hv⟩ := hP
  show RR G MX5_fail 0 [(0, .ref o), (1, .int (iI c9))] [] h (xm_R MX5_fail).cells (xm_R MX5_fail).slots (fun oo h' => oo = .inl (some (.int (iI (b2 false)))) ∧ PAR G h' K o to I T t c9 (t.2.1 : Int) num ∧ FRp [o, to] h h')
  refine r_aload_n dX5_fail_0 0 rfl ?_
  refine r_iload_n dX5_fail_1 1 rfl ?_
  refine i_put [.ref to, .int (iI c9), .int (iI off), .int (iI num)] cl_X5 1 (by decide) kf_X5_22 rfl dX5_fail_2 mo fo rfl rfl (by simp) rfl (fun h1 e0_1 e1_1 e2_1 => ?_)
  have mo_1 : o ∈ h1.1 := by rw [e0_1]; exact mo
  have mto_1 : to ∈ h1.1 := by rw [e0_1]; exact mt
  have fto_1 := (e2_1 _ (Ne.symm not)).trans ft
  refine r_aload_n dX5_fail_5 0 rfl ?_
  refine r_aload_n dX5_fail_6 0 rfl ?_
  refine r_get cl_X5 0 (by decide) kf_X5_12 dX5_fail_7 mo_1 e1_1 rfl ?_
  refine r_get cl_X10 4 (by decide) kf_X5_29 dX5_fail_10 mto_1 fto_1 rfl ?_
  refine i_put [.ref to, .int (iI c9), .int (iI ((t.2.1 : Int))), .int (iI num)] cl_X5 2 (by decide) kf_X5_18 rfl dX5_fail_13 mo_1 e1_1 rfl rfl (by simp) rfl (fun h2 e0_2 e1_2 e2_2 => ?_)
  have mo_2 : o ∈ h2.1 := by rw [e0_2]; exact mo_1
  have mto_2 : to ∈ h2.1 := by rw [e0_2]; exact mto_1
  have fto_2 := (e2_2 _ (Ne.symm not)).trans fto_1
  refine i_const (0) dX5_fail_16 ?_
  refine r_ireturn rfl (b2_nar false) dX5_fail_17 ?_
  exact ⟨rfl, ⟨mo_2, e1_2, v, mto_2, fto_2, hv⟩, (FRp.tr (FRp.w (by simp) e0_1 e2_1) (FRp.w (by simp) e0_2 e2_2))⟩
set_option maxRecDepth 20000 in
set_option maxHeartbeats 1000000 in
theorem c_X5_takeWord {G : xG} {h : xH} {K : xK} (hGK : GK G K) {o to I : Nat} {T : List Int} (hGS : GS G) (hI : INP G h I T) {p : Nat} (hp : p ≤ T.length) {num : Int} (hP : PAR G h K o to I T (tokAt T p) 0 (-1) num) {q : Nat} {tx : List Int} (hT : STR G q tx) : CC G MX5_takeWord [.ref o, .ref q] h (fun oo h' => oo = .inl (some (.int (iI (b2 (okP (sWord T p tx)))))) ∧ PS G h h' K o to I T [] (sWord T p tx) (fun _ _ _ => True) (fun _ => True)) := by
  have hI0 := hI
  have htb := tokAt_b T hp
  have hnt := hI.nt hP
  have hP0 := hP
  have not := hP.ne
  obtain ⟨mo, fo, v, mt, ft, hv⟩ := hP
  show RR G MX5_takeWord 0 [(0, .ref o), (1, .ref q)] [] h (xm_R MX5_takeWord).cells (xm_R MX5_takeWord).slots (fun oo h' => oo = .inl (some (.int (iI (b2 (okP (sWord T p tx)))))) ∧ PS G h h' K o to I T [] (sWord T p tx) (fun _ _ _ => True) (fun _ => True))
  refine r_aload_n dX5_takeWord_0 0 rfl ?_
  refine r_get cl_X5 0 (by decide) kf_X5_12 dX5_takeWord_1 mo fo rfl ?_
  refine r_aload_n dX5_takeWord_4 1 rfl ?_
  refine p_callV (As := [.ref q]) (b := to) (rest := []) (w := (some (.int (iI (b2 (isW T (tokAt T p) tx)))))) (st' := [.int (iI (b2 (isW T (tokAt T p) tx)))]) kv_X5_takeWord_32 dX5_takeWord_5 rfl rfl (Nat.le_of_ble_eq_true rfl) (Nat.le_of_ble_eq_true rfl) (x_rv mt ft rfl) rfl rfl (c_X10_isWord hGK hGS hI0 hP0.2.2 (by omega) hT) rfl (fun h9 e9 => ?_)
  rw [show h9 = h from e9]
  refine i_ifneb dX5_takeWord_8 (tgt := 17) (by decide) (fun c8 => ?_) (fun c8 => ?_)
  · refine r_aload_n dX5_takeWord_17 0 rfl ?_
    refine r_get cl_X5 0 (by decide) kf_X5_12 dX5_takeWord_18 mo fo rfl ?_
    refine p_callV (As := []) (b := to) (rest := []) (w := none) (st' := []) kv_X5_takeWord_40 dX5_takeWord_21 rfl rfl (Nat.le_of_ble_eq_true rfl) (Nat.le_of_ble_eq_true rfl) (x_rv mt ft rfl) rfl rfl (c_X10_advance hGK hI0 (p := (tokAt T p).2.2) htb.2.2.2.1 mt ft) rfl (fun h9 e9 => ?_)
    have hF8 := e9.2
    refine i_const (1) dX5_takeWord_24 ?_
    refine r_ireturn rfl (b2_nar true) dX5_takeWord_25 ?_
    have es : sWord T p tx = .inr ((), (tokAt T p).2.2) := by unfold sWord; rw [if_pos c8]
    rw [es]
    have hF7 := FRp.mono (fp' := [o, to] ++ []) hF8 (by simp)
    exact ⟨rfl, hF7, num, trivial, ⟨by rw [hF7.1]; exact mo, (hF8.2 o (by simp [not])).trans fo, e9.1⟩, htb.2.2.2.1⟩
  · refine r_aload_n dX5_takeWord_11 0 rfl ?_
    refine i_const (1) dX5_takeWord_12 ?_
    refine p_callV (As := [.int (iI 1)]) (b := o) (rest := []) (w := (some (.int (iI (b2 false))))) (st' := [.int (iI (b2 false))]) kv_X5_takeWord_36 dX5_takeWord_13 rfl rfl (Nat.le_of_ble_eq_true rfl) (Nat.le_of_ble_eq_true rfl) (x_rv mo fo rfl) rfl rfl (c_X5_fail hGK hP0 (c9 := 1)) rfl (fun h9 e9 => ?_)
    refine r_ireturn rfl (b2_nar _) dX5_takeWord_16 ?_
    have es : sWord T p tx = sErr T p 1 := by unfold sWord; rw [if_neg (by rw [c8]; decide)]
    rw [es]
    exact ⟨rfl, FRp.mono e9.2 (by simp), trivial, _, _, e9.1⟩
set_option maxRecDepth 20000 in
set_option maxHeartbeats 1000000 in
theorem c_X5_takeSemicolon {G : xG} {h : xH} {K : xK} (hGK : GK G K) {o to I : Nat} {T : List Int} (hI : INP G h I T) {p : Nat} (hp : p ≤ T.length) {num : Int} (hP : PAR G h K o to I T (tokAt T p) 0 (-1) num) : CC G MX5_takeSemicolon [.ref o] h (fun oo h' => oo = .inl (some (.int (iI (b2 (okP (sSemi T p)))))) ∧ PS G h h' K o to I T [] (sSemi T p) (fun _ _ _ => True) (fun _ => True)) := by
  have hI0 := hI
  have htb := tokAt_b T hp
  have hnt := hI.nt hP
  have hP0 := hP
  have not := hP.ne
  obtain ⟨mo, fo, v, mt, ft, hv⟩ := hP
  show RR G MX5_takeSemicolon 0 [(0, .ref o)] [] h (xm_R MX5_takeSemicolon).cells (xm_R MX5_takeSemicolon).slots (fun oo h' => oo = .inl (some (.int (iI (b2 (okP (sSemi T p)))))) ∧ PS G h h' K o to I T [] (sSemi T p) (fun _ _ _ => True) (fun _ => True))
  refine r_aload_n dX5_takeSemicolon_0 0 rfl ?_
  refine r_get cl_X5 0 (by decide) kf_X5_12 dX5_takeSemicolon_1 mo fo rfl ?_
  refine r_get cl_X10 3 (by decide) kf_X5_43 dX5_takeSemicolon_4 mt ft rfl ?_
  refine r_gets (gk_T hGK 2 (by decide)) kg_X5_47 dX5_takeSemicolon_7 ?_
  refine r_acmpeq dX5_takeSemicolon_10 (tgt := 19) (by decide) (fun c10 => ?_) (fun c10 => ?_)
  · have hk2 : (tokAt T p).1 = 2 := by
      by_cases z : (tokAt T p).1 = 2
      · exact z
      · exact absurd c10 (gk_Tne hGK htb.1 (by omega) z)
    refine r_aload_n dX5_takeSemicolon_19 0 rfl ?_
    refine r_get cl_X5 0 (by decide) kf_X5_12 dX5_takeSemicolon_20 mo fo rfl ?_
    refine p_callV (As := []) (b := to) (rest := []) (w := none) (st' := []) kv_X5_takeSemicolon_40 dX5_takeSemicolon_23 rfl rfl (Nat.le_of_ble_eq_true rfl) (Nat.le_of_ble_eq_true rfl) (x_rv mt ft rfl) rfl rfl (c_X10_advance hGK hI0 (p := (tokAt T p).2.2) htb.2.2.2.1 mt ft) rfl (fun h9 e9 => ?_)
    have hF8 := e9.2
    refine i_const (1) dX5_takeSemicolon_26 ?_
    refine r_ireturn rfl (b2_nar true) dX5_takeSemicolon_27 ?_
    have es : sSemi T p = .inr ((), (tokAt T p).2.2) := by unfold sSemi; rw [if_pos hk2]
    rw [es]
    have hF7 := FRp.mono (fp' := [o, to] ++ []) hF8 (by simp)
    exact ⟨rfl, hF7, num, trivial, ⟨by rw [hF7.1]; exact mo, (hF8.2 o (by simp [not])).trans fo, e9.1⟩, htb.2.2.2.1⟩
  · have hk2 : ¬ (tokAt T p).1 = 2 := fun z => c10 (by rw [z])
    refine r_aload_n dX5_takeSemicolon_13 0 rfl ?_
    refine i_const (1) dX5_takeSemicolon_14 ?_
    refine p_callV (As := [.int (iI 1)]) (b := o) (rest := []) (w := (some (.int (iI (b2 false))))) (st' := [.int (iI (b2 false))]) kv_X5_takeSemicolon_36 dX5_takeSemicolon_15 rfl rfl (Nat.le_of_ble_eq_true rfl) (Nat.le_of_ble_eq_true rfl) (x_rv mo fo rfl) rfl rfl (c_X5_fail hGK hP0 (c9 := 1)) rfl (fun h9 e9 => ?_)
    refine r_ireturn rfl (b2_nar _) dX5_takeSemicolon_18 ?_
    have es : sSemi T p = sErr T p 1 := by unfold sSemi; rw [if_neg hk2]
    rw [es]
    exact ⟨rfl, FRp.mono e9.2 (by simp), trivial, _, _, e9.1⟩
set_option maxRecDepth 20000 in
set_option maxHeartbeats 1000000 in
theorem c_X5_takeNumber {G : xG} {h : xH} {K : xK} (hGK : GK G K) {o to I : Nat} {T : List Int} (hI : INP G h I T) {p : Nat} (hp : p ≤ T.length) {num : Int} (hP : PAR G h K o to I T (tokAt T p) 0 (-1) num) {lo hi : Int} (hlo : 0 ≤ lo ∧ lo ≤ 1000) (hhi : 0 ≤ hi ∧ hi ≤ 1000) : CC G MX5_takeNumber [.ref o, .int (iI lo), .int (iI hi)] h (fun oo h' => oo = .inl (some (.int (iI (b2 (okP (sNum T p lo hi)))))) ∧ PS G h h' K o to I T [] (sNum T p lo hi) (fun a num _ => num = a) (fun _ => True)) := by
  have hI0 := hI
  have htb := tokAt_b T hp
  have hnt := hI.nt hP
  have hP0 := hP
  have not := hP.ne
  obtain ⟨mo, fo, v, mt, ft, hv⟩ := hP
  show RR G MX5_takeNumber 0 [(0, .ref o), (1, .int (iI lo)), (2, .int (iI hi))] [] h (xm_R MX5_takeNumber).cells (xm_R MX5_takeNumber).slots (fun oo h' => oo = .inl (some (.int (iI (b2 (okP (sNum T p lo hi)))))) ∧ PS G h h' K o to I T [] (sNum T p lo hi) (fun a num _ => num = a) (fun _ => True))
  refine r_aload_n dX5_takeNumber_0 0 rfl ?_
  refine r_get cl_X5 0 (by decide) kf_X5_12 dX5_takeNumber_1 mo fo rfl ?_
  refine r_get cl_X10 3 (by decide) kf_X5_43 dX5_takeNumber_4 mt ft rfl ?_
  refine r_gets (gk_T hGK 1 (by decide)) kg_X5_52 dX5_takeNumber_7 ?_
  refine r_acmpeq dX5_takeNumber_10 (tgt := 19) (by decide) (fun c10 => ?_) (fun c10 => ?_)
  · have hk2 : (tokAt T p).1 = 1 := by
      by_cases z : (tokAt T p).1 = 1
      · exact z
      · exact absurd c10 (gk_Tne hGK htb.1 (by omega) z)
    have hv9 : v = min 1000000 (nVal T p) := hv hk2
    have hnn := nVal_nn hp hk2
    refine r_aload_n dX5_takeNumber_19 0 rfl ?_
    refine r_get cl_X5 0 (by decide) kf_X5_12 dX5_takeNumber_20 mo fo rfl ?_
    refine r_get cl_X10 5 (by decide) kf_X5_55 dX5_takeNumber_23 mt ft rfl ?_
    refine r_iload_n dX5_takeNumber_26 1 rfl ?_
    refine i_icmplt dX5_takeNumber_27 (tgt := 41) (by decide) (by unfold in32; omega) (by unfold in32; omega) (fun c27 => ?_) (fun c27 => ?_)
    · refine r_aload_n dX5_takeNumber_41 0 rfl ?_
      refine i_const (2) dX5_takeNumber_42 ?_
      refine p_callV (As := [.int (iI 2)]) (b := o) (rest := []) (w := (some (.int (iI (b2 false))))) (st' := [.int (iI (b2 false))]) kv_X5_takeNumber_36 dX5_takeNumber_43 rfl rfl (Nat.le_of_ble_eq_true rfl) (Nat.le_of_ble_eq_true rfl) (x_rv mo fo rfl) rfl rfl (c_X5_fail hGK hP0 (c9 := 2)) rfl (fun h9 e9 => ?_)
      refine r_ireturn rfl (b2_nar _) dX5_takeNumber_46 ?_
      have es : sNum T p lo hi = sErr T p 2 := by
        unfold sNum
        rw [if_pos hk2]
        rw [if_pos (by omega)]
      rw [es]
      exact ⟨rfl, FRp.mono e9.2 (by simp), trivial, _, _, e9.1⟩
    · refine r_aload_n dX5_takeNumber_30 0 rfl ?_
      refine r_get cl_X5 0 (by decide) kf_X5_12 dX5_takeNumber_31 mo fo rfl ?_
      refine r_get cl_X10 5 (by decide) kf_X5_55 dX5_takeNumber_34 mt ft rfl ?_
      refine r_iload_n dX5_takeNumber_37 2 rfl ?_
      refine i_icmple dX5_takeNumber_38 (tgt := 47) (by decide) (by unfold in32; omega) (by unfold in32; omega) (fun c38 => ?_) (fun c38 => ?_)
      · refine r_aload_n dX5_takeNumber_47 0 rfl ?_
        refine r_aload_n dX5_takeNumber_48 0 rfl ?_
        refine r_get cl_X5 0 (by decide) kf_X5_12 dX5_takeNumber_49 mo fo rfl ?_
        refine r_get cl_X10 5 (by decide) kf_X5_55 dX5_takeNumber_52 mt ft rfl ?_
        refine i_put [.ref to, .int (iI 0), .int (iI ((-1))), .int (iI v)] cl_X5 3 (by decide) kf_X5_58 rfl dX5_takeNumber_55 mo fo rfl rfl (by simp) rfl (fun h1 e0_1 e1_1 e2_1 => ?_)
        have mo_1 : o ∈ h1.1 := by rw [e0_1]; exact mo
        have mto_1 : to ∈ h1.1 := by rw [e0_1]; exact mt
        have fto_1 := (e2_1 _ (Ne.symm not)).trans ft
        have hI9 := hI0.fr (FRp.w (fp := [o, to]) (by simp) e0_1 e2_1) hnt
        refine r_aload_n dX5_takeNumber_58 0 rfl ?_
        refine r_get cl_X5 0 (by decide) kf_X5_12 dX5_takeNumber_59 mo_1 e1_1 rfl ?_
        refine p_callV (As := []) (b := to) (rest := []) (w := none) (st' := []) kv_X5_takeNumber_40 dX5_takeNumber_62 rfl rfl (Nat.le_of_ble_eq_true rfl) (Nat.le_of_ble_eq_true rfl) (x_rv mto_1 fto_1 rfl) rfl rfl (c_X10_advance hGK hI9 (p := (tokAt T p).2.2) htb.2.2.2.1 mto_1 fto_1) rfl (fun h9 e9 => ?_)
        have hF8 := e9.2
        refine i_const (1) dX5_takeNumber_65 ?_
        refine r_ireturn rfl (b2_nar true) dX5_takeNumber_66 ?_
        have es : sNum T p lo hi = .inr (nVal T p, (tokAt T p).2.2) := by unfold sNum; rw [if_pos hk2, if_neg (by omega), if_neg (by omega)]
        rw [es]
        have hF7 : FRp ([o, to] ++ []) h h9 := FRp.tr (FRp.w (by simp) e0_1 e2_1) (FRp.mono hF8 (by simp))
        exact ⟨rfl, hF7, v, (by omega : v = nVal T p), ⟨by rw [hF7.1]; exact mo, (hF8.2 o (by simp [not])).trans e1_1, e9.1⟩, htb.2.2.2.1⟩
      · refine r_aload_n dX5_takeNumber_41 0 rfl ?_
        refine i_const (2) dX5_takeNumber_42 ?_
        refine p_callV (As := [.int (iI 2)]) (b := o) (rest := []) (w := (some (.int (iI (b2 false))))) (st' := [.int (iI (b2 false))]) kv_X5_takeNumber_36 dX5_takeNumber_43 rfl rfl (Nat.le_of_ble_eq_true rfl) (Nat.le_of_ble_eq_true rfl) (x_rv mo fo rfl) rfl rfl (c_X5_fail hGK hP0 (c9 := 2)) rfl (fun h9 e9 => ?_)
        refine r_ireturn rfl (b2_nar _) dX5_takeNumber_46 ?_
        have es : sNum T p lo hi = sErr T p 2 := by
          unfold sNum
          rw [if_pos hk2]
          rw [if_neg (by omega), if_pos (by omega)]
        rw [es]
        exact ⟨rfl, FRp.mono e9.2 (by simp), trivial, _, _, e9.1⟩
  · have hk2 : ¬ (tokAt T p).1 = 1 := fun z => c10 (by rw [z])
    refine r_aload_n dX5_takeNumber_13 0 rfl ?_
    refine i_const (1) dX5_takeNumber_14 ?_
    refine p_callV (As := [.int (iI 1)]) (b := o) (rest := []) (w := (some (.int (iI (b2 false))))) (st' := [.int (iI (b2 false))]) kv_X5_takeNumber_36 dX5_takeNumber_15 rfl rfl (Nat.le_of_ble_eq_true rfl) (Nat.le_of_ble_eq_true rfl) (x_rv mo fo rfl) rfl rfl (c_X5_fail hGK hP0 (c9 := 1)) rfl (fun h9 e9 => ?_)
    refine r_ireturn rfl (b2_nar _) dX5_takeNumber_18 ?_
    have es : sNum T p lo hi = sErr T p 1 := by unfold sNum; rw [if_neg hk2]
    rw [es]
    exact ⟨rfl, FRp.mono e9.2 (by simp), trivial, _, _, e9.1⟩
set_option maxRecDepth 20000 in
set_option maxHeartbeats 1000000 in
theorem c_X5_isLayerWord {G : xG} {h : xH} {K : xK} (hGK : GK G K) {o to I : Nat} {T : List Int} {sa : Nat → Nat} (hGT : GT G sa) (hI : INP G h I T) {p : Nat} (hp : p ≤ T.length) {num : Int} (hP : PAR G h K o to I T (tokAt T p) 0 (-1) num) : CC G MX5_isLayerWord [.ref o] h (qI (b2 (isLW T p)) h) := by
  have hI0 := hI
  have htb := tokAt_b T hp
  have hnt := hI.nt hP
  have hP0 := hP
  have not := hP.ne
  obtain ⟨mo, fo, v, mt, ft, hv⟩ := hP
  show RR G MX5_isLayerWord 0 [(0, .ref o)] [] h (xm_R MX5_isLayerWord).cells (xm_R MX5_isLayerWord).slots (qI (b2 (isLW T p)) h)
  refine r_aload_n dX5_isLayerWord_0 0 rfl ?_
  refine r_get cl_X5 0 (by decide) kf_X5_12 dX5_isLayerWord_1 mo fo rfl ?_
  refine r_ldcS (hGT.2.2 ("PastryBench$Parser", 102, "dough", 2) (List.mem_of_getElem? (i := 2) rfl)) rfl dX5_isLayerWord_4 ?_
  refine p_callV (As := [.ref (sa 2)]) (b := to) (rest := []) (w := (some (.int (iI (b2 (isW T (tokAt T p) (txS 2))))))) (st' := [.int (iI (b2 (isW T (tokAt T p) (txS 2))))]) kv_X5_isLayerWord_32 dX5_isLayerWord_6 rfl rfl (Nat.le_of_ble_eq_true rfl) (Nat.le_of_ble_eq_true rfl) (x_rv mt ft rfl) rfl rfl (c_X10_isWord hGK hGT.1 hI0 hP0.2.2 (by omega) (hGT.2.1 2 (by decide))) rfl (fun h9 e9 => ?_)
  rw [show h9 = h from e9]
  refine i_ifneb dX5_isLayerWord_9 (tgt := 24) (by decide) (fun c9 => ?_) (fun c9 => ?_)
  · refine i_const (1) dX5_isLayerWord_24 ?_
    refine r_goto dX5_isLayerWord_25 (tgt := 29) (by decide) ?_
    refine r_ireturn rfl (b2_nar true) dX5_isLayerWord_29 ?_
    have e9 : isLW T p = true := by unfold isLW; rw [c9]; rfl
    rw [e9]
    exact ⟨rfl, rfl⟩
  · refine r_aload_n dX5_isLayerWord_12 0 rfl ?_
    refine r_get cl_X5 0 (by decide) kf_X5_12 dX5_isLayerWord_13 mo fo rfl ?_
    refine r_ldcS (hGT.2.2 ("PastryBench$Parser", 104, "butter", 3) (List.mem_of_getElem? (i := 3) rfl)) rfl dX5_isLayerWord_16 ?_
    refine p_callV (As := [.ref (sa 3)]) (b := to) (rest := []) (w := (some (.int (iI (b2 (isW T (tokAt T p) (txS 3))))))) (st' := [.int (iI (b2 (isW T (tokAt T p) (txS 3))))]) kv_X5_isLayerWord_32 dX5_isLayerWord_18 rfl rfl (Nat.le_of_ble_eq_true rfl) (Nat.le_of_ble_eq_true rfl) (x_rv mt ft rfl) rfl rfl (c_X10_isWord hGK hGT.1 hI0 hP0.2.2 (by omega) (hGT.2.1 3 (by decide))) rfl (fun h9 e9 => ?_)
    rw [show h9 = h from e9]
    refine i_ifeqb dX5_isLayerWord_21 (tgt := 28) (by decide) (fun c21 => ?_) (fun c21 => ?_)
    · refine i_const (0) dX5_isLayerWord_28 ?_
      refine r_ireturn rfl (b2_nar false) dX5_isLayerWord_29 ?_
      have e9 : isLW T p = false := by unfold isLW; rw [c9, c21]; rfl
      rw [e9]
      exact ⟨rfl, rfl⟩
    · refine i_const (1) dX5_isLayerWord_24 ?_
      refine r_goto dX5_isLayerWord_25 (tgt := 29) (by decide) ?_
      refine r_ireturn rfl (b2_nar true) dX5_isLayerWord_29 ?_
      have e9 : isLW T p = true := by unfold isLW; rw [c21]; simp
      rw [e9]
      exact ⟨rfl, rfl⟩
set_option maxRecDepth 20000 in
set_option maxHeartbeats 1000000 in
theorem c_X5_begin {G : xG} {h : xH} {K : xK} (hGK : GK G K) {o to I : Nat} {T : List Int} (hI : INP G h I T) {T0 : List Int} {t : Nat × Nat × Nat} {c off num : Int} {I0 : Nat} (hP : PAR G h K o to I0 T0 t c off num) : CC G MX5_begin [.ref o, .ref I, .int (iI ((T.length : Int)))] h (fun oo h' => oo = .inl none ∧ PAR G h' K o to I T (tokAt T 0) 0 (-1) num ∧ FRp [o, to] h h') := by
  have hI0 := hI
  obtain ⟨g, mI, fI, -⟩ := hI
  have hP0 := hP
  have not := hP.ne
  obtain ⟨mo, fo, v, mt, ft, hv⟩ := hP
  have nIo : o ≠ I := ne_oi fo fI
  have nIt : to ≠ I := ne_oi ft fI
  show RR G MX5_begin 0 [(0, .ref o), (1, .ref I), (2, .int (iI ((T.length : Int))))] [] h (xm_R MX5_begin).cells (xm_R MX5_begin).slots (fun oo h' => oo = .inl none ∧ PAR G h' K o to I T (tokAt T 0) 0 (-1) num ∧ FRp [o, to] h h')
  refine r_aload_n dX5_begin_0 0 rfl ?_
  refine i_const (0) dX5_begin_1 ?_
  refine i_put [.ref to, .int (iI 0), .int (iI off), .int (iI num)] cl_X5 1 (by decide) kf_X5_22 rfl dX5_begin_2 mo fo rfl rfl (by simp) rfl (fun h1 e0_1 e1_1 e2_1 => ?_)
  have mo_1 : o ∈ h1.1 := by rw [e0_1]; exact mo
  have mto_1 : to ∈ h1.1 := by rw [e0_1]; exact mt
  have fto_1 := (e2_1 _ (Ne.symm not)).trans ft
  refine r_aload_n dX5_begin_5 0 rfl ?_
  refine i_const (-1) dX5_begin_6 ?_
  refine i_put [.ref to, .int (iI 0), .int (iI ((-1))), .int (iI num)] cl_X5 2 (by decide) kf_X5_18 rfl dX5_begin_7 mo_1 e1_1 rfl rfl (by simp) rfl (fun h2 e0_2 e1_2 e2_2 => ?_)
  have mo_2 : o ∈ h2.1 := by rw [e0_2]; exact mo_1
  have mto_2 : to ∈ h2.1 := by rw [e0_2]; exact mto_1
  have fto_2 := (e2_2 _ (Ne.symm not)).trans fto_1
  refine r_aload_n dX5_begin_10 0 rfl ?_
  refine r_get cl_X5 0 (by decide) kf_X5_12 dX5_begin_11 mo_2 e1_2 rfl ?_
  refine r_aload_n dX5_begin_14 1 rfl ?_
  refine r_iload_n dX5_begin_15 2 rfl ?_
  have hF7 : FRp [o, to] h h2 := (FRp.tr (FRp.w (by simp) e0_1 e2_1) (FRp.w (by simp) e0_2 e2_2))
  have hI9 := hI0.fr hF7 (by simp [nIo.symm, nIt.symm])
  refine p_callV (As := [.ref I, .int (iI ((T.length : Int)))]) (b := to) (rest := []) (w := none) (st' := []) kv_X5_begin_25 dX5_begin_16 rfl rfl (Nat.le_of_ble_eq_true rfl) (Nat.le_of_ble_eq_true rfl) (x_rv mto_2 fto_2 rfl) rfl rfl (c_X10_begin hGK hI9 mto_2 fto_2) rfl (fun h9 e9 => ?_)
  refine r_return rfl dX5_begin_19 ?_
  exact ⟨rfl, ⟨by rw [e9.2.1]; exact mo_2, (e9.2.2 o (by simp [not])).trans e1_2, e9.1⟩, FRp.tr hF7 (FRp.mono e9.2 (by simp))⟩
