/-! ===== the history ===== -/
abbrev BP : Type := Nat × Nat × List Nat
def dB : AB := ((0, 0, 0, 0, 0, 0), [])
def HIo (G : xG) (h : xH) (o A : Nat) (fp : List Nat) (Hs : List AB) (g : Nat → Option Nat) (bo : Nat → BP) (X : Nat → AB) : Prop :=
  (o ∈ h.1 ∧ A ∈ h.1) ∧ h.2 o = .inr (1, [.ref A, .int (iI (Hs.length : Int))]) ∧ h.2 A = .inl (G.2.1 5, 8, .inr (.inr (.inr (.inr g)))) ∧ Hs.length ≤ 8 ∧ (∀ i, i < Hs.length → X i = Hs.getD i dB)
  ∧ (∀ i, i < 8 → g i = some (bo i).1 ∧ BN G h (bo i).1 (bo i).2.1 (bo i).2.2 (X i)) ∧ (∀ i j, i < 8 → j < 8 → i ≠ j → ∀ q ∈ (bo i).2.2, q ∉ (bo j).2.2) ∧ (o ∈ fp ∧ A ∈ fp ∧ ∀ i, i < 8 → ∀ q ∈ (bo i).2.2, q ∈ fp ∧ q ≠ o ∧ q ≠ A)
def HI (G : xG) (h : xH) (o A : Nat) (fp : List Nat) (Hs : List AB) : Prop := ∃ g bo X, HIo G h o A fp Hs g bo X
theorem HI.fr {G : xG} {h h' : xH} {o A : Nat} {fp fp' : List Nat} {Hs : List AB} (hB : HI G h o A fp Hs) (hF : FRp fp' h h') (hd : ∀ q ∈ fp, q ∉ fp') : HI G h' o A fp Hs := by
  obtain ⟨g, bo, X, ⟨mO, mA⟩, fO, fA, hL, hX, hK, hD, hfp⟩ := hB
  exact ⟨g, bo, X, ⟨by rw [hF.1]; exact mO, by rw [hF.1]; exact mA⟩, (hF.2 o (hd o hfp.1)).trans fO, (hF.2 A (hd A hfp.2.1)).trans fA, hL, hX, fun i hi => ⟨(hK i hi).1, (hK i hi).2.fr hF (fun q hq => hd q (hfp.2.2 i hi q hq).1)⟩, hD, hfp⟩
theorem getD_eqB {l : List AB} {i : Nat} (h : i < l.length) : l.getD i dB = l[i] := by simp [h]
def remH (Hs : List AB) (B : AB) : List AB := (if Hs.length < 8 then Hs else Hs.drop 1) ++ [B]
theorem BN.mem {G : xG} {h : xH} {o A : Nat} {fp : List Nat} {B : AB} (hB : BN G h o A fp B) : o ∈ h.1 ∧ (∃ v, h.2 o = .inr (0, v)) ∧ o ∈ fp := by
  obtain ⟨g, bs, F, ⟨mO, mA⟩, fO, fA, hL6, hLF, hK, hD, hfp⟩ := hB
  exact ⟨mO, ⟨_, fO⟩, hfp.1⟩
theorem FRp.mono {fp fp' : List Nat} {h h' : xH} (x : FRp fp h h') (hs : ∀ q ∈ fp, q ∈ fp') : FRp fp' h h' := ⟨x.1, fun q hq => x.2 q (fun z => hq (hs q z))⟩
set_option maxRecDepth 20000 in
set_option maxHeartbeats 1000000 in
theorem c_X3_forget {G : xG} {h : xH} {o A : Nat} {fp : List Nat} {Hs : List AB} (hH : HI G h o A fp Hs) : CC G MX3_forget [.ref o] h (fun o' h' => o' = .inl none ∧ HI G h' o A fp [] ∧ FRp fp h h') := by
  have hH0 := hH
  obtain ⟨g, bo, X, hHo⟩ := hH
  have hHo0 := hHo
  obtain ⟨⟨mO, mA⟩, fO, fA, hL8, hX, hK, hD, hfp⟩ := hHo
  have nOA : o ≠ A := ne_oi fO fA
  show RR G MX3_forget 0 [(0, .ref o)] [] h (xm_R MX3_forget).cells (xm_R MX3_forget).slots (fun o' h' => o' = .inl none ∧ HI G h' o A fp [] ∧ FRp fp h h')
  refine r_aload_n dX3_forget_0 0 rfl ?_
  refine i_const (0) dX3_forget_1 ?_
  refine i_put [.ref A, .int (iI 0)] cl_X3 1 (by decide) kf_X3_18 rfl dX3_forget_2 mO fO rfl rfl (by simp) rfl (fun h1 e0_1 e1_1 e2_1 => ?_)
  have mo_1 : o ∈ h1.1 := by rw [e0_1]; exact mO
  have mA_1 : A ∈ h1.1 := by rw [e0_1]; exact mA
  have fA_1 := (e2_1 _ (Ne.symm nOA)).trans fA
  refine r_return rfl dX3_forget_5 ?_
  refine ⟨rfl, ⟨g, bo, X, ⟨mo_1, mA_1⟩, e1_1, fA_1, Nat.zero_le _, (fun k hk => absurd hk (Nat.not_lt_zero k)), fun i hi => ⟨(hK i hi).1, (hK i hi).2.fr (FRp.w (fp := [o]) List.mem_cons_self e0_1 e2_1) (fun q hq z => (hfp.2.2 i hi q hq).2.1 (List.mem_singleton.mp z))⟩, hD, hfp⟩, FRp.w hfp.1 e0_1 e2_1⟩
set_option maxRecDepth 20000 in
set_option maxHeartbeats 1000000 in
theorem c_X3_dropOldest {G : xG} {h : xH} {o A : Nat} {fp : List Nat} {Hs : List AB} (hH : HI G h o A fp Hs) (h8 : Hs.length = 8) : CC G MX3_dropOldest [.ref o] h (fun o' h' => o' = .inl none ∧ HI G h' o A fp (Hs.drop 1) ∧ FRp fp h h') := by
  have hH0 := hH
  obtain ⟨g, bo, X, hHo⟩ := hH
  have hHo0 := hHo
  obtain ⟨⟨mO, mA⟩, fO, fA, hL8, hX, hK, hD, hfp⟩ := hHo
  have nOA : o ≠ A := ne_oi fO fA
  have L : ∀ k, k ≤ 8 → 1 ≤ k → ∀ (hh : xH), hh.1 = h.1 → (∀ q, q ≠ A → hh.2 q = h.2 q) → hh.2 A = .inl (G.2.1 5, 8, .inr (.inr (.inr (.inr (shG g 0 k))))) → RR G MX3_dropOldest 9 [(0, .ref o), (1, .ref ((bo 0).1)), (2, .int (iI ((k : Int))))] [] hh (xm_R MX3_dropOldest).cells (xm_R MX3_dropOldest).slots (fun o' h' => o' = .inl none ∧ HI G h' o A fp (Hs.drop 1) ∧ FRp fp h h') := by
    refine down (fun k hk ih => ?_)
    intro hjk hh e0 e2 fA9
    have mO9 : o ∈ hh.1 := by rw [e0]; exact mO
    have mA9 : A ∈ hh.1 := by rw [e0]; exact mA
    have fO9 := (e2 o nOA).trans fO
    refine r_iload_n dX3_dropOldest_9 2 rfl ?_
    refine i_bipush (8) (by decide) dX3_dropOldest_10 ?_
    refine i_icmpge dX3_dropOldest_12 (tgt := 35) (by decide) (by unfold in32; omega) ⟨by decide, by decide⟩ (fun c12 => ?_) (fun c12 => ?_)
    · obtain ⟨mb, ⟨vb, fb⟩, -⟩ := (hK 0 (by omega)).2.mem
      have nAb : A ≠ (bo 0).1 := (ne_oi fb fA).symm
      have nob : o ≠ (bo 0).1 := fun e => ((hfp.2.2 0 (by omega) _ ((hK 0 (by omega)).2.mem.2.2)).2.1 e.symm)
      have mb9 : (bo 0).1 ∈ hh.1 := by rw [e0]; exact mb
      have fb9 := (e2 _ nAb.symm).trans fb
      refine r_aload_n dX3_dropOldest_35 0 rfl ?_
      refine r_get cl_X3 0 (by decide) kf_X3_11 dX3_dropOldest_36 mO9 fO9 rfl ?_
      refine i_bipush (7) (by decide) dX3_dropOldest_39 ?_
      refine r_aload_n dX3_dropOldest_41 1 rfl ?_
      refine i_aast rfl 7 rfl dX3_dropOldest_42 mA9 fA9 (by omega) (by decide) mb9 fb9 rfl (fun h1 e0_1 e1_1 e2_1 => ?_)
      have mo_1 : o ∈ h1.1 := by rw [e0_1]; exact mO9
      have fo_1 := (e2_1 _ nOA).trans fO9
      have mA_1 : A ∈ h1.1 := by rw [e0_1]; exact mA9
      have m_bo_0__1_1 : (bo 0).1 ∈ h1.1 := by rw [e0_1]; exact mb9
      have f_bo_0__1_1 := (e2_1 _ (Ne.symm nAb)).trans fb9
      refine r_aload_n dX3_dropOldest_43 0 rfl ?_
      refine i_bipush (7) (by decide) dX3_dropOldest_44 ?_
      refine i_put [.ref A, .int (iI 7)] cl_X3 1 (by decide) kf_X3_18 rfl dX3_dropOldest_46 mo_1 fo_1 rfl rfl (by simp) rfl (fun h2 e0_2 e1_2 e2_2 => ?_)
      have mo_2 : o ∈ h2.1 := by rw [e0_2]; exact mo_1
      have mA_2 : A ∈ h2.1 := by rw [e0_2]; exact mA_1
      have fA_2 := (e2_2 _ (Ne.symm nOA)).trans e1_1
      have m_bo_0__1_2 : (bo 0).1 ∈ h2.1 := by rw [e0_2]; exact m_bo_0__1_1
      have f_bo_0__1_2 := (e2_2 _ (Ne.symm nob)).trans f_bo_0__1_1
      refine r_return rfl dX3_dropOldest_49 ?_
      have ek : k = 8 := by omega
      subst ek
      have el : (Hs.drop 1).length = 7 := by rw [List.length_drop]; omega
      have hq0 : h2.1 = h.1 := e0_2.trans (e0_1.trans e0)
      have hq2 : ∀ q, q ≠ A → q ≠ o → h2.2 q = h.2 q := fun q z1 z2 => (e2_2 q z2).trans ((e2_1 q z1).trans (e2 q z1))
      have hFp : FRp [o, A] h h2 := ⟨hq0, fun q hq => hq2 q (fun z => hq (by rw [z]; simp)) (fun z => hq (by rw [z]; simp))⟩
      have hfO : h2.2 o = .inr (1, [.ref A, .int (iI ((Hs.drop 1).length : Int))]) := by rw [e1_2, el]; rfl
      refine ⟨rfl, ⟨_, fun m => bo (piR 0 8 m), fun m => X (piR 0 8 m), ⟨mo_2, mA_2⟩, hfO, fA_2, by omega, ?_, ?_, ?_, hfp.1, hfp.2.1, ?_⟩, ⟨hq0, ?_⟩⟩
      · intro m hm
        rw [el] at hm
        show X (piR 0 8 m) = _
        rw [show piR 0 8 m = m + 1 by unfold piR; rw [if_neg (by omega), if_pos (by omega)], hX (m + 1) (by omega), List.getD_eq_getElem?_getD, List.getD_eq_getElem?_getD, List.getElem?_drop, Nat.add_comm]
      · intro m hm
        have hp : piR 0 8 m < 8 := by unfold piR; split <;> (try split) <;> (try split) <;> omega
        refine ⟨?_, ?_⟩
        · by_cases z : m = 7
          · rw [z, va_up_self]; rfl
          · rw [va_up_ne _ _ z]; show shG g 0 8 m = some (bo (piR 0 8 m)).1; rw [← (hK _ hp).1]; unfold shG piR
            rw [if_neg (by omega), if_pos (by omega), if_neg (by omega), if_pos (by omega)]
        · exact (hK _ hp).2.fr hFp (fun q hq z => (List.mem_cons.mp z).elim (fun z => (hfp.2.2 _ hp q hq).2.1 z) (fun z => (hfp.2.2 _ hp q hq).2.2 (List.mem_singleton.mp z)))
      · intro m k hm hk9 hmk
        have hp : ∀ m, m < 8 → piR 0 8 m < 8 := fun m hm => by unfold piR; split <;> (try split) <;> (try split) <;> omega
        exact hD _ _ (hp m hm) (hp k hk9) (piR_inj (by omega) hmk)
      · intro m hm
        have hp : piR 0 8 m < 8 := by unfold piR; split <;> (try split) <;> (try split) <;> omega
        exact hfp.2.2 _ hp
      · intro q hq
        exact hq2 q (fun z => hq (z ▸ hfp.2.1)) (fun z => hq (z ▸ hfp.1))
    · have hgi : g k = some (bo k).1 := (hK k (by omega)).1
      have hgk : shG g 0 k k = some (bo k).1 := by unfold shG; rw [if_neg (by omega), if_neg (by omega)]; exact hgi
      obtain ⟨mb, ⟨vb, fb⟩, -⟩ := (hK k (by omega)).2.mem
      have nAb : A ≠ (bo k).1 := (ne_oi fb fA).symm
      have mb9 : (bo k).1 ∈ hh.1 := by rw [e0]; exact mb
      have fb9 := (e2 _ nAb.symm).trans fb
      refine r_aload_n dX3_dropOldest_15 0 rfl ?_
      refine r_get cl_X3 0 (by decide) kf_X3_11 dX3_dropOldest_16 mO9 fO9 rfl ?_
      refine r_iload_n dX3_dropOldest_19 2 rfl ?_
      refine i_const (1) dX3_dropOldest_20 ?_
      refine i_sub dX3_dropOldest_21 ?_
      refine r_aload_n dX3_dropOldest_22 0 rfl ?_
      refine r_get cl_X3 0 (by decide) kf_X3_11 dX3_dropOldest_23 mO9 fO9 rfl ?_
      refine r_iload_n dX3_dropOldest_26 2 rfl ?_
      refine i_aald rfl k rfl dX3_dropOldest_27 mA9 fA9 (by omega) (by decide) hgk ?_
      refine i_aast rfl (k - 1) (by omega) dX3_dropOldest_28 mA9 fA9 (by omega) (by decide) mb9 fb9 rfl (fun h3 e0_3 e1_3 e2_3 => ?_)
      have mo_3 : o ∈ h3.1 := by rw [e0_3]; exact mO9
      have fo_3 := (e2_3 _ nOA).trans fO9
      have mA_3 : A ∈ h3.1 := by rw [e0_3]; exact mA9
      have m_bo_k__1_3 : (bo k).1 ∈ h3.1 := by rw [e0_3]; exact mb9
      have f_bo_k__1_3 := (e2_3 _ (Ne.symm nAb)).trans fb9
      refine i_iinc (ls' := [(0, .ref o), (1, .ref ((bo 0).1)), (2, .int (iI ((k : Int) + 1)))]) (1) (v := (k : Int) + 1) dX3_dropOldest_29 2 rfl (by omega) (by decide) rfl ?_
      refine r_goto dX3_dropOldest_32 (tgt := 9) (by decide) ?_
      have eg := shG_s (g := g) (j := 0) (k := k) (by omega)
      rw [hgi] at eg
      refine ih (k + 1) (by omega) (by omega) (by omega) _ (e0_3.trans e0) (fun q hq => (e2_3 q hq).trans (e2 q hq)) ?_
      rw [← eg]
      exact e1_3
  show RR G MX3_dropOldest 0 [(0, .ref o)] [] h (xm_R MX3_dropOldest).cells (xm_R MX3_dropOldest).slots (fun o' h' => o' = .inl none ∧ HI G h' o A fp (Hs.drop 1) ∧ FRp fp h h')
  refine r_aload_n dX3_dropOldest_0 0 rfl ?_
  refine r_get cl_X3 0 (by decide) kf_X3_11 dX3_dropOldest_1 mO fO rfl ?_
  refine i_const (0) dX3_dropOldest_4 ?_
  refine i_aald rfl 0 rfl dX3_dropOldest_5 mA fA (by omega) (by decide) (hK 0 (by omega)).1 ?_
  refine r_astore_n (ls' := [(0, .ref o), (1, .ref ((bo 0).1))]) dX3_dropOldest_6 (by decide) rfl ?_
  refine i_const (1) dX3_dropOldest_7 ?_
  refine r_istore_n (ls' := [(0, .ref o), (1, .ref ((bo 0).1)), (2, .int (iI 1))]) dX3_dropOldest_8 (by decide) rfl ?_
  exact L 1 (by omega) (by omega) h rfl (fun _ _ => rfl) (by rw [shG_0]; exact fA)
theorem HIo.upd {G : xG} {h h1 h' : xH} {o A : Nat} {fp : List Nat} {Hs : List AB} {B : AB} {g : Nat → Option Nat} {bo : Nat → BP} {X : Nat → AB} (hH : HIo G h o A fp Hs g bo X) (hl : Hs.length < 8) (hB : BN G h1 (bo Hs.length).1 (bo Hs.length).2.1 (bo Hs.length).2.2 B) (hF : FRp (bo Hs.length).2.2 h h1) (e0 : h'.1 = h1.1) (e1 : h'.2 o = .inr (1, [.ref A, .int (iI ((Hs.length : Int) + 1))])) (e2 : ∀ q, q ≠ o → h'.2 q = h1.2 q) : HI G h' o A fp (Hs ++ [B]) ∧ FRp fp h h' := by
  obtain ⟨⟨mO, mA⟩, fO, fA, hL8, hX, hK, hD, hfp⟩ := hH
  have nOA : o ≠ A := ne_oi fO fA
  have hA : A ∉ (bo Hs.length).2.2 := fun z => (hfp.2.2 _ hl A z).2.2 rfl
  have hFo : FRp [o] h1 h' := ⟨e0, fun q hq => e2 q (fun z => hq (by rw [z]; simp))⟩
  have hno : ∀ i, i < 8 → ∀ q ∈ (bo i).2.2, q ∉ [o] := fun i hi q hq z => (hfp.2.2 i hi q hq).2.1 (List.mem_singleton.mp z)
  refine ⟨⟨g, bo, fun i => if i = Hs.length then B else X i, ⟨by rw [e0, hF.1]; exact mO, by rw [e0, hF.1]; exact mA⟩, ?_, ?_, by rw [List.length_append, List.length_singleton]; omega, ?_, ?_, hD, hfp⟩, ?_⟩
  · rw [e1, List.length_append, List.length_singleton]; rfl
  · rw [e2 A nOA.symm, hF.2 A hA]; exact fA
  · intro i hi
    rw [List.length_append, List.length_singleton] at hi
    show (if i = Hs.length then B else X i) = _
    by_cases e : i = Hs.length
    · rw [e, if_pos rfl]; simp
    · rw [if_neg e, hX i (by omega), List.getD_eq_getElem?_getD, List.getD_eq_getElem?_getD, List.getElem?_append_left (by omega)]
  · intro i hi
    refine ⟨(hK i hi).1, ?_⟩
    show BN G h' _ _ _ (if i = Hs.length then B else X i)
    by_cases e : i = Hs.length
    · rw [e, if_pos rfl]; exact hB.fr hFo (hno _ hl)
    · rw [if_neg e]
      exact ((hK i hi).2.fr hF (hD i _ hi hl e)).fr hFo (hno i hi)
  · exact FRp.tr (hF.mono (fun q hq => (hfp.2.2 _ hl q hq).1)) (FRp.w hfp.1 e0 e2)
set_option maxRecDepth 20000 in
set_option maxHeartbeats 1000000 in
theorem rr_X3_remember13 {G : xG} {h : xH} {o A : Nat} {fp : List Nat} {Hs : List AB} (hH : HI G h o A fp Hs) {o' A' : Nat} {fp' : List Nat} {B : AB} (hB : BN G h o' A' fp' B) (hd : ∀ q ∈ fp, q ∉ fp') (hl : Hs.length < 8) : RR G MX3_remember 13 [(0, .ref o), (1, .ref o')] [] h (xm_R MX3_remember).cells (xm_R MX3_remember).slots (fun o9 h' => o9 = .inl none ∧ HI G h' o A fp (Hs ++ [B]) ∧ FRp fp h h') := by
  have hH0 := hH
  obtain ⟨g, bo, X, hHo⟩ := hH
  have hHo0 := hHo
  obtain ⟨⟨mO, mA⟩, fO, fA, hL8, hX, hK, hD, hfp⟩ := hHo
  have nOA : o ≠ A := ne_oi fO fA
  obtain ⟨mbn, ⟨vbn, fbn⟩, ofn⟩ := (hK Hs.length hl).2.mem
  have noc : ∀ q ∈ (bo Hs.length).2.2, q ∉ fp' := fun q hq => hd q (hfp.2.2 _ hl q hq).1
  show RR G MX3_remember 13 [(0, .ref o), (1, .ref o')] [] h (xm_R MX3_remember).cells (xm_R MX3_remember).slots (fun o9 h' => o9 = .inl none ∧ HI G h' o A fp (Hs ++ [B]) ∧ FRp fp h h')
  refine r_aload_n dX3_remember_13 0 rfl ?_
  refine r_get cl_X3 0 (by decide) kf_X3_11 dX3_remember_14 mO fO rfl ?_
  refine r_aload_n dX3_remember_17 0 rfl ?_
  refine r_get cl_X3 1 (by decide) kf_X3_18 dX3_remember_18 mO fO rfl ?_
  refine i_aald rfl Hs.length rfl dX3_remember_21 mA fA (by omega) (by decide) (hK Hs.length (by omega)).1 ?_
  refine r_aload_n dX3_remember_22 1 rfl ?_
  refine p_callV (As := [.ref o']) (b := (bo Hs.length).1) (rest := []) (w := none) (st' := []) kv_X3_remember_25 dX3_remember_23 rfl rfl (Nat.le_of_ble_eq_true rfl) (Nat.le_of_ble_eq_true rfl) (x_rv mbn fbn rfl) rfl rfl (c_X1_copyFrom (hK Hs.length hl).2 hB noc) rfl (fun h9 e9 => ?_)
  obtain ⟨hB9, hF9⟩ := e9
  have mO9 : o ∈ h9.1 := by rw [hF9.1]; exact mO
  have fO9 := (hF9.2 o (fun z => (hfp.2.2 _ hl o z).2.1 rfl)).trans fO
  refine r_aload_n dX3_remember_26 0 rfl ?_
  refine r_dup dX3_remember_27 rfl ?_
  refine r_get cl_X3 1 (by decide) kf_X3_18 dX3_remember_28 mO9 fO9 rfl ?_
  refine i_const (1) dX3_remember_31 ?_
  refine i_add dX3_remember_32 ?_
  refine i_put [.ref A, .int (iI ((Hs.length : Int) + 1))] cl_X3 1 (by decide) kf_X3_18 rfl dX3_remember_33 mO9 fO9 rfl rfl (by simp) rfl (fun h1 e0_1 e1_1 e2_1 => ?_)
  have mo_1 : o ∈ h1.1 := by rw [e0_1]; exact mO9
  refine r_return rfl dX3_remember_36 ?_
  have hR := hHo0.upd hl hB9 hF9 e0_1 e1_1 e2_1
  exact ⟨rfl, hR.1, hR.2⟩
set_option maxRecDepth 20000 in
set_option maxHeartbeats 1000000 in
theorem c_X3_remember {G : xG} {h : xH} {o A : Nat} {fp : List Nat} {Hs : List AB} (hH : HI G h o A fp Hs) {o' A' : Nat} {fp' : List Nat} {B : AB} (hB : BN G h o' A' fp' B) (hd : ∀ q ∈ fp, q ∉ fp') : CC G MX3_remember [.ref o, .ref o'] h (fun o9 h' => o9 = .inl none ∧ HI G h' o A fp (remH Hs B) ∧ FRp fp h h') := by
  have hH0 := hH
  obtain ⟨g, bo, X, hHo⟩ := hH
  have hHo0 := hHo
  obtain ⟨⟨mO, mA⟩, fO, fA, hL8, hX, hK, hD, hfp⟩ := hHo
  have nOA : o ≠ A := ne_oi fO fA
  show RR G MX3_remember 0 [(0, .ref o), (1, .ref o')] [] h (xm_R MX3_remember).cells (xm_R MX3_remember).slots (fun o9 h' => o9 = .inl none ∧ HI G h' o A fp (remH Hs B) ∧ FRp fp h h')
  refine r_aload_n dX3_remember_0 0 rfl ?_
  refine r_get cl_X3 1 (by decide) kf_X3_18 dX3_remember_1 mO fO rfl ?_
  refine i_bipush (8) (by decide) dX3_remember_4 ?_
  refine i_icmplt dX3_remember_6 (tgt := 13) (by decide) (by unfold in32; omega) ⟨by decide, by decide⟩ (fun c6 => ?_) (fun c6 => ?_)
  · have e : remH Hs B = Hs ++ [B] := by rw [remH, if_pos (by omega)]
    rw [e]
    exact rr_X3_remember13 hH0 hB hd (by omega)
  · refine r_aload_n dX3_remember_9 0 rfl ?_
    refine p_callV (As := []) (b := o) (rest := []) (w := none) (st' := []) kv_X3_remember_22 dX3_remember_10 rfl rfl (Nat.le_of_ble_eq_true rfl) (Nat.le_of_ble_eq_true rfl) (x_rv mO fO rfl) rfl rfl (c_X3_dropOldest hH0 (by omega)) rfl (fun h9 e9 => ?_)
    obtain ⟨hH9, hF9⟩ := e9
    have e : remH Hs B = Hs.drop 1 ++ [B] := by rw [remH, if_neg (by omega)]
    rw [e]
    refine rr_mono (rr_X3_remember13 hH9 (hB.fr hF9 (fun q h1 h2 => hd q h2 h1)) hd (by rw [List.length_drop]; omega)) (fun o8 h8 q => ⟨q.1, q.2.1, FRp.tr hF9 q.2.2⟩)
set_option maxRecDepth 20000 in
set_option maxHeartbeats 1000000 in
theorem c_X3_takeBack {G : xG} {h : xH} {o A : Nat} {fp : List Nat} {Hs : List AB} (hH : HI G h o A fp Hs) {o' A' : Nat} {fp' : List Nat} {B : AB} (hB : BN G h o' A' fp' B) (hd : ∀ q ∈ fp, q ∉ fp') (h1 : 1 ≤ Hs.length) : CC G MX3_takeBack [.ref o, .ref o'] h (fun o9 h' => o9 = .inl none ∧ HI G h' o A fp Hs.dropLast ∧ BN G h' o' A' fp' (Hs.getD (Hs.length - 1) dB) ∧ FRp (fp ++ fp') h h') := by
  have hH0 := hH
  obtain ⟨g, bo, X, hHo⟩ := hH
  have hHo0 := hHo
  obtain ⟨⟨mO, mA⟩, fO, fA, hL8, hX, hK, hD, hfp⟩ := hHo
  have nOA : o ≠ A := ne_oi fO fA
  show RR G MX3_takeBack 0 [(0, .ref o), (1, .ref o')] [] h (xm_R MX3_takeBack).cells (xm_R MX3_takeBack).slots (fun o9 h' => o9 = .inl none ∧ HI G h' o A fp Hs.dropLast ∧ BN G h' o' A' fp' (Hs.getD (Hs.length - 1) dB) ∧ FRp (fp ++ fp') h h')
  refine r_aload_n dX3_takeBack_0 0 rfl ?_
  refine r_get cl_X3 1 (by decide) kf_X3_18 dX3_takeBack_1 mO fO rfl ?_
  refine i_ifle dX3_takeBack_4 (tgt := 30) (by decide) (by unfold in32; omega) (fun c4 => ?_) (fun c4 => ?_)
  · refine r_return rfl dX3_takeBack_30 ?_
    exfalso
    omega
  · refine r_aload_n dX3_takeBack_7 0 rfl ?_
    refine r_dup dX3_takeBack_8 rfl ?_
    refine r_get cl_X3 1 (by decide) kf_X3_18 dX3_takeBack_9 mO fO rfl ?_
    refine i_const (1) dX3_takeBack_12 ?_
    refine i_sub dX3_takeBack_13 ?_
    refine i_put [.ref A, .int (iI ((Hs.length : Int) - 1))] cl_X3 1 (by decide) kf_X3_18 rfl dX3_takeBack_14 mO fO rfl rfl (by simp) rfl (fun h1 e0_1 e1_1 e2_1 => ?_)
    have mo_1 : o ∈ h1.1 := by rw [e0_1]; exact mO
    have mA_1 : A ∈ h1.1 := by rw [e0_1]; exact mA
    have fA_1 := (e2_1 _ (Ne.symm nOA)).trans fA
    have hn : Hs.length - 1 < 8 := by omega
    have hF1 : FRp [o] h h1 := ⟨e0_1, fun q hq => e2_1 q (fun z => hq (by rw [z]; simp))⟩
    have hno : ∀ i, i < 8 → ∀ q ∈ (bo i).2.2, q ∉ [o] := fun i hi q hq z => (hfp.2.2 i hi q hq).2.1 (List.mem_singleton.mp z)
    have hK1 : BN G h1 (bo (Hs.length - 1)).1 (bo (Hs.length - 1)).2.1 (bo (Hs.length - 1)).2.2 (X (Hs.length - 1)) := (hK _ hn).2.fr hF1 (hno _ hn)
    have hB1 : BN G h1 o' A' fp' B := hB.fr hF1 (fun q hq z => hd q ((List.mem_singleton.mp z) ▸ hfp.1) hq)
    have hd1 : ∀ q ∈ fp', q ∉ (bo (Hs.length - 1)).2.2 := fun q hq z => hd q (hfp.2.2 _ hn q z).1 hq
    obtain ⟨mb', ⟨vb', fb'⟩, -⟩ := hB1.mem
    refine r_aload_n dX3_takeBack_17 1 rfl ?_
    refine r_aload_n dX3_takeBack_18 0 rfl ?_
    refine r_get cl_X3 0 (by decide) kf_X3_11 dX3_takeBack_19 mo_1 e1_1 rfl ?_
    refine r_aload_n dX3_takeBack_22 0 rfl ?_
    refine r_get cl_X3 1 (by decide) kf_X3_18 dX3_takeBack_23 mo_1 e1_1 rfl ?_
    refine i_aald rfl (Hs.length - 1) (by omega) dX3_takeBack_26 mA_1 fA_1 (by omega) (by decide) (hK (Hs.length - 1) (by omega)).1 ?_
    refine p_callV (As := [.ref ((bo (Hs.length - 1)).1)]) (b := o') (rest := []) (w := none) (st' := []) kv_X3_takeBack_25 dX3_takeBack_27 rfl rfl (Nat.le_of_ble_eq_true rfl) (Nat.le_of_ble_eq_true rfl) (x_rv mb' fb' rfl) rfl rfl (c_X1_copyFrom hB1 hK1 hd1) rfl (fun h9 e9 => ?_)
    obtain ⟨hB9, hF9⟩ := e9
    refine r_return rfl dX3_takeBack_30 ?_
    have hd2 : ∀ q ∈ fp, q ∉ fp' := hd
    have hH1 : HI G h1 o A fp Hs.dropLast := ⟨g, bo, X, ⟨mo_1, mA_1⟩, ?_, fA_1, by rw [List.length_dropLast]; omega, ?_, fun i hi => ⟨(hK i hi).1, (hK i hi).2.fr hF1 (hno i hi)⟩, hD, hfp⟩
    · refine ⟨rfl, hH1.fr hF9 hd, ?_, FRp.tr (hF1.mono (fun q hq => List.mem_append_left _ ((List.mem_singleton.mp hq) ▸ hfp.1))) (hF9.mono (fun q hq => List.mem_append_right _ hq))⟩
      rw [← hX _ (by omega)]; exact hB9
    · rw [e1_1, List.length_dropLast, show ((Hs.length - 1 : Nat) : Int) = (Hs.length : Int) - 1 by omega]
    · intro i hi
      rw [List.length_dropLast] at hi
      rw [hX i (by omega), List.getD_eq_getElem?_getD, List.getD_eq_getElem?_getD, List.getElem?_dropLast, if_pos (by omega)]
