/-! ===== stacking; a copy of a bench ===== -/
set_option maxRecDepth 20000 in
set_option maxHeartbeats 1000000 in
theorem c_X1_applyStack {G : xG} {h : xH} {o A : Nat} {fp : List Nat} {B : AB} (hB : BN G h o A fp B) (hWB : WB B) {i : Nat} (hi : i < B.2.length) {j : Nat} (hj : j < B.2.length) (hij : i ≠ j) (hroom : (putA (B.2.getD i dS).1 (B.2.getD j dS).1 (!(B.2.getD i dS).2.2.2.2.1)).1.length ≤ 200) : CC G MX1_applyStack [.ref o, .int (iI ((i : Int))), .int (iI ((j : Int)))] h (fun o' h' => o' = .inl (some (.int (iI (((carryS (B.2.getD i dS) (B.2.getD j dS)).1.length : Int))))) ∧ BN G h' o A fp (aStack B i j) ∧ FRp fp h h') := by
  obtain ⟨⟨ro, me, fl, ho, ec, bk⟩, Ls⟩ := B
  have hB0 := hB
  obtain ⟨g, bs, F, hBo⟩ := hB
  have hBo0 := hBo
  obtain ⟨⟨mO, mA⟩, fO, fA, hL6, hLF, hK, hD, hfp⟩ := hBo
  have hL6 : Ls.length ≤ 6 := hL6
  have hLF : ∀ i, i < Ls.length → F i = Ls.getD i dS := hLF
  have fO : h.2 o = .inr (0, [.ref A, .int (iI (Ls.length : Int)), .int (iI ro), .int (iI me), .int (iI fl), .int (iI ho), .int (iI ec), .int (iI bk)]) := fO
  have nOA : o ≠ A := ne_oi fO fA
  obtain ⟨hWs, hro, hme, hfl, hho⟩ := hWB
  have hro : 0 ≤ ro ∧ ro ≤ 40 := hro
  have hme : 5 ≤ me ∧ me ≤ 35 := hme
  have hfl : 0 ≤ fl ∧ fl ≤ 999 := hfl
  have hho : 0 ≤ ho ∧ ho ≤ 9999 := hho
  have hWs : ∀ s ∈ Ls, WS s := hWs
  have hi : i < Ls.length := hi
  have hj : j < Ls.length := hj
  have hi6 : i < 6 := by omega
  obtain ⟨a, t, b, hbs⟩ : ∃ a t b, bs i = (a, t, b) := ⟨_, _, _, rfl⟩
  have hgi : g i = some a := by rw [(hK i hi6).1, hbs]
  obtain ⟨s, hs⟩ : ∃ s, s = Ls.getD i dS := ⟨_, rfl⟩
  have hS : SH G h a t b s := by have z := (hK i hi6).2; rw [hbs, hLF i hi, ← hs] at z; exact z
  have hW : WS s := by rw [hs]; exact hWs _ (getD_memS hi)
  obtain ⟨l, ex, wa, fo, du, se, co⟩ := s
  have hS0 := hS
  obtain ⟨gt, gb, ⟨ma, mt, mb⟩, ⟨nta, nba, ntb⟩, fa, ft, fb, hl, hr⟩ := hS
  have hl : l.length ≤ 200 := hl
  have hr : sr gt gb l := hr
  have fa : h.2 a = .inr (5, [.ref t, .ref b, .int (iI (l.length : Int)), .int (iI ex), .int fo, .int (iI wa), .int (iI (b2 du)), .int (iI (b2 se)), .int (iI (b2 co))]) := fa
  have hW0 := hW
  obtain ⟨h1, hnz, h4, hw0, hw1⟩ := hW
  have h1 : 1 ≤ l.length := h1
  have h4 : hgt l ≤ 4000 := h4
  have hw0 : 0 ≤ wa := hw0
  have hw1 : wa ≤ 40 := hw1
  have hnz : ∀ x ∈ l, x ≠ 0 := hnz
  have hg0 := hgt_nn l
  have hgl := hgt_ge l hnz
  have noa : o ≠ a := ne_oo fO fa (by decide)
  have not : o ≠ t := ne_oi fO ft
  have nob : o ≠ b := ne_oi fO fb
  have nAa : A ≠ a := (ne_oi fa fA).symm
  have nAt : A ≠ t := ne_sz fA ft (by decide)
  have nAb : A ≠ b := ne_sz fA fb (by decide)
  have hi' : j < Ls.length := (by omega)
  have hi6' : j < 6 := by omega
  obtain ⟨a', t', b', hbs'⟩ : ∃ a t b, bs j = (a, t, b) := ⟨_, _, _, rfl⟩
  have hgi' : g j = some a' := by rw [(hK j hi6').1, hbs']
  obtain ⟨s', hs'⟩ : ∃ s, s = Ls.getD j dS := ⟨_, rfl⟩
  have hS' : SH G h a' t' b' s' := by have z := (hK j hi6').2; rw [hbs', hLF j hi', ← hs'] at z; exact z
  have hW' : WS s' := by rw [hs']; exact hWs _ (getD_memS hi')
  obtain ⟨l', ex', wa', fo', du', se', co'⟩ := s'
  have hS0' := hS'
  obtain ⟨gt', gb', ⟨ma', mt', mb'⟩, ⟨nta', nba', ntb'⟩, fa', ft', fb', hl', hr'⟩ := hS'
  have hl' : l'.length ≤ 200 := hl'
  have hr' : sr gt' gb' l' := hr'
  have fa' : h.2 a' = .inr (5, [.ref t', .ref b', .int (iI (l'.length : Int)), .int (iI ex'), .int fo', .int (iI wa'), .int (iI (b2 du')), .int (iI (b2 se')), .int (iI (b2 co'))]) := fa'
  have hW0'' := hW'
  obtain ⟨h1', hnz', h4', hw0', hw1'⟩ := hW'
  have h1' : 1 ≤ l'.length := h1'
  have h4' : hgt l' ≤ 4000 := h4'
  have hw0' : 0 ≤ wa' := hw0'
  have hw1' : wa' ≤ 40 := hw1'
  have hnz' : ∀ x ∈ l', x ≠ 0 := hnz'
  have hg0' := hgt_nn l'
  have hgl' := hgt_ge l' hnz'
  have noa' : o ≠ a' := ne_oo fO fa' (by decide)
  have not' : o ≠ t' := ne_oi fO ft'
  have nob' : o ≠ b' := ne_oi fO fb'
  have nAa' : A ≠ a' := (ne_oi fa' fA).symm
  have nAt' : A ≠ t' := ne_sz fA ft' (by decide)
  have nAb' : A ≠ b' := ne_sz fA fb' (by decide)
  have hN : DJ a t b a' t' b' := by have z := hD i j hi6 hi6' hij; rw [hbs, hbs'] at z; exact z
  have hroom : (putA l l' (!du)).1.length ≤ 200 := by have z : (putA (Ls.getD i dS).1 (Ls.getD j dS).1 (!(Ls.getD i dS).2.2.2.2.1)).1.length ≤ 200 := hroom; rw [← hs, ← hs'] at z; exact z
  show RR G MX1_applyStack 0 [(0, .ref o), (1, .int (iI ((i : Int)))), (2, .int (iI ((j : Int))))] [] h (xm_R MX1_applyStack).cells (xm_R MX1_applyStack).slots (fun o' h' => o' = .inl (some (.int (iI (((carryS (Ls.getD i dS) (Ls.getD j dS)).1.length : Int))))) ∧ BN G h' o A fp (aStack ((ro, me, fl, ho, ec, bk), Ls) i j) ∧ FRp fp h h')
  refine r_aload_n dX1_applyStack_0 0 rfl ?_
  refine r_get cl_X1 0 (by decide) kf_X1_11 dX1_applyStack_1 mO fO rfl ?_
  refine r_iload_n dX1_applyStack_4 1 rfl ?_
  refine i_aald rfl i rfl dX1_applyStack_5 mA fA (by omega) (by decide) hgi ?_
  refine r_astore_n (ls' := [(0, .ref o), (1, .int (iI ((i : Int)))), (2, .int (iI ((j : Int)))), (3, .ref a)]) dX1_applyStack_6 (by decide) rfl ?_
  refine r_aload_n dX1_applyStack_7 3 rfl ?_
  refine r_aload_n dX1_applyStack_8 0 rfl ?_
  refine r_get cl_X1 0 (by decide) kf_X1_11 dX1_applyStack_9 mO fO rfl ?_
  refine r_iload_n dX1_applyStack_12 2 rfl ?_
  refine i_aald rfl j rfl dX1_applyStack_13 mA fA (by omega) (by decide) hgi' ?_
  refine p_callV (As := [.ref a']) (b := a) (rest := []) (w := none) (st' := []) kv_X1_applyStack_141 dX1_applyStack_14 rfl rfl (Nat.le_of_ble_eq_true rfl) (Nat.le_of_ble_eq_true rfl) (x_rv ma fa rfl) rfl rfl (c_X8_carry hS0 hS0' hN ⟨hw0, hw1⟩ ⟨hw0', hw1'⟩ hroom) rfl (fun h9 e9 => ?_)
  obtain ⟨hS9, hF9⟩ := e9
  have hS0_9 := hS9
  obtain ⟨gt9, gb9, ⟨ma9, mt9, mb9⟩, -, fa9, ft9, fb9, hl9, hr9⟩ := hS9
  have fa9 : h9.2 a = .inr (5, [.ref t, .ref b, .int (iI (((putA l l' (!du)).1).length : Int)), .int (iI (ex + (ex' - (putA l l' (!du)).2))), .int (if fo < fo' then fo' else fo), .int (iI (max wa wa')), .int (iI (b2 du')), .int (iI (b2 false)), .int (iI (b2 co))]) := fa9
  have hl9 : ((putA l l' (!du)).1).length ≤ 200 := hl9
  have hr9 : sr gt9 gb9 ((putA l l' (!du)).1) := hr9
  have mo_9 : o ∈ h9.1 := by rw [hF9.1]; exact mO
  have fo_9 := (hF9.2 o noa not nob).trans fO
  have mA_9 : A ∈ h9.1 := by rw [hF9.1]; exact mA
  have fA_9 := (hF9.2 A nAa nAt nAb).trans fA
  have fO9 : h9.2 o = .inr (0, bf A ((ro, me, fl, ho, ec, bk), Ls.set i (carryS (l, ex, wa, fo, du, se, co) (l', ex', wa', fo', du', se', co')))) := by simp only [bf, List.length_set]; exact fo_9
  have hR := hBo0.mk4 hi6 hbs (FR4.of hF9) hS0_9 fO9 (by show (Ls.set i _).length ≤ 6; rw [List.length_set]; exact hL6) (set_getDS hLF hi)
  refine r_aload_n dX1_applyStack_17 0 rfl ?_
  refine r_iload_n dX1_applyStack_18 2 rfl ?_
  refine p_callV (As := [.int (iI ((j : Int)))]) (b := o) (rest := []) (w := none) (st' := []) kv_X1_applyStack_144 dX1_applyStack_19 rfl rfl (Nat.le_of_ble_eq_true rfl) (Nat.le_of_ble_eq_true rfl) (x_rv mo_9 fo_9 rfl) rfl rfl (c_X1_removeSheet hR.1 (j := j) (by show j < (Ls.set i _).length; rw [List.length_set]; exact hj)) rfl (fun h9 e9 => ?_)
  obtain ⟨hB8, hF8, hq8⟩ := e9
  have ma8 : a ∈ h9.1 := by rw [hF8.1]; exact ma9
  have fa8 := (hq8 a nAa.symm noa.symm).trans fa9
  refine r_aload_n dX1_applyStack_22 3 rfl ?_
  refine r_get cl_X8 2 (by decide) kf_X1_65 dX1_applyStack_23 ma8 fa8 rfl ?_
  refine r_ireturn rfl rfl dX1_applyStack_26 ?_
  have e : aStack ((ro, me, fl, ho, ec, bk), Ls) i j = ((ro, me, fl, ho, ec, bk), (Ls.set i (carryS (l, ex, wa, fo, du, se, co) (l', ex', wa', fo', du', se', co'))).eraseIdx j) := by unfold aStack; dsimp only; rw [← hs, ← hs']
  rw [e]
  exact ⟨by rw [← hs, ← hs']; rfl, hB8, FRp.tr hR.2 hF8⟩
theorem rg_getDS (n : Nat) (F : Nat → AS) : ∀ k, k < ((List.range n).map F).length → F k = ((List.range n).map F).getD k dS := by
  intro k hk
  rw [List.length_map, List.length_range] at hk
  rw [List.getD_eq_getElem?_getD]; simp [hk]
set_option maxRecDepth 20000 in
set_option maxHeartbeats 1000000 in
theorem c_X1_copyFrom {G : xG} {h : xH} {o A : Nat} {fp : List Nat} {B : AB} (hB : BN G h o A fp B) {o' A' : Nat} {fp' : List Nat} {B' : AB} (hB' : BN G h o' A' fp' B') (hd : ∀ q ∈ fp, q ∉ fp') : CC G MX1_copyFrom [.ref o, .ref o'] h (fun o9 h' => o9 = .inl none ∧ BN G h' o A fp B' ∧ FRp fp h h') := by
  obtain ⟨⟨ro, me, fl, ho, ec, bk⟩, Ls⟩ := B
  have hB0 := hB
  obtain ⟨g, bs, F, hBo⟩ := hB
  have hBo0 := hBo
  obtain ⟨⟨mO, mA⟩, fO, fA, hL6, hLF, hK, hD, hfp⟩ := hBo
  have hL6 : Ls.length ≤ 6 := hL6
  have hLF : ∀ i, i < Ls.length → F i = Ls.getD i dS := hLF
  have fO : h.2 o = .inr (0, [.ref A, .int (iI (Ls.length : Int)), .int (iI ro), .int (iI me), .int (iI fl), .int (iI ho), .int (iI ec), .int (iI bk)]) := fO
  have nOA : o ≠ A := ne_oi fO fA
  obtain ⟨⟨ro', me', fl', ho', ec', bk'⟩, Ls'⟩ := B'
  have hB0' := hB'
  obtain ⟨g', bs', F', hBo'⟩ := hB'
  have hBo0' := hBo'
  obtain ⟨⟨mO', mA'⟩, fO', fA', hL6', hLF', hK', hD', hfp'⟩ := hBo'
  have hL6' : Ls'.length ≤ 6 := hL6'
  have hLF' : ∀ i, i < Ls'.length → F' i = Ls'.getD i dS := hLF'
  have fO' : h.2 o' = .inr (0, [.ref A', .int (iI (Ls'.length : Int)), .int (iI ro'), .int (iI me'), .int (iI fl'), .int (iI ho'), .int (iI ec'), .int (iI bk')]) := fO'
  have nOA' : o' ≠ A' := ne_oi fO' fA'
  have hd' : ∀ q ∈ fp', q ∉ fp := fun q h1 h2 => hd q h2 h1
  have noo : o ≠ o' := fun e => hd o hfp.1 (e ▸ hfp'.1)
  have L : ∀ i, i ≤ Ls'.length → ∀ (hh : xH) (F9 : Nat → AS), BNo G hh o A fp ((ro, me, fl, ho, ec, bk), (List.range Ls'.length).map F9) g bs F9 → (∀ k, k < i → F9 k = Ls'.getD k dS) → FRp fp h hh → RR G MX1_copyFrom 10 [(0, .ref o), (1, .ref o'), (2, .int (iI ((i : Int))))] [] hh (xm_R MX1_copyFrom).cells (xm_R MX1_copyFrom).slots (fun o9 h' => o9 = .inl none ∧ BN G h' o A fp ((ro', me', fl', ho', ec', bk'), Ls') ∧ FRp fp h h') := by
    refine down (fun i hi ih => ?_)
    intro hh F9 hX hg hF
    have hX0 := hX
    obtain ⟨⟨mO9, mA9⟩, fO9, fA9, -, -, hK9, -, -⟩ := hX
    have fO9 : hh.2 o = .inr (0, [.ref A, .int (iI (Ls'.length : Int)), .int (iI ro), .int (iI me), .int (iI fl), .int (iI ho), .int (iI ec), .int (iI bk)]) := by rw [fO9]; simp [bf]
    have hY := hB0'.fr hF hd'
    have mO'9 : o' ∈ hh.1 := by rw [hF.1]; exact mO'
    have mA'9 : A' ∈ hh.1 := by rw [hF.1]; exact mA'
    have fO'9 := (hF.2 o' (hd' o' hfp'.1)).trans fO'
    have fA'9 := (hF.2 A' (hd' A' hfp'.2.1)).trans fA'
    refine r_iload_n dX1_copyFrom_10 2 rfl ?_
    refine r_aload_n dX1_copyFrom_11 0 rfl ?_
    refine r_get cl_X1 1 (by decide) kf_X1_31 dX1_copyFrom_12 mO9 fO9 rfl ?_
    refine i_icmpge dX1_copyFrom_15 (tgt := 39) (by decide) (by unfold in32; omega) (by unfold in32; omega) (fun c15 => ?_) (fun c15 => ?_)
    · refine r_aload_n dX1_copyFrom_39 0 rfl ?_
      refine r_aload_n dX1_copyFrom_40 1 rfl ?_
      refine r_get cl_X1 2 (by decide) kf_X1_35 dX1_copyFrom_41 mO'9 fO'9 rfl ?_
      refine i_put [.ref A, .int (iI ((Ls'.length : Int))), .int (iI ro'), .int (iI me), .int (iI fl), .int (iI ho), .int (iI ec), .int (iI bk)] cl_X1 2 (by decide) kf_X1_35 rfl dX1_copyFrom_44 mO9 fO9 rfl rfl (by simp) rfl (fun h1 e0_1 e1_1 e2_1 => ?_)
      have mo_1 : o ∈ h1.1 := by rw [e0_1]; exact mO9
      have mA_1 : A ∈ h1.1 := by rw [e0_1]; exact mA9
      have fA_1 := (e2_1 _ (ne_oi fO9 fA9).symm).trans fA9
      have mo'_1 : o' ∈ h1.1 := by rw [e0_1]; exact mO'9
      have fo'_1 := (e2_1 _ (Ne.symm noo)).trans fO'9
      have mA'_1 : A' ∈ h1.1 := by rw [e0_1]; exact mA'9
      have fA'_1 := (e2_1 _ (fun e => hd o hfp.1 (e ▸ hfp'.2.1))).trans fA'9
      refine r_aload_n dX1_copyFrom_47 0 rfl ?_
      refine r_aload_n dX1_copyFrom_48 1 rfl ?_
      refine r_get cl_X1 3 (by decide) kf_X1_38 dX1_copyFrom_49 mo'_1 fo'_1 rfl ?_
      refine i_put [.ref A, .int (iI ((Ls'.length : Int))), .int (iI ro'), .int (iI me'), .int (iI fl), .int (iI ho), .int (iI ec), .int (iI bk)] cl_X1 3 (by decide) kf_X1_38 rfl dX1_copyFrom_52 mo_1 e1_1 rfl rfl (by simp) rfl (fun h2 e0_2 e1_2 e2_2 => ?_)
      have mo_2 : o ∈ h2.1 := by rw [e0_2]; exact mo_1
      have mA_2 : A ∈ h2.1 := by rw [e0_2]; exact mA_1
      have fA_2 := (e2_2 _ (ne_oi fO9 fA9).symm).trans fA_1
      have mo'_2 : o' ∈ h2.1 := by rw [e0_2]; exact mo'_1
      have fo'_2 := (e2_2 _ (Ne.symm noo)).trans fo'_1
      have mA'_2 : A' ∈ h2.1 := by rw [e0_2]; exact mA'_1
      have fA'_2 := (e2_2 _ (fun e => hd o hfp.1 (e ▸ hfp'.2.1))).trans fA'_1
      refine r_aload_n dX1_copyFrom_55 0 rfl ?_
      refine r_aload_n dX1_copyFrom_56 1 rfl ?_
      refine r_get cl_X1 4 (by decide) kf_X1_41 dX1_copyFrom_57 mo'_2 fo'_2 rfl ?_
      refine i_put [.ref A, .int (iI ((Ls'.length : Int))), .int (iI ro'), .int (iI me'), .int (iI fl'), .int (iI ho), .int (iI ec), .int (iI bk)] cl_X1 4 (by decide) kf_X1_41 rfl dX1_copyFrom_60 mo_2 e1_2 rfl rfl (by simp) rfl (fun h3 e0_3 e1_3 e2_3 => ?_)
      have mo_3 : o ∈ h3.1 := by rw [e0_3]; exact mo_2
      have mA_3 : A ∈ h3.1 := by rw [e0_3]; exact mA_2
      have fA_3 := (e2_3 _ (ne_oi fO9 fA9).symm).trans fA_2
      have mo'_3 : o' ∈ h3.1 := by rw [e0_3]; exact mo'_2
      have fo'_3 := (e2_3 _ (Ne.symm noo)).trans fo'_2
      have mA'_3 : A' ∈ h3.1 := by rw [e0_3]; exact mA'_2
      have fA'_3 := (e2_3 _ (fun e => hd o hfp.1 (e ▸ hfp'.2.1))).trans fA'_2
      refine r_aload_n dX1_copyFrom_63 0 rfl ?_
      refine r_aload_n dX1_copyFrom_64 1 rfl ?_
      refine r_get cl_X1 5 (by decide) kf_X1_44 dX1_copyFrom_65 mo'_3 fo'_3 rfl ?_
      refine i_put [.ref A, .int (iI ((Ls'.length : Int))), .int (iI ro'), .int (iI me'), .int (iI fl'), .int (iI ho'), .int (iI ec), .int (iI bk)] cl_X1 5 (by decide) kf_X1_44 rfl dX1_copyFrom_68 mo_3 e1_3 rfl rfl (by simp) rfl (fun h4 e0_4 e1_4 e2_4 => ?_)
      have mo_4 : o ∈ h4.1 := by rw [e0_4]; exact mo_3
      have mA_4 : A ∈ h4.1 := by rw [e0_4]; exact mA_3
      have fA_4 := (e2_4 _ (ne_oi fO9 fA9).symm).trans fA_3
      have mo'_4 : o' ∈ h4.1 := by rw [e0_4]; exact mo'_3
      have fo'_4 := (e2_4 _ (Ne.symm noo)).trans fo'_3
      have mA'_4 : A' ∈ h4.1 := by rw [e0_4]; exact mA'_3
      have fA'_4 := (e2_4 _ (fun e => hd o hfp.1 (e ▸ hfp'.2.1))).trans fA'_3
      refine r_aload_n dX1_copyFrom_71 0 rfl ?_
      refine r_aload_n dX1_copyFrom_72 1 rfl ?_
      refine r_get cl_X1 6 (by decide) kf_X1_47 dX1_copyFrom_73 mo'_4 fo'_4 rfl ?_
      refine i_put [.ref A, .int (iI ((Ls'.length : Int))), .int (iI ro'), .int (iI me'), .int (iI fl'), .int (iI ho'), .int (iI ec'), .int (iI bk)] cl_X1 6 (by decide) kf_X1_47 rfl dX1_copyFrom_76 mo_4 e1_4 rfl rfl (by simp) rfl (fun h5 e0_5 e1_5 e2_5 => ?_)
      have mo_5 : o ∈ h5.1 := by rw [e0_5]; exact mo_4
      have mA_5 : A ∈ h5.1 := by rw [e0_5]; exact mA_4
      have fA_5 := (e2_5 _ (ne_oi fO9 fA9).symm).trans fA_4
      have mo'_5 : o' ∈ h5.1 := by rw [e0_5]; exact mo'_4
      have fo'_5 := (e2_5 _ (Ne.symm noo)).trans fo'_4
      have mA'_5 : A' ∈ h5.1 := by rw [e0_5]; exact mA'_4
      have fA'_5 := (e2_5 _ (fun e => hd o hfp.1 (e ▸ hfp'.2.1))).trans fA'_4
      refine r_aload_n dX1_copyFrom_79 0 rfl ?_
      refine r_aload_n dX1_copyFrom_80 1 rfl ?_
      refine r_get cl_X1 7 (by decide) kf_X1_50 dX1_copyFrom_81 mo'_5 fo'_5 rfl ?_
      refine i_put [.ref A, .int (iI ((Ls'.length : Int))), .int (iI ro'), .int (iI me'), .int (iI fl'), .int (iI ho'), .int (iI ec'), .int (iI bk')] cl_X1 7 (by decide) kf_X1_50 rfl dX1_copyFrom_84 mo_5 e1_5 rfl rfl (by simp) rfl (fun h6 e0_6 e1_6 e2_6 => ?_)
      have mo_6 : o ∈ h6.1 := by rw [e0_6]; exact mo_5
      have mA_6 : A ∈ h6.1 := by rw [e0_6]; exact mA_5
      have fA_6 := (e2_6 _ (ne_oi fO9 fA9).symm).trans fA_5
      have mo'_6 : o' ∈ h6.1 := by rw [e0_6]; exact mo'_5
      have fo'_6 := (e2_6 _ (Ne.symm noo)).trans fo'_5
      have mA'_6 : A' ∈ h6.1 := by rw [e0_6]; exact mA'_5
      have fA'_6 := (e2_6 _ (fun e => hd o hfp.1 (e ▸ hfp'.2.1))).trans fA'_5
      refine r_return rfl dX1_copyFrom_87 ?_
      have hw : FRw o hh h6 := (FRw.tr (FRw.tr (FRw.tr (FRw.tr (FRw.tr (FRw.mk e0_1 e2_1) (FRw.mk e0_2 e2_2)) (FRw.mk e0_3 e2_3)) (FRw.mk e0_4 e2_4)) (FRw.mk e0_5 e2_5)) (FRw.mk e0_6 e2_6))
      have hR := hX0.hd (B' := ((ro', me', fl', ho', ec', bk'), Ls')) hw.1 hw.2 e1_6 hL6' (fun k hk => hg k (by have hk : k < Ls'.length := hk; omega))
      exact ⟨rfl, hR.1, FRp.tr hF hR.2⟩
    · have hi9 : i < Ls'.length := by omega
      have hi6 : i < 6 := by omega
      obtain ⟨a, t, b, hbs⟩ : ∃ a t b, bs i = (a, t, b) := ⟨_, _, _, rfl⟩
      have hgi : g i = some a := by rw [(hK9 i hi6).1, hbs]
      obtain ⟨s, hs⟩ : ∃ s, s = F9 i := ⟨_, rfl⟩
      have hS : SH G hh a t b s := by have z := (hK9 i hi6).2; rw [hbs, ← hs] at z; exact z
      obtain ⟨l, ex, wa, fo, du, se, co⟩ := s
      have hS0 := hS
      obtain ⟨gt, gb, ⟨ma, mt, mb⟩, ⟨nta, nba, ntb⟩, fa, ft, fb, hl, hr⟩ := hS
      have hl : l.length ≤ 200 := hl
      have hr : sr gt gb l := hr
      have fa : hh.2 a = .inr (5, [.ref t, .ref b, .int (iI (l.length : Int)), .int (iI ex), .int fo, .int (iI wa), .int (iI (b2 du)), .int (iI (b2 se)), .int (iI (b2 co))]) := fa
      obtain ⟨a', t', b', hbs'⟩ : ∃ a t b, bs' i = (a, t, b) := ⟨_, _, _, rfl⟩
      have hgi' : g' i = some a' := by rw [(hK' i hi6).1, hbs']
      obtain ⟨s', hs'⟩ : ∃ s, s = Ls'.getD i dS := ⟨_, rfl⟩
      have hT1 : TRin fp (a, t, b) := by rw [← hbs]; exact hfp.2.2 i hi6
      have hT2 : TRin fp' (a', t', b') := by rw [← hbs']; exact hfp'.2.2 i hi6
      have hN : DJ a t b a' t' b' := hT1.dj hT2 hd
      have hS' : SH G hh a' t' b' s' := by
        obtain ⟨gt2, gb2, m2, n2, fa2, ft2, fb2, r2⟩ : SH G h a' t' b' s' := by have z := (hK' i hi6).2; rw [hbs', hLF' i hi9, ← hs'] at z; exact z
        exact ⟨gt2, gb2, ⟨by rw [hF.1]; exact m2.1, by rw [hF.1]; exact m2.2.1, by rw [hF.1]; exact m2.2.2⟩, n2, (hF.2 _ (hd' _ hT2.1)).trans fa2, (hF.2 _ (hd' _ hT2.2.1)).trans ft2, (hF.2 _ (hd' _ hT2.2.2)).trans fb2, r2⟩
      obtain ⟨l', ex', wa', fo', du', se', co'⟩ := s'
      have hS0' := hS'
      obtain ⟨gt', gb', ⟨ma', mt', mb'⟩, ⟨nta', nba', ntb'⟩, fa', ft', fb', hl', hr'⟩ := hS'
      have hl' : l'.length ≤ 200 := hl'
      have hr' : sr gt' gb' l' := hr'
      have fa' : hh.2 a' = .inr (5, [.ref t', .ref b', .int (iI (l'.length : Int)), .int (iI ex'), .int fo', .int (iI wa'), .int (iI (b2 du')), .int (iI (b2 se')), .int (iI (b2 co'))]) := fa'
      have noa : o ≠ a := ne_oo fO9 fa (by decide)
      have not : o ≠ t := ne_oi fO9 ft
      have nob : o ≠ b := ne_oi fO9 fb
      refine r_aload_n dX1_copyFrom_18 0 rfl ?_
      refine r_get cl_X1 0 (by decide) kf_X1_11 dX1_copyFrom_19 mO9 fO9 rfl ?_
      refine r_iload_n dX1_copyFrom_22 2 rfl ?_
      refine i_aald rfl i rfl dX1_copyFrom_23 mA9 fA9 (by omega) (by decide) hgi ?_
      refine r_aload_n dX1_copyFrom_24 1 rfl ?_
      refine r_get cl_X1 0 (by decide) kf_X1_11 dX1_copyFrom_25 mO'9 fO'9 rfl ?_
      refine r_iload_n dX1_copyFrom_28 2 rfl ?_
      refine i_aald rfl i rfl dX1_copyFrom_29 mA'9 fA'9 (by omega) (by decide) hgi' ?_
      refine p_callV (As := [.ref a']) (b := a) (rest := []) (w := none) (st' := []) kv_X1_copyFrom_58 dX1_copyFrom_30 rfl rfl (Nat.le_of_ble_eq_true rfl) (Nat.le_of_ble_eq_true rfl) (x_rv ma fa rfl) rfl rfl (c_X8_copyFrom hS0 hS0' hN) rfl (fun h9 e9 => ?_)
      obtain ⟨hS9, hF9⟩ := e9
      refine i_iinc (ls' := [(0, .ref o), (1, .ref o'), (2, .int (iI ((i : Int) + 1)))]) (1) (v := (i : Int) + 1) dX1_copyFrom_33 2 rfl (by omega) (by decide) rfl ?_
      refine r_goto dX1_copyFrom_36 (tgt := 10) (by decide) ?_
      have fO8 : h9.2 o = .inr (0, bf A ((ro, me, fl, ho, ec, bk), (List.range Ls'.length).map (updA F9 i (l', ex', wa', fo', du', se', co')))) := by rw [hF9.2 o noa not nob, fO9]; simp [bf]
      have hR := hX0.mk4o hi6 hbs (FR4.of hF9) hS9 fO8 (by simp; exact hL6') (rg_getDS Ls'.length _)
      refine ih (i + 1) (by omega) (by omega) _ _ hR.1 (fun k hk => ?_) (FRp.tr hF hR.2)
      by_cases z : k = i
      · rw [z, updA_eq]; exact hs'
      · rw [updA_ne _ _ z]; exact hg k (by omega)
  show RR G MX1_copyFrom 0 [(0, .ref o), (1, .ref o')] [] h (xm_R MX1_copyFrom).cells (xm_R MX1_copyFrom).slots (fun o9 h' => o9 = .inl none ∧ BN G h' o A fp ((ro', me', fl', ho', ec', bk'), Ls') ∧ FRp fp h h')
  refine r_aload_n dX1_copyFrom_0 0 rfl ?_
  refine r_aload_n dX1_copyFrom_1 1 rfl ?_
  refine r_get cl_X1 1 (by decide) kf_X1_31 dX1_copyFrom_2 mO' fO' rfl ?_
  refine i_put [.ref A, .int (iI ((Ls'.length : Int))), .int (iI ro), .int (iI me), .int (iI fl), .int (iI ho), .int (iI ec), .int (iI bk)] cl_X1 1 (by decide) kf_X1_31 rfl dX1_copyFrom_5 mO fO rfl rfl (by simp) rfl (fun h1 e0_1 e1_1 e2_1 => ?_)
  have mo_1 : o ∈ h1.1 := by rw [e0_1]; exact mO
  have mA_1 : A ∈ h1.1 := by rw [e0_1]; exact mA
  have fA_1 := (e2_1 _ (ne_oi fO fA).symm).trans fA
  have mo'_1 : o' ∈ h1.1 := by rw [e0_1]; exact mO'
  have fo'_1 := (e2_1 _ (Ne.symm noo)).trans fO'
  have mA'_1 : A' ∈ h1.1 := by rw [e0_1]; exact mA'
  have fA'_1 := (e2_1 _ (fun e => hd o hfp.1 (e ▸ hfp'.2.1))).trans fA'
  refine i_const (0) dX1_copyFrom_8 ?_
  refine r_istore_n (ls' := [(0, .ref o), (1, .ref o'), (2, .int (iI 0))]) dX1_copyFrom_9 (by decide) rfl ?_
  have hR := hBo0.hdo (B' := ((ro, me, fl, ho, ec, bk), (List.range Ls'.length).map F)) e0_1 e2_1 (by rw [e1_1]; simp [bf]) (by simp; exact hL6') (rg_getDS Ls'.length F)
  exact L 0 (by omega) _ F hR.1 (fun k hk => absurd hk (Nat.not_lt_zero k)) hR.2
