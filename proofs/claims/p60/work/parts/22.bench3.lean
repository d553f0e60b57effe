/-! ===== the bench: two sheets, sheets that come and go, copies ===== -/
theorem TRin.dj {fp fp' : List Nat} {x y : TR} (hx : TRin fp x) (hy : TRin fp' y) (hd : ∀ q ∈ fp, q ∉ fp') : DJ3 x y := by
  have k : ∀ p q, p ∈ fp → q ∈ fp' → p ≠ q := fun p q h1 h2 e => hd p h1 (e ▸ h2)
  exact ⟨⟨k _ _ hx.1 hy.1, k _ _ hx.1 hy.2.1, k _ _ hx.1 hy.2.2⟩, ⟨k _ _ hx.2.1 hy.1, k _ _ hx.2.1 hy.2.1, k _ _ hx.2.1 hy.2.2⟩, ⟨k _ _ hx.2.2 hy.1, k _ _ hx.2.2 hy.2.1, k _ _ hx.2.2 hy.2.2⟩⟩
theorem DJ3.symm {x y : TR} (h : DJ3 x y) : DJ3 y x := ⟨⟨h.1.1.symm, h.2.1.1.symm, h.2.2.1.symm⟩, ⟨h.1.2.1.symm, h.2.1.2.1.symm, h.2.2.2.1.symm⟩, ⟨h.1.2.2.symm, h.2.1.2.2.symm, h.2.2.2.2.symm⟩⟩
theorem app_getDS {Ls : List AS} {F : Nat → AS} {s' : AS} (hLF : ∀ i, i < Ls.length → F i = Ls.getD i dS) : ∀ k, k < (Ls ++ [s']).length → updA F Ls.length s' k = (Ls ++ [s']).getD k dS := by
  intro k hk
  rw [List.length_append, List.length_singleton] at hk
  by_cases e : k = Ls.length
  · rw [e, updA_eq]; simp
  · rw [updA_ne _ _ e, hLF k (by omega), List.getD_eq_getElem?_getD, List.getD_eq_getElem?_getD, List.getElem?_append_left (by omega)]
def shG (g : Nat → Option Nat) (j k m : Nat) : Option Nat := if m < j then g m else if m + 1 < k then g (m + 1) else g m
theorem shG_0 (g : Nat → Option Nat) (j : Nat) : shG g j (j + 1) = g := by
  funext m; unfold shG; split
  · rfl
  · rw [if_neg (by omega)]
theorem shG_s {g : Nat → Option Nat} {j k : Nat} (h : j + 1 ≤ k) : va_up (shG g j k) (k - 1) (g k) = shG g j (k + 1) := by
  funext m
  by_cases e : m = k - 1
  · rw [e, va_up_self]; unfold shG; rw [if_neg (by omega), if_pos (by omega), show k - 1 + 1 = k by omega]
  · rw [va_up_ne _ _ e]; unfold shG; by_cases e2 : m < j
    · rw [if_pos e2, if_pos e2]
    · rw [if_neg e2, if_neg e2]
      by_cases z : m + 1 < k
      · rw [if_pos z, if_pos (by omega)]
      · rw [if_neg z, if_neg (by omega)]
def piR (j n m : Nat) : Nat := if m < j then m else if m + 1 < n then m + 1 else if m + 1 = n then j else m
theorem piR_lt {j n m : Nat} (hj : j < n) (hn : n ≤ 6) (hm : m < 6) : piR j n m < 6 := by unfold piR; split <;> (try split) <;> (try split) <;> omega
theorem piR_inj {j n m k : Nat} (hj : j < n) (h : m ≠ k) : piR j n m ≠ piR j n k := by unfold piR; split <;> split <;> (try split) <;> (try split) <;> (try split) <;> (try split) <;> omega
theorem erase_getDS {Ls : List AS} {F : Nat → AS} {j : Nat} (hj : j < Ls.length) (hLF : ∀ i, i < Ls.length → F i = Ls.getD i dS) : ∀ k, k < (Ls.eraseIdx j).length → F (piR j Ls.length k) = (Ls.eraseIdx j).getD k dS := by
  intro k hk
  rw [List.length_eraseIdx_of_lt hj] at hk
  rw [List.getD_eq_getElem?_getD, List.getElem?_eraseIdx]
  unfold piR
  by_cases e : k < j
  · rw [if_pos e, if_pos e, hLF k (by omega), List.getD_eq_getElem?_getD]
  · rw [if_neg e, if_neg e, if_pos (by omega), hLF (k + 1) (by omega), List.getD_eq_getElem?_getD]
def hrL (r : Int) (n i : Nat) (Ls : List AS) : List AS := (Ls.take i).map (hrS r n) ++ Ls.drop i
theorem hrL_0 (r : Int) (n : Nat) (Ls : List AS) : hrL r n 0 Ls = Ls := by simp [hrL]
theorem hrL_all (r : Int) (n : Nat) (Ls : List AS) : hrL r n Ls.length Ls = Ls.map (hrS r n) := by simp [hrL]
theorem hrL_len (r : Int) (n i : Nat) (Ls : List AS) : (hrL r n i Ls).length = Ls.length := by simp [hrL]; omega
theorem hrL_get {r : Int} {n i : Nat} {Ls : List AS} (h : i < Ls.length) : (hrL r n i Ls).getD i dS = Ls.getD i dS := by
  unfold hrL
  rw [List.getD_eq_getElem?_getD, List.getElem?_append_right (by simp; omega), List.getD_eq_getElem?_getD]
  simp [Nat.min_eq_left (Nat.le_of_lt h)]
theorem hrL_s {r : Int} {n i : Nat} {Ls : List AS} (h : i < Ls.length) : (hrL r n i Ls).set i (hrS r n (Ls.getD i dS)) = hrL r n (i + 1) Ls := by
  unfold hrL
  have e1 : Ls.drop i = Ls.getD i dS :: Ls.drop (i + 1) := by rw [List.drop_eq_getElem_cons h, getD_eqS h]
  rw [e1, List.set_append_right _ _ (by simp; omega), take_sS h]
  simp [Nat.min_eq_left (Nat.le_of_lt h)]
theorem WS.hr {r : Int} {n : Nat} {s : AS} (h : WS s) (hr : 0 ≤ r ∧ r ≤ 40) : WS (hrS r n s) := ⟨h.1, h.2.1, h.2.2.1, warmAt_b h.2.2.2 hr n⟩
set_option maxRecDepth 20000 in
set_option maxHeartbeats 1000000 in
theorem c_X1_refusalOfStack {G : xG} {h : xH} {o A : Nat} {fp : List Nat} {B : AB} (hB : BN G h o A fp B) (hWB : WB B) {K : xK} (hGK : GK G K) {z : Int} (hz : in32 z) {y : Int} (hy : in32 y) : CC G MX1_refusalOfStack [.ref o, .int (iI z), .int (iI y)] h (fun o h' => o = .inl (some (.ref (K.1 (rStack B z y)))) ∧ h' = h) := by
  have hWB0 := hWB
  obtain ⟨⟨ro, me, fl, ho, ec, bk⟩, Ls⟩ := B
  have hB0 := hB
  obtain ⟨g, bs, F, hBo⟩ := hB
  have hBo0 := hBo
  obtain ⟨⟨mO, mA⟩, fO, fA, hL6, hLF, hK, hD, hfp⟩ := hBo
  have hL6 : Ls.length ≤ 6 := hL6
  have hLF : ∀ i, i < Ls.length → F i = Ls.getD i dS := hLF
  have fO : h.2 o = .inr (0, [.ref A, .int (iI (Ls.length : Int)), .int (iI ro), .int (iI me), .int (iI fl), .int (iI ho), .int (iI ec), .int (iI bk)]) := fO
  obtain ⟨hWs, hro, hme, hfl, hho⟩ := hWB
  have hro : 0 ≤ ro ∧ ro ≤ 40 := hro
  have hme : 5 ≤ me ∧ me ≤ 35 := hme
  have hfl : 0 ≤ fl ∧ fl ≤ 999 := hfl
  have hho : 0 ≤ ho ∧ ho ≤ 9999 := hho
  have hWs : ∀ s ∈ Ls, WS s := hWs
  show RR G MX1_refusalOfStack 0 [(0, .ref o), (1, .int (iI z)), (2, .int (iI y))] [] h (xm_R MX1_refusalOfStack).cells (xm_R MX1_refusalOfStack).slots (fun o h' => o = .inl (some (.ref (K.1 (rStack ((ro, me, fl, ho, ec, bk), Ls) z y)))) ∧ h' = h)
  refine r_aload_n dX1_refusalOfStack_0 0 rfl ?_
  refine r_iload_n dX1_refusalOfStack_1 1 rfl ?_
  refine p_callV (As := [.int (iI z)]) (b := o) (rest := []) (w := (some (.int (iI (b2 (hasS ((ro, me, fl, ho, ec, bk), Ls) z)))))) (st' := [.int (iI (b2 (hasS ((ro, me, fl, ho, ec, bk), Ls) z)))]) kv_X1_refusalOfStack_84 dX1_refusalOfStack_2 rfl rfl (Nat.le_of_ble_eq_true rfl) (Nat.le_of_ble_eq_true rfl) (x_rv mO fO rfl) rfl rfl (c_X1_hasSheet hB0 hz) rfl (fun h9 e9 => ?_)
  rw [show h9 = h from e9]
  refine i_ifeqb dX1_refusalOfStack_5 (tgt := 16) (by decide) (fun c5 => ?_) (fun c5 => ?_)
  · refine r_gets (gk_R hGK 1 (by decide)) kg_X1_88 dX1_refusalOfStack_16 ?_
    refine r_areturn rfl dX1_refusalOfStack_19 ?_
    have e : rStack ((ro, me, fl, ho, ec, bk), Ls) z y = 1 := by
      unfold rStack
      try dsimp only
      try simp only [c5, if_true, if_false, Bool.false_eq_true]
      all_goals (repeat' split) <;> first | rfl | omega | (exfalso; omega) | (exfalso; simp_all; try omega)
    rw [e]
    exact ⟨rfl, rfl⟩
  · refine r_aload_n dX1_refusalOfStack_8 0 rfl ?_
    refine r_iload_n dX1_refusalOfStack_9 2 rfl ?_
    refine p_callV (As := [.int (iI y)]) (b := o) (rest := []) (w := (some (.int (iI (b2 (hasS ((ro, me, fl, ho, ec, bk), Ls) y)))))) (st' := [.int (iI (b2 (hasS ((ro, me, fl, ho, ec, bk), Ls) y)))]) kv_X1_refusalOfStack_84 dX1_refusalOfStack_10 rfl rfl (Nat.le_of_ble_eq_true rfl) (Nat.le_of_ble_eq_true rfl) (x_rv mO fO rfl) rfl rfl (c_X1_hasSheet hB0 hy) rfl (fun h9 e9 => ?_)
    rw [show h9 = h from e9]
    refine i_ifneb dX1_refusalOfStack_13 (tgt := 20) (by decide) (fun c13 => ?_) (fun c13 => ?_)
    · refine r_iload_n dX1_refusalOfStack_20 1 rfl ?_
      refine r_iload_n dX1_refusalOfStack_21 2 rfl ?_
      refine i_icmpne dX1_refusalOfStack_22 (tgt := 29) (by decide) (by first | assumption | (unfold in32; omega) | (unfold in32; split <;> omega)) (by first | assumption | (unfold in32; omega) | (unfold in32; split <;> omega)) (fun c22 => ?_) (fun c22 => ?_)
      · obtain ⟨hz0, hz1⟩ := hasS_t c5
        have hz1 : z < (Ls.length : Int) := hz1
        obtain ⟨i, rfl⟩ : ∃ i : Nat, z = (i : Int) := ⟨z.toNat, by omega⟩
        obtain ⟨hy0, hy1⟩ := hasS_t c13
        have hy1 : y < (Ls.length : Int) := hy1
        obtain ⟨j, rfl⟩ : ∃ j : Nat, y = (j : Int) := ⟨y.toNat, by omega⟩
        have hi : i < Ls.length := (by omega)
        have hi6 : i < 6 := by omega
        obtain ⟨a, t, b, hbs⟩ : ∃ a t b, bs i = (a, t, b) := ⟨_, _, _, rfl⟩
        have hgi : g i = some a := by rw [(hK i hi6).1, hbs]
        obtain ⟨s, hs⟩ : ∃ s, s = Ls.getD i dS := ⟨_, rfl⟩
        have hS : SH G h a t b s := by have z := (hK i hi6).2; rw [hbs, hLF i hi, ← hs] at z; exact z
        have hW : WS s := by rw [hs]; exact hWs _ (getD_memS hi)
        obtain ⟨l, ex, wa, fo, du, se, co⟩ := s
        have hS0 := hS
        obtain ⟨gt, gb, ⟨ma, mt, mb⟩, ⟨nta, nba, ntb⟩, fa, ft, fb, hl, hr⟩ := hS
        have hl : l.length ≤ 200 := hl
        have hr : sr gt gb l := hr
        have fa : h.2 a = .inr (5, [.ref t, .ref b, .int (iI (l.length : Int)), .int (iI ex), .int fo, .int (iI wa), .int (iI (b2 du)), .int (iI (b2 se)), .int (iI (b2 co))]) := fa
        have hW0 := hW
        obtain ⟨h1, hnz, h4, hw0, hw1⟩ := hW
        have h1 : 1 ≤ l.length := h1
        have h4 : hgt l ≤ 4000 := h4
        have hw0 : 0 ≤ wa := hw0
        have hw1 : wa ≤ 40 := hw1
        have hnz : ∀ x ∈ l, x ≠ 0 := hnz
        have hg0 := hgt_nn l
        have hgl := hgt_ge l hnz
        have noa : o ≠ a := ne_oo fO fa (by decide)
        have not : o ≠ t := ne_oi fO ft
        have nob : o ≠ b := ne_oi fO fb
        have nAa : A ≠ a := (ne_oi fa fA).symm
        have nAt : A ≠ t := ne_sz fA ft (by decide)
        have nAb : A ≠ b := ne_sz fA fb (by decide)
        have hi' : j < Ls.length := (by omega)
        have hi6' : j < 6 := by omega
        obtain ⟨a', t', b', hbs'⟩ : ∃ a t b, bs j = (a, t, b) := ⟨_, _, _, rfl⟩
        have hgi' : g j = some a' := by rw [(hK j hi6').1, hbs']
        obtain ⟨s', hs'⟩ : ∃ s, s = Ls.getD j dS := ⟨_, rfl⟩
        have hS' : SH G h a' t' b' s' := by have z := (hK j hi6').2; rw [hbs', hLF j hi', ← hs'] at z; exact z
        have hW' : WS s' := by rw [hs']; exact hWs _ (getD_memS hi')
        obtain ⟨l', ex', wa', fo', du', se', co'⟩ := s'
        have hS0' := hS'
        obtain ⟨gt', gb', ⟨ma', mt', mb'⟩, ⟨nta', nba', ntb'⟩, fa', ft', fb', hl', hr'⟩ := hS'
        have hl' : l'.length ≤ 200 := hl'
        have hr' : sr gt' gb' l' := hr'
        have fa' : h.2 a' = .inr (5, [.ref t', .ref b', .int (iI (l'.length : Int)), .int (iI ex'), .int fo', .int (iI wa'), .int (iI (b2 du')), .int (iI (b2 se')), .int (iI (b2 co'))]) := fa'
        have hW0'' := hW'
        obtain ⟨h1', hnz', h4', hw0', hw1'⟩ := hW'
        have h1' : 1 ≤ l'.length := h1'
        have h4' : hgt l' ≤ 4000 := h4'
        have hw0' : 0 ≤ wa' := hw0'
        have hw1' : wa' ≤ 40 := hw1'
        have hnz' : ∀ x ∈ l', x ≠ 0 := hnz'
        have hg0' := hgt_nn l'
        have hgl' := hgt_ge l' hnz'
        have noa' : o ≠ a' := ne_oo fO fa' (by decide)
        have not' : o ≠ t' := ne_oi fO ft'
        have nob' : o ≠ b' := ne_oi fO fb'
        have nAa' : A ≠ a' := (ne_oi fa' fA).symm
        have nAt' : A ≠ t' := ne_sz fA ft' (by decide)
        have nAb' : A ≠ b' := ne_sz fA fb' (by decide)
        refine r_aload_n dX1_refusalOfStack_29 0 rfl ?_
        refine r_get cl_X1 0 (by decide) kf_X1_11 dX1_refusalOfStack_30 mO fO rfl ?_
        refine r_iload_n dX1_refusalOfStack_33 1 rfl ?_
        refine i_aald rfl i rfl dX1_refusalOfStack_34 mA fA (by omega) (by decide) hgi ?_
        refine r_astore_n (ls' := [(0, .ref o), (1, .int (iI ((i : Int)))), (2, .int (iI ((j : Int)))), (3, .ref a)]) dX1_refusalOfStack_35 (by decide) rfl ?_
        refine r_aload_n dX1_refusalOfStack_36 0 rfl ?_
        refine r_get cl_X1 0 (by decide) kf_X1_11 dX1_refusalOfStack_37 mO fO rfl ?_
        refine r_iload_n dX1_refusalOfStack_40 2 rfl ?_
        refine i_aald rfl j rfl dX1_refusalOfStack_41 mA fA (by omega) (by decide) hgi' ?_
        refine r_astore (ls' := [(0, .ref o), (1, .int (iI ((i : Int)))), (2, .int (iI ((j : Int)))), (3, .ref a), (4, .ref a')]) dX1_refusalOfStack_42 (by decide) rfl ?_
        refine r_aload_n dX1_refusalOfStack_44 3 rfl ?_
        refine r_aload dX1_refusalOfStack_45 4 rfl ?_
        refine p_callV (As := [.ref a']) (b := a) (rest := []) (w := (some (.int (iI ((l.length : Int) + (l'.length : Int) - (if jW (l, ex, wa, fo, du, se, co) (l', ex', wa', fo', du', se', co') then 1 else 0)))))) (st' := [.int (iI ((l.length : Int) + (l'.length : Int) - (if jW (l, ex, wa, fo, du, se, co) (l', ex', wa', fo', du', se', co') then 1 else 0)))]) kv_X1_refusalOfStack_134 dX1_refusalOfStack_47 rfl rfl (Nat.le_of_ble_eq_true rfl) (Nat.le_of_ble_eq_true rfl) (x_rv ma fa rfl) rfl rfl (c_X8_layersWith hS0 hS0') rfl (fun h9 e9 => ?_)
        rw [show h9 = h from e9]
        refine i_sipush (200) (by decide) dX1_refusalOfStack_50 ?_
        refine i_icmple dX1_refusalOfStack_53 (tgt := 60) (by decide) (by first | assumption | (unfold in32; omega) | (unfold in32; split <;> omega)) ⟨by decide, by decide⟩ (fun c53 => ?_) (fun c53 => ?_)
        · refine i_const (0) dX1_refusalOfStack_60 ?_
          refine r_istore (ls' := [(0, .ref o), (1, .int (iI ((i : Int)))), (2, .int (iI ((j : Int)))), (3, .ref a), (4, .ref a'), (5, .int (iI 0))]) dX1_refusalOfStack_61 (by decide) rfl ?_
          refine r_aload_n dX1_refusalOfStack_63 3 rfl ?_
          refine p_callV (As := []) (b := a) (rest := []) (w := (some (.int (iI (hgt l))))) (st' := [.int (iI (hgt l))]) kv_X1_refusalOfStack_138 dX1_refusalOfStack_64 rfl rfl (Nat.le_of_ble_eq_true rfl) (Nat.le_of_ble_eq_true rfl) (x_rv ma fa rfl) rfl rfl (c_X8_totalHeight hS0) rfl (fun h9 e9 => ?_)
          rw [show h9 = h from e9]
          refine r_aload dX1_refusalOfStack_67 4 rfl ?_
          refine p_callV (As := []) (b := a') (rest := [.int (iI (hgt l))]) (w := (some (.int (iI (hgt l'))))) (st' := [.int (iI (hgt l')), .int (iI (hgt l))]) kv_X1_refusalOfStack_138 dX1_refusalOfStack_69 rfl rfl (Nat.le_of_ble_eq_true rfl) (Nat.le_of_ble_eq_true rfl) (x_rv ma' fa' rfl) rfl rfl (c_X8_totalHeight hS0') rfl (fun h9 e9 => ?_)
          rw [show h9 = h from e9]
          refine i_add dX1_refusalOfStack_72 ?_
          refine i_sipush (4000) (by decide) dX1_refusalOfStack_73 ?_
          refine i_icmple dX1_refusalOfStack_76 (tgt := 83) (by decide) (by first | assumption | (unfold in32; omega) | (unfold in32; split <;> omega)) ⟨by decide, by decide⟩ (fun c76 => ?_) (fun c76 => ?_)
          · refine i_const (0) dX1_refusalOfStack_83 ?_
            refine r_istore (ls' := [(0, .ref o), (1, .int (iI ((i : Int)))), (2, .int (iI ((j : Int)))), (3, .ref a), (4, .ref a'), (5, .int (iI 0)), (6, .int (iI 0))]) dX1_refusalOfStack_84 (by decide) rfl ?_
            refine r_aload_n dX1_refusalOfStack_86 3 rfl ?_
            refine r_get cl_X8 8 (by decide) kf_X1_72 dX1_refusalOfStack_87 ma fa rfl ?_
            refine i_ifneb dX1_refusalOfStack_90 (tgt := 111) (by decide) (fun c90 => ?_) (fun c90 => ?_)
            · refine i_const (1) dX1_refusalOfStack_111 ?_
              refine r_goto dX1_refusalOfStack_112 (tgt := 116) (by decide) ?_
              refine p_callS (As := [.int (iI 1)]) (rest := []) (w := (some (.ref (K.1 3)))) (st' := [.ref (K.1 3)]) kv_X1_refusalOfStack_101 dX1_refusalOfStack_116 rfl rfl (Nat.le_of_ble_eq_true rfl) (Nat.le_of_ble_eq_true rfl) rfl rfl (c_X1_stateRefusal hGK (c := true)) rfl (fun h9 e9 => ?_)
              rw [show h9 = h from e9]
              refine r_areturn rfl dX1_refusalOfStack_119 ?_
              have e : rStack ((ro, me, fl, ho, ec, bk), Ls) (i : Int) (j : Int) = 3 := by
                have hs2 : sAt ((ro, me, fl, ho, ec, bk), Ls) (i : Int) = (l, ex, wa, fo, du, se, co) := hs.symm
                have hs3 : sAt ((ro, me, fl, ho, ec, bk), Ls) (j : Int) = (l', ex', wa', fo', du', se', co') := hs'.symm
                unfold rStack
                rw [hs2, hs3]
                unfold rStackS
                try dsimp only
                try simp only [c5, c13, c22, c53, c76, c90, if_true, if_false, Bool.false_eq_true]
                all_goals (repeat' split) <;> first | rfl | omega | (exfalso; omega) | (exfalso; simp_all; try omega)
              rw [e]
              exact ⟨rfl, rfl⟩
            · refine r_aload dX1_refusalOfStack_93 4 rfl ?_
              refine r_get cl_X8 8 (by decide) kf_X1_72 dX1_refusalOfStack_95 ma' fa' rfl ?_
              refine i_ifneb dX1_refusalOfStack_98 (tgt := 111) (by decide) (fun c98 => ?_) (fun c98 => ?_)
              · refine i_const (1) dX1_refusalOfStack_111 ?_
                refine r_goto dX1_refusalOfStack_112 (tgt := 116) (by decide) ?_
                refine p_callS (As := [.int (iI 1)]) (rest := []) (w := (some (.ref (K.1 3)))) (st' := [.ref (K.1 3)]) kv_X1_refusalOfStack_101 dX1_refusalOfStack_116 rfl rfl (Nat.le_of_ble_eq_true rfl) (Nat.le_of_ble_eq_true rfl) rfl rfl (c_X1_stateRefusal hGK (c := true)) rfl (fun h9 e9 => ?_)
                rw [show h9 = h from e9]
                refine r_areturn rfl dX1_refusalOfStack_119 ?_
                have e : rStack ((ro, me, fl, ho, ec, bk), Ls) (i : Int) (j : Int) = 3 := by
                  have hs2 : sAt ((ro, me, fl, ho, ec, bk), Ls) (i : Int) = (l, ex, wa, fo, du, se, co) := hs.symm
                  have hs3 : sAt ((ro, me, fl, ho, ec, bk), Ls) (j : Int) = (l', ex', wa', fo', du', se', co') := hs'.symm
                  unfold rStack
                  rw [hs2, hs3]
                  unfold rStackS
                  try dsimp only
                  try simp only [c5, c13, c22, c53, c76, c90, c98, if_true, if_false, Bool.false_eq_true]
                  all_goals (repeat' split) <;> first | rfl | omega | (exfalso; omega) | (exfalso; simp_all; try omega)
                rw [e]
                exact ⟨rfl, rfl⟩
              · refine r_iload dX1_refusalOfStack_101 5 rfl ?_
                refine i_ifne dX1_refusalOfStack_103 (tgt := 111) (by decide) ⟨by decide, by decide⟩ (fun c => absurd c (by decide)) (fun _ => ?_)
                refine r_iload dX1_refusalOfStack_106 6 rfl ?_
                refine i_ifeq dX1_refusalOfStack_108 (tgt := 115) (by decide) ⟨by decide, by decide⟩ (fun _ => ?_) (fun c => absurd c (by decide))
                refine i_const (0) dX1_refusalOfStack_115 ?_
                refine p_callS (As := [.int (iI 0)]) (rest := []) (w := (some (.ref (K.1 0)))) (st' := [.ref (K.1 0)]) kv_X1_refusalOfStack_101 dX1_refusalOfStack_116 rfl rfl (Nat.le_of_ble_eq_true rfl) (Nat.le_of_ble_eq_true rfl) rfl rfl (c_X1_stateRefusal hGK (c := false)) rfl (fun h9 e9 => ?_)
                rw [show h9 = h from e9]
                refine r_areturn rfl dX1_refusalOfStack_119 ?_
                have e : rStack ((ro, me, fl, ho, ec, bk), Ls) (i : Int) (j : Int) = 0 := by
                  have hs2 : sAt ((ro, me, fl, ho, ec, bk), Ls) (i : Int) = (l, ex, wa, fo, du, se, co) := hs.symm
                  have hs3 : sAt ((ro, me, fl, ho, ec, bk), Ls) (j : Int) = (l', ex', wa', fo', du', se', co') := hs'.symm
                  unfold rStack
                  rw [hs2, hs3]
                  unfold rStackS
                  try dsimp only
                  try simp only [c5, c13, c22, c53, c76, c90, c98, if_true, if_false, Bool.false_eq_true]
                  all_goals (repeat' split) <;> first | rfl | omega | (exfalso; omega) | (exfalso; simp_all; try omega)
                rw [e]
                exact ⟨rfl, rfl⟩
          · refine i_const (1) dX1_refusalOfStack_79 ?_
            refine r_goto dX1_refusalOfStack_80 (tgt := 84) (by decide) ?_
            refine r_istore (ls' := [(0, .ref o), (1, .int (iI ((i : Int)))), (2, .int (iI ((j : Int)))), (3, .ref a), (4, .ref a'), (5, .int (iI 0)), (6, .int (iI 1))]) dX1_refusalOfStack_84 (by decide) rfl ?_
            refine r_aload_n dX1_refusalOfStack_86 3 rfl ?_
            refine r_get cl_X8 8 (by decide) kf_X1_72 dX1_refusalOfStack_87 ma fa rfl ?_
            refine i_ifneb dX1_refusalOfStack_90 (tgt := 111) (by decide) (fun c90 => ?_) (fun c90 => ?_)
            · refine i_const (1) dX1_refusalOfStack_111 ?_
              refine r_goto dX1_refusalOfStack_112 (tgt := 116) (by decide) ?_
              refine p_callS (As := [.int (iI 1)]) (rest := []) (w := (some (.ref (K.1 3)))) (st' := [.ref (K.1 3)]) kv_X1_refusalOfStack_101 dX1_refusalOfStack_116 rfl rfl (Nat.le_of_ble_eq_true rfl) (Nat.le_of_ble_eq_true rfl) rfl rfl (c_X1_stateRefusal hGK (c := true)) rfl (fun h9 e9 => ?_)
              rw [show h9 = h from e9]
              refine r_areturn rfl dX1_refusalOfStack_119 ?_
              have e : rStack ((ro, me, fl, ho, ec, bk), Ls) (i : Int) (j : Int) = 3 := by
                have hs2 : sAt ((ro, me, fl, ho, ec, bk), Ls) (i : Int) = (l, ex, wa, fo, du, se, co) := hs.symm
                have hs3 : sAt ((ro, me, fl, ho, ec, bk), Ls) (j : Int) = (l', ex', wa', fo', du', se', co') := hs'.symm
                unfold rStack
                rw [hs2, hs3]
                unfold rStackS
                try dsimp only
                try simp only [c5, c13, c22, c53, c76, c90, if_true, if_false, Bool.false_eq_true]
                all_goals (repeat' split) <;> first | rfl | omega | (exfalso; omega) | (exfalso; simp_all; try omega)
              rw [e]
              exact ⟨rfl, rfl⟩
            · refine r_aload dX1_refusalOfStack_93 4 rfl ?_
              refine r_get cl_X8 8 (by decide) kf_X1_72 dX1_refusalOfStack_95 ma' fa' rfl ?_
              refine i_ifneb dX1_refusalOfStack_98 (tgt := 111) (by decide) (fun c98 => ?_) (fun c98 => ?_)
              · refine i_const (1) dX1_refusalOfStack_111 ?_
                refine r_goto dX1_refusalOfStack_112 (tgt := 116) (by decide) ?_
                refine p_callS (As := [.int (iI 1)]) (rest := []) (w := (some (.ref (K.1 3)))) (st' := [.ref (K.1 3)]) kv_X1_refusalOfStack_101 dX1_refusalOfStack_116 rfl rfl (Nat.le_of_ble_eq_true rfl) (Nat.le_of_ble_eq_true rfl) rfl rfl (c_X1_stateRefusal hGK (c := true)) rfl (fun h9 e9 => ?_)
                rw [show h9 = h from e9]
                refine r_areturn rfl dX1_refusalOfStack_119 ?_
                have e : rStack ((ro, me, fl, ho, ec, bk), Ls) (i : Int) (j : Int) = 3 := by
                  have hs2 : sAt ((ro, me, fl, ho, ec, bk), Ls) (i : Int) = (l, ex, wa, fo, du, se, co) := hs.symm
                  have hs3 : sAt ((ro, me, fl, ho, ec, bk), Ls) (j : Int) = (l', ex', wa', fo', du', se', co') := hs'.symm
                  unfold rStack
                  rw [hs2, hs3]
                  unfold rStackS
                  try dsimp only
                  try simp only [c5, c13, c22, c53, c76, c90, c98, if_true, if_false, Bool.false_eq_true]
                  all_goals (repeat' split) <;> first | rfl | omega | (exfalso; omega) | (exfalso; simp_all; try omega)
                rw [e]
                exact ⟨rfl, rfl⟩
              · refine r_iload dX1_refusalOfStack_101 5 rfl ?_
                refine i_ifne dX1_refusalOfStack_103 (tgt := 111) (by decide) ⟨by decide, by decide⟩ (fun c => absurd c (by decide)) (fun _ => ?_)
                refine r_iload dX1_refusalOfStack_106 6 rfl ?_
                refine i_ifeq dX1_refusalOfStack_108 (tgt := 115) (by decide) ⟨by decide, by decide⟩ (fun c => absurd c (by decide)) (fun _ => ?_)
                refine i_const (1) dX1_refusalOfStack_111 ?_
                refine r_goto dX1_refusalOfStack_112 (tgt := 116) (by decide) ?_
                refine p_callS (As := [.int (iI 1)]) (rest := []) (w := (some (.ref (K.1 3)))) (st' := [.ref (K.1 3)]) kv_X1_refusalOfStack_101 dX1_refusalOfStack_116 rfl rfl (Nat.le_of_ble_eq_true rfl) (Nat.le_of_ble_eq_true rfl) rfl rfl (c_X1_stateRefusal hGK (c := true)) rfl (fun h9 e9 => ?_)
                rw [show h9 = h from e9]
                refine r_areturn rfl dX1_refusalOfStack_119 ?_
                have e : rStack ((ro, me, fl, ho, ec, bk), Ls) (i : Int) (j : Int) = 3 := by
                  have hs2 : sAt ((ro, me, fl, ho, ec, bk), Ls) (i : Int) = (l, ex, wa, fo, du, se, co) := hs.symm
                  have hs3 : sAt ((ro, me, fl, ho, ec, bk), Ls) (j : Int) = (l', ex', wa', fo', du', se', co') := hs'.symm
                  unfold rStack
                  rw [hs2, hs3]
                  unfold rStackS
                  try dsimp only
                  try simp only [c5, c13, c22, c53, c76, c90, c98, if_true, if_false, Bool.false_eq_true]
                  all_goals (repeat' split) <;> first | rfl | omega | (exfalso; omega) | (exfalso; simp_all; try omega)
                rw [e]
                exact ⟨rfl, rfl⟩
        · refine i_const (1) dX1_refusalOfStack_56 ?_
          refine r_goto dX1_refusalOfStack_57 (tgt := 61) (by decide) ?_
          refine r_istore (ls' := [(0, .ref o), (1, .int (iI ((i : Int)))), (2, .int (iI ((j : Int)))), (3, .ref a), (4, .ref a'), (5, .int (iI 1))]) dX1_refusalOfStack_61 (by decide) rfl ?_
          refine r_aload_n dX1_refusalOfStack_63 3 rfl ?_
          refine p_callV (As := []) (b := a) (rest := []) (w := (some (.int (iI (hgt l))))) (st' := [.int (iI (hgt l))]) kv_X1_refusalOfStack_138 dX1_refusalOfStack_64 rfl rfl (Nat.le_of_ble_eq_true rfl) (Nat.le_of_ble_eq_true rfl) (x_rv ma fa rfl) rfl rfl (c_X8_totalHeight hS0) rfl (fun h9 e9 => ?_)
          rw [show h9 = h from e9]
          refine r_aload dX1_refusalOfStack_67 4 rfl ?_
          refine p_callV (As := []) (b := a') (rest := [.int (iI (hgt l))]) (w := (some (.int (iI (hgt l'))))) (st' := [.int (iI (hgt l')), .int (iI (hgt l))]) kv_X1_refusalOfStack_138 dX1_refusalOfStack_69 rfl rfl (Nat.le_of_ble_eq_true rfl) (Nat.le_of_ble_eq_true rfl) (x_rv ma' fa' rfl) rfl rfl (c_X8_totalHeight hS0') rfl (fun h9 e9 => ?_)
          rw [show h9 = h from e9]
          refine i_add dX1_refusalOfStack_72 ?_
          refine i_sipush (4000) (by decide) dX1_refusalOfStack_73 ?_
          refine i_icmple dX1_refusalOfStack_76 (tgt := 83) (by decide) (by first | assumption | (unfold in32; omega) | (unfold in32; split <;> omega)) ⟨by decide, by decide⟩ (fun c76 => ?_) (fun c76 => ?_)
          · refine i_const (0) dX1_refusalOfStack_83 ?_
            refine r_istore (ls' := [(0, .ref o), (1, .int (iI ((i : Int)))), (2, .int (iI ((j : Int)))), (3, .ref a), (4, .ref a'), (5, .int (iI 1)), (6, .int (iI 0))]) dX1_refusalOfStack_84 (by decide) rfl ?_
            refine r_aload_n dX1_refusalOfStack_86 3 rfl ?_
            refine r_get cl_X8 8 (by decide) kf_X1_72 dX1_refusalOfStack_87 ma fa rfl ?_
            refine i_ifneb dX1_refusalOfStack_90 (tgt := 111) (by decide) (fun c90 => ?_) (fun c90 => ?_)
            · refine i_const (1) dX1_refusalOfStack_111 ?_
              refine r_goto dX1_refusalOfStack_112 (tgt := 116) (by decide) ?_
              refine p_callS (As := [.int (iI 1)]) (rest := []) (w := (some (.ref (K.1 3)))) (st' := [.ref (K.1 3)]) kv_X1_refusalOfStack_101 dX1_refusalOfStack_116 rfl rfl (Nat.le_of_ble_eq_true rfl) (Nat.le_of_ble_eq_true rfl) rfl rfl (c_X1_stateRefusal hGK (c := true)) rfl (fun h9 e9 => ?_)
              rw [show h9 = h from e9]
              refine r_areturn rfl dX1_refusalOfStack_119 ?_
              have e : rStack ((ro, me, fl, ho, ec, bk), Ls) (i : Int) (j : Int) = 3 := by
                have hs2 : sAt ((ro, me, fl, ho, ec, bk), Ls) (i : Int) = (l, ex, wa, fo, du, se, co) := hs.symm
                have hs3 : sAt ((ro, me, fl, ho, ec, bk), Ls) (j : Int) = (l', ex', wa', fo', du', se', co') := hs'.symm
                unfold rStack
                rw [hs2, hs3]
                unfold rStackS
                try dsimp only
                try simp only [c5, c13, c22, c53, c76, c90, if_true, if_false, Bool.false_eq_true]
                all_goals (repeat' split) <;> first | rfl | omega | (exfalso; omega) | (exfalso; simp_all; try omega)
              rw [e]
              exact ⟨rfl, rfl⟩
            · refine r_aload dX1_refusalOfStack_93 4 rfl ?_
              refine r_get cl_X8 8 (by decide) kf_X1_72 dX1_refusalOfStack_95 ma' fa' rfl ?_
              refine i_ifneb dX1_refusalOfStack_98 (tgt := 111) (by decide) (fun c98 => ?_) (fun c98 => ?_)
              · refine i_const (1) dX1_refusalOfStack_111 ?_
                refine r_goto dX1_refusalOfStack_112 (tgt := 116) (by decide) ?_
                refine p_callS (As := [.int (iI 1)]) (rest := []) (w := (some (.ref (K.1 3)))) (st' := [.ref (K.1 3)]) kv_X1_refusalOfStack_101 dX1_refusalOfStack_116 rfl rfl (Nat.le_of_ble_eq_true rfl) (Nat.le_of_ble_eq_true rfl) rfl rfl (c_X1_stateRefusal hGK (c := true)) rfl (fun h9 e9 => ?_)
                rw [show h9 = h from e9]
                refine r_areturn rfl dX1_refusalOfStack_119 ?_
                have e : rStack ((ro, me, fl, ho, ec, bk), Ls) (i : Int) (j : Int) = 3 := by
                  have hs2 : sAt ((ro, me, fl, ho, ec, bk), Ls) (i : Int) = (l, ex, wa, fo, du, se, co) := hs.symm
                  have hs3 : sAt ((ro, me, fl, ho, ec, bk), Ls) (j : Int) = (l', ex', wa', fo', du', se', co') := hs'.symm
                  unfold rStack
                  rw [hs2, hs3]
                  unfold rStackS
                  try dsimp only
                  try simp only [c5, c13, c22, c53, c76, c90, c98, if_true, if_false, Bool.false_eq_true]
                  all_goals (repeat' split) <;> first | rfl | omega | (exfalso; omega) | (exfalso; simp_all; try omega)
                rw [e]
                exact ⟨rfl, rfl⟩
              · refine r_iload dX1_refusalOfStack_101 5 rfl ?_
                refine i_ifne dX1_refusalOfStack_103 (tgt := 111) (by decide) ⟨by decide, by decide⟩ (fun _ => ?_) (fun c => absurd c (by decide))
                refine i_const (1) dX1_refusalOfStack_111 ?_
                refine r_goto dX1_refusalOfStack_112 (tgt := 116) (by decide) ?_
                refine p_callS (As := [.int (iI 1)]) (rest := []) (w := (some (.ref (K.1 3)))) (st' := [.ref (K.1 3)]) kv_X1_refusalOfStack_101 dX1_refusalOfStack_116 rfl rfl (Nat.le_of_ble_eq_true rfl) (Nat.le_of_ble_eq_true rfl) rfl rfl (c_X1_stateRefusal hGK (c := true)) rfl (fun h9 e9 => ?_)
                rw [show h9 = h from e9]
                refine r_areturn rfl dX1_refusalOfStack_119 ?_
                have e : rStack ((ro, me, fl, ho, ec, bk), Ls) (i : Int) (j : Int) = 3 := by
                  have hs2 : sAt ((ro, me, fl, ho, ec, bk), Ls) (i : Int) = (l, ex, wa, fo, du, se, co) := hs.symm
                  have hs3 : sAt ((ro, me, fl, ho, ec, bk), Ls) (j : Int) = (l', ex', wa', fo', du', se', co') := hs'.symm
                  unfold rStack
                  rw [hs2, hs3]
                  unfold rStackS
                  try dsimp only
                  try simp only [c5, c13, c22, c53, c76, c90, c98, if_true, if_false, Bool.false_eq_true]
                  all_goals (repeat' split) <;> first | rfl | omega | (exfalso; omega) | (exfalso; simp_all; try omega)
                rw [e]
                exact ⟨rfl, rfl⟩
          · refine i_const (1) dX1_refusalOfStack_79 ?_
            refine r_goto dX1_refusalOfStack_80 (tgt := 84) (by decide) ?_
            refine r_istore (ls' := [(0, .ref o), (1, .int (iI ((i : Int)))), (2, .int (iI ((j : Int)))), (3, .ref a), (4, .ref a'), (5, .int (iI 1)), (6, .int (iI 1))]) dX1_refusalOfStack_84 (by decide) rfl ?_
            refine r_aload_n dX1_refusalOfStack_86 3 rfl ?_
            refine r_get cl_X8 8 (by decide) kf_X1_72 dX1_refusalOfStack_87 ma fa rfl ?_
            refine i_ifneb dX1_refusalOfStack_90 (tgt := 111) (by decide) (fun c90 => ?_) (fun c90 => ?_)
            · refine i_const (1) dX1_refusalOfStack_111 ?_
              refine r_goto dX1_refusalOfStack_112 (tgt := 116) (by decide) ?_
              refine p_callS (As := [.int (iI 1)]) (rest := []) (w := (some (.ref (K.1 3)))) (st' := [.ref (K.1 3)]) kv_X1_refusalOfStack_101 dX1_refusalOfStack_116 rfl rfl (Nat.le_of_ble_eq_true rfl) (Nat.le_of_ble_eq_true rfl) rfl rfl (c_X1_stateRefusal hGK (c := true)) rfl (fun h9 e9 => ?_)
              rw [show h9 = h from e9]
              refine r_areturn rfl dX1_refusalOfStack_119 ?_
              have e : rStack ((ro, me, fl, ho, ec, bk), Ls) (i : Int) (j : Int) = 3 := by
                have hs2 : sAt ((ro, me, fl, ho, ec, bk), Ls) (i : Int) = (l, ex, wa, fo, du, se, co) := hs.symm
                have hs3 : sAt ((ro, me, fl, ho, ec, bk), Ls) (j : Int) = (l', ex', wa', fo', du', se', co') := hs'.symm
                unfold rStack
                rw [hs2, hs3]
                unfold rStackS
                try dsimp only
                try simp only [c5, c13, c22, c53, c76, c90, if_true, if_false, Bool.false_eq_true]
                all_goals (repeat' split) <;> first | rfl | omega | (exfalso; omega) | (exfalso; simp_all; try omega)
              rw [e]
              exact ⟨rfl, rfl⟩
            · refine r_aload dX1_refusalOfStack_93 4 rfl ?_
              refine r_get cl_X8 8 (by decide) kf_X1_72 dX1_refusalOfStack_95 ma' fa' rfl ?_
              refine i_ifneb dX1_refusalOfStack_98 (tgt := 111) (by decide) (fun c98 => ?_) (fun c98 => ?_)
              · refine i_const (1) dX1_refusalOfStack_111 ?_
                refine r_goto dX1_refusalOfStack_112 (tgt := 116) (by decide) ?_
                refine p_callS (As := [.int (iI 1)]) (rest := []) (w := (some (.ref (K.1 3)))) (st' := [.ref (K.1 3)]) kv_X1_refusalOfStack_101 dX1_refusalOfStack_116 rfl rfl (Nat.le_of_ble_eq_true rfl) (Nat.le_of_ble_eq_true rfl) rfl rfl (c_X1_stateRefusal hGK (c := true)) rfl (fun h9 e9 => ?_)
                rw [show h9 = h from e9]
                refine r_areturn rfl dX1_refusalOfStack_119 ?_
                have e : rStack ((ro, me, fl, ho, ec, bk), Ls) (i : Int) (j : Int) = 3 := by
                  have hs2 : sAt ((ro, me, fl, ho, ec, bk), Ls) (i : Int) = (l, ex, wa, fo, du, se, co) := hs.symm
                  have hs3 : sAt ((ro, me, fl, ho, ec, bk), Ls) (j : Int) = (l', ex', wa', fo', du', se', co') := hs'.symm
                  unfold rStack
                  rw [hs2, hs3]
                  unfold rStackS
                  try dsimp only
                  try simp only [c5, c13, c22, c53, c76, c90, c98, if_true, if_false, Bool.false_eq_true]
                  all_goals (repeat' split) <;> first | rfl | omega | (exfalso; omega) | (exfalso; simp_all; try omega)
                rw [e]
                exact ⟨rfl, rfl⟩
              · refine r_iload dX1_refusalOfStack_101 5 rfl ?_
                refine i_ifne dX1_refusalOfStack_103 (tgt := 111) (by decide) ⟨by decide, by decide⟩ (fun _ => ?_) (fun c => absurd c (by decide))
                refine i_const (1) dX1_refusalOfStack_111 ?_
                refine r_goto dX1_refusalOfStack_112 (tgt := 116) (by decide) ?_
                refine p_callS (As := [.int (iI 1)]) (rest := []) (w := (some (.ref (K.1 3)))) (st' := [.ref (K.1 3)]) kv_X1_refusalOfStack_101 dX1_refusalOfStack_116 rfl rfl (Nat.le_of_ble_eq_true rfl) (Nat.le_of_ble_eq_true rfl) rfl rfl (c_X1_stateRefusal hGK (c := true)) rfl (fun h9 e9 => ?_)
                rw [show h9 = h from e9]
                refine r_areturn rfl dX1_refusalOfStack_119 ?_
                have e : rStack ((ro, me, fl, ho, ec, bk), Ls) (i : Int) (j : Int) = 3 := by
                  have hs2 : sAt ((ro, me, fl, ho, ec, bk), Ls) (i : Int) = (l, ex, wa, fo, du, se, co) := hs.symm
                  have hs3 : sAt ((ro, me, fl, ho, ec, bk), Ls) (j : Int) = (l', ex', wa', fo', du', se', co') := hs'.symm
                  unfold rStack
                  rw [hs2, hs3]
                  unfold rStackS
                  try dsimp only
                  try simp only [c5, c13, c22, c53, c76, c90, c98, if_true, if_false, Bool.false_eq_true]
                  all_goals (repeat' split) <;> first | rfl | omega | (exfalso; omega) | (exfalso; simp_all; try omega)
                rw [e]
                exact ⟨rfl, rfl⟩
      · refine r_gets (gk_R hGK 2 (by decide)) kg_X1_94 dX1_refusalOfStack_25 ?_
        refine r_areturn rfl dX1_refusalOfStack_28 ?_
        have e : rStack ((ro, me, fl, ho, ec, bk), Ls) z y = 2 := by
          unfold rStack
          try dsimp only
          try simp only [c5, c13, c22, if_true, if_false, Bool.false_eq_true]
          all_goals (repeat' split) <;> first | rfl | omega | (exfalso; omega) | (exfalso; simp_all; try omega)
        rw [e]
        exact ⟨rfl, rfl⟩
    · refine r_gets (gk_R hGK 1 (by decide)) kg_X1_88 dX1_refusalOfStack_16 ?_
      refine r_areturn rfl dX1_refusalOfStack_19 ?_
      have e : rStack ((ro, me, fl, ho, ec, bk), Ls) z y = 1 := by
        unfold rStack
        try dsimp only
        try simp only [c5, c13, if_true, if_false, Bool.false_eq_true]
        all_goals (repeat' split) <;> first | rfl | omega | (exfalso; omega) | (exfalso; simp_all; try omega)
      rw [e]
      exact ⟨rfl, rfl⟩
set_option maxRecDepth 20000 in
set_option maxHeartbeats 1000000 in
theorem c_X1_applyHours {G : xG} {h : xH} {o A : Nat} {fp : List Nat} {B : AB} (hB : BN G h o A fp B) (hWB : WB B) {K : xK} (hGK : GK G K) {n : Nat} (hn : 1 ≤ n ∧ n ≤ 24) (hhn : B.1.2.2.2.1 + (n : Int) ≤ 9999) : CC G MX1_applyHours [.ref o, .int (iI (n : Int))] h (fun o' h' => o' = .inl (some (.int (iI (cnt (unsafeS B.1.2.1) (B.2.map (hrS B.1.1 n)))))) ∧ BN G h' o A fp (aHours B n) ∧ FRp fp h h') := by
  have hG := gk_D hGK
  have hWB0 := hWB
  obtain ⟨⟨ro, me, fl, ho, ec, bk⟩, Ls⟩ := B
  have hhn : ho + (n : Int) ≤ 9999 := hhn
  obtain ⟨hWs, hro, hme, hfl, hho⟩ := hWB
  have hro : 0 ≤ ro ∧ ro ≤ 40 := hro
  have hme : 5 ≤ me ∧ me ≤ 35 := hme
  have hfl : 0 ≤ fl ∧ fl ≤ 999 := hfl
  have hho : 0 ≤ ho ∧ ho ≤ 9999 := hho
  have hWs : ∀ s ∈ Ls, WS s := hWs
  have hho9 : 0 ≤ ho + (n : Int) ∧ ho + (n : Int) ≤ 9999 := by omega
  have hL6 : Ls.length ≤ 6 := by obtain ⟨g, bs, F, x⟩ := hB; exact x.2.2.2.1
  have L : ∀ i, i ≤ Ls.length → ∀ (hh : xH), BN G hh o A fp ((ro, me, fl, ho, ec, bk), hrL ro n i Ls) → FRp fp h hh → RR G MX1_applyHours 2 [(0, .ref o), (1, .int (iI ((n : Int)))), (2, .int (iI ((i : Int))))] [] hh (xm_R MX1_applyHours).cells (xm_R MX1_applyHours).slots (fun o' h' => o' = .inl (some (.int (iI (cnt (unsafeS me) (Ls.map (hrS ro n)))))) ∧ BN G h' o A fp (aHours ((ro, me, fl, ho, ec, bk), Ls) n) ∧ FRp fp h h') := by
    refine down (fun i hi ih => ?_)
    intro hh hB9 hF
    obtain ⟨Lx, hLx⟩ : ∃ L, L = hrL ro n i Ls := ⟨_, rfl⟩
    rw [← hLx] at hB9
    have hlx : Lx.length = Ls.length := by rw [hLx, hrL_len]
    have hB09 := hB9
    obtain ⟨g, bs, F, hBo⟩ := hB9
    have hBo0 := hBo
    obtain ⟨⟨mO, mA⟩, fO, fA, hL6, hLF, hK, hD, hfp⟩ := hBo
    have hL6 : Lx.length ≤ 6 := hL6
    have hLF : ∀ i, i < Lx.length → F i = Lx.getD i dS := hLF
    have fO : hh.2 o = .inr (0, [.ref A, .int (iI (Lx.length : Int)), .int (iI ro), .int (iI me), .int (iI fl), .int (iI ho), .int (iI ec), .int (iI bk)]) := fO
    have nOA : o ≠ A := ne_oi fO fA
    refine r_iload_n dX1_applyHours_2 2 rfl ?_
    refine r_aload_n dX1_applyHours_3 0 rfl ?_
    refine r_get cl_X1 1 (by decide) kf_X1_31 dX1_applyHours_4 mO fO rfl ?_
    refine i_icmpge dX1_applyHours_7 (tgt := 39) (by decide) (by unfold in32; omega) (by unfold in32; omega) (fun c7 => ?_) (fun c7 => ?_)
    · refine r_aload_n dX1_applyHours_39 0 rfl ?_
      refine r_dup dX1_applyHours_40 rfl ?_
      refine r_get cl_X1 5 (by decide) kf_X1_44 dX1_applyHours_41 mO fO rfl ?_
      refine r_iload_n dX1_applyHours_44 1 rfl ?_
      refine i_add dX1_applyHours_45 ?_
      refine i_put [.ref A, .int (iI ((Lx.length : Int))), .int (iI ro), .int (iI me), .int (iI fl), .int (iI (ho + (n : Int))), .int (iI ec), .int (iI bk)] cl_X1 5 (by decide) kf_X1_44 rfl dX1_applyHours_46 mO fO rfl rfl (by simp) rfl (fun h1 e0_1 e1_1 e2_1 => ?_)
      have mo_1 : o ∈ h1.1 := by rw [e0_1]; exact mO
      have mA_1 : A ∈ h1.1 := by rw [e0_1]; exact mA
      have fA_1 := (e2_1 _ (Ne.symm nOA)).trans fA
      refine r_aload_n dX1_applyHours_49 0 rfl ?_
      have hR := hBo0.hd (B' := ((ro, me, fl, ho + (n : Int), ec, bk), Lx)) e0_1 e2_1 e1_1 hL6 hLF
      have ei : Lx = Ls.map (hrS ro n) := by rw [hLx, show i = Ls.length by omega, hrL_all]
      rw [ei] at hR
      have hWB9 : WB ((ro, me, fl, ho + (n : Int), ec, bk), Ls.map (hrS ro n)) := ⟨fun x hx => by obtain ⟨s0, h8, rfl⟩ := List.mem_map.mp hx; exact (hWs s0 h8).hr hro, hro, hme, hfl, hho9⟩
      refine p_callV (As := []) (b := o) (rest := []) (w := (some (.int (iI (cnt (unsafeS me) (Ls.map (hrS ro n))))))) (st' := [.int (iI (cnt (unsafeS me) (Ls.map (hrS ro n))))]) kv_X1_applyHours_131 dX1_applyHours_50 rfl rfl (Nat.le_of_ble_eq_true rfl) (Nat.le_of_ble_eq_true rfl) (x_rv mo_1 e1_1 rfl) rfl rfl (c_X1_countUnsafe hR.1 hWB9) rfl (fun h9 e9 => ?_)
      rw [show h9 = h1 from e9]
      refine r_ireturn rfl rfl dX1_applyHours_53 ?_
      exact ⟨rfl, hR.1, FRp.tr hF hR.2⟩
    · have hi9 : i < Ls.length := by omega
      have hgx : Lx.getD i dS = Ls.getD i dS := by rw [hLx, hrL_get hi9]
      have hi : i < Lx.length := (by omega)
      have hi6 : i < 6 := by omega
      obtain ⟨a, t, b, hbs⟩ : ∃ a t b, bs i = (a, t, b) := ⟨_, _, _, rfl⟩
      have hgi : g i = some a := by rw [(hK i hi6).1, hbs]
      obtain ⟨s, hs⟩ : ∃ s, s = Lx.getD i dS := ⟨_, rfl⟩
      have hS : SH G hh a t b s := by have z := (hK i hi6).2; rw [hbs, hLF i hi, ← hs] at z; exact z
      obtain ⟨l, ex, wa, fo, du, se, co⟩ := s
      have hS0 := hS
      obtain ⟨gt, gb, ⟨ma, mt, mb⟩, ⟨nta, nba, ntb⟩, fa, ft, fb, hl, hr⟩ := hS
      have hl : l.length ≤ 200 := hl
      have hr : sr gt gb l := hr
      have fa : hh.2 a = .inr (5, [.ref t, .ref b, .int (iI (l.length : Int)), .int (iI ex), .int fo, .int (iI wa), .int (iI (b2 du)), .int (iI (b2 se)), .int (iI (b2 co))]) := fa
      have noa : o ≠ a := ne_oo fO fa (by decide)
      have not : o ≠ t := ne_oi fO ft
      have nob : o ≠ b := ne_oi fO fb
      have nAa : A ≠ a := (ne_oi fa fA).symm
      have nAt : A ≠ t := ne_sz fA ft (by decide)
      have nAb : A ≠ b := ne_sz fA fb (by decide)
      have hW : WS (l, ex, wa, fo, du, se, co) := by rw [hs, hgx]; exact hWs _ (getD_memS hi9)
      have hW0 := hW
      obtain ⟨h1, hnz, h4, hw0, hw1⟩ := hW
      have h1 : 1 ≤ l.length := h1
      have h4 : hgt l ≤ 4000 := h4
      have hw0 : 0 ≤ wa := hw0
      have hw1 : wa ≤ 40 := hw1
      have hnz : ∀ x ∈ l, x ≠ 0 := hnz
      have hg0 := hgt_nn l
      have hgl := hgt_ge l hnz
      refine r_aload_n dX1_applyHours_10 0 rfl ?_
      refine r_get cl_X1 0 (by decide) kf_X1_11 dX1_applyHours_11 mO fO rfl ?_
      refine r_iload_n dX1_applyHours_14 2 rfl ?_
      refine i_aald rfl i rfl dX1_applyHours_15 mA fA (by omega) (by decide) hgi ?_
      refine r_aload_n dX1_applyHours_16 0 rfl ?_
      refine r_get cl_X1 0 (by decide) kf_X1_11 dX1_applyHours_17 mO fO rfl ?_
      refine r_iload_n dX1_applyHours_20 2 rfl ?_
      refine i_aald rfl i rfl dX1_applyHours_21 mA fA (by omega) (by decide) hgi ?_
      refine r_iload_n dX1_applyHours_22 1 rfl ?_
      refine r_aload_n dX1_applyHours_23 0 rfl ?_
      refine r_get cl_X1 2 (by decide) kf_X1_35 dX1_applyHours_24 mO fO rfl ?_
      refine p_callV (As := [.int (iI ((n : Int))), .int (iI ro)]) (b := a) (rest := [.ref a]) (w := (some (.int (iI (warmAt (l, ex, wa, fo, du, se, co) ro n))))) (st' := [.int (iI (warmAt (l, ex, wa, fo, du, se, co) ro n)), .ref a]) kv_X1_applyHours_128 dX1_applyHours_27 rfl rfl (Nat.le_of_ble_eq_true rfl) (Nat.le_of_ble_eq_true rfl) (x_rv ma fa rfl) rfl rfl (c_X8_warmthAfter hS0 hW0 hG hro (n := n) (by omega)) rfl (fun h9 e9 => ?_)
      rw [show h9 = hh from e9]
      refine i_put [.ref t, .ref b, .int (iI ((l.length : Int))), .int (iI ex), .int fo, .int (iI (warmAt (l, ex, wa, fo, du, se, co) ro n)), .int (iI (b2 du)), .int (iI (b2 se)), .int (iI (b2 co))] cl_X8 5 (by decide) kf_X1_62 rfl dX1_applyHours_30 ma fa rfl rfl (by simp) rfl (fun h2 e0_2 e1_2 e2_2 => ?_)
      have mo_2 : o ∈ h2.1 := by rw [e0_2]; exact mO
      have fo_2 := (e2_2 _ noa).trans fO
      have mA_2 : A ∈ h2.1 := by rw [e0_2]; exact mA
      have fA_2 := (e2_2 _ nAa).trans fA
      have ma_2 : a ∈ h2.1 := by rw [e0_2]; exact ma
      have mt_2 : t ∈ h2.1 := by rw [e0_2]; exact mt
      have ft_2 := (e2_2 _ nta).trans ft
      have mb_2 : b ∈ h2.1 := by rw [e0_2]; exact mb
      have fb_2 := (e2_2 _ nba).trans fb
      refine i_iinc (ls' := [(0, .ref o), (1, .int (iI ((n : Int)))), (2, .int (iI ((i : Int) + 1)))]) (1) (v := (i : Int) + 1) dX1_applyHours_33 2 rfl (by omega) (by decide) rfl ?_
      refine r_goto dX1_applyHours_36 (tgt := 2) (by decide) ?_
      have hS9 : SH G h2 a t b (l, ex, warmAt (l, ex, wa, fo, du, se, co) ro n, fo, du, se, co) := ⟨gt, gb, ⟨ma_2, mt_2, mb_2⟩, ⟨nta, nba, ntb⟩, e1_2, ft_2, fb_2, hl, hr⟩
      have fO9 : h2.2 o = .inr (0, bf A ((ro, me, fl, ho, ec, bk), Lx.set i (l, ex, warmAt (l, ex, wa, fo, du, se, co) ro n, fo, du, se, co))) := by simp only [bf, List.length_set]; exact fo_2
      have hR := hBo0.mk4 hi6 hbs (FR4.wa e0_2 e2_2) hS9 fO9 (by show (Lx.set i _).length ≤ 6; rw [List.length_set]; exact hL6) (set_getDS hLF hi)
      have e : Lx.set i (l, ex, warmAt (l, ex, wa, fo, du, se, co) ro n, fo, du, se, co) = hrL ro n (i + 1) Ls := by rw [← hrL_s hi9, ← hgx, ← hs, hLx]; rfl
      rw [e] at hR
      exact ih (i + 1) (by omega) (by omega) _ hR.1 (FRp.tr hF hR.2)
  show RR G MX1_applyHours 0 [(0, .ref o), (1, .int (iI ((n : Int))))] [] h (xm_R MX1_applyHours).cells (xm_R MX1_applyHours).slots (fun o' h' => o' = .inl (some (.int (iI (cnt (unsafeS me) (Ls.map (hrS ro n)))))) ∧ BN G h' o A fp (aHours ((ro, me, fl, ho, ec, bk), Ls) n) ∧ FRp fp h h')
  refine i_const (0) dX1_applyHours_0 ?_
  refine r_istore_n (ls' := [(0, .ref o), (1, .int (iI ((n : Int)))), (2, .int (iI 0))]) dX1_applyHours_1 (by decide) rfl ?_
  have hB8 := hB
  rw [← hrL_0 ro n Ls] at hB8
  exact L 0 (by omega) h hB8 FRp.rf
