/-! ===== the bench's changes ===== -/
def hrS (r : Int) (n : Nat) (s : AS) : AS := (s.1, s.2.1, warmAt s r n, s.2.2.2.1, s.2.2.2.2.1, s.2.2.2.2.2.1, s.2.2.2.2.2.2)
def aFold (B : AB) (i n : Nat) : AB := (B.1, B.2.set i (foldS (B.2.getD i dS) n))
def aRoll (B : AB) (i : Nat) (f : Int) : AB := ((B.1.1, B.1.2.1, B.1.2.2.1, B.1.2.2.2.1, B.1.2.2.2.2.1 + sumF (escF (loss (B.2.getD i dS) B.1.2.1)) (B.2.getD i dS).1, B.1.2.2.2.2.2 + (rollR f (loss (B.2.getD i dS) B.1.2.1) (B.2.getD i dS).1 (B.2.getD i dS).1.length).2.1), B.2.set i (rollS (B.2.getD i dS) f B.1.2.1))
def duS (s : AS) : AS := (s.1, s.2.1, s.2.2.1, s.2.2.2.1, true, s.2.2.2.2.2.1, s.2.2.2.2.2.2)
def seS (s : AS) (x : Bool) : AS := (s.1, s.2.1, s.2.2.1, s.2.2.2.1, s.2.2.2.2.1, x, s.2.2.2.2.2.2)
def coS (s : AS) (x : Bool) : AS := (s.1, s.2.1, s.2.2.1, s.2.2.2.1, s.2.2.2.2.1, s.2.2.2.2.2.1, x)
def aDust (B : AB) (i : Nat) : AB := ((B.1.1, B.1.2.1, B.1.2.2.1 - 1, B.1.2.2.2.1, B.1.2.2.2.2.1, B.1.2.2.2.2.2), B.2.set i (duS (B.2.getD i dS)))
def aSeal (B : AB) (i : Nat) : AB := (B.1, B.2.set i (seS (B.2.getD i dS) true))
def aCool (B : AB) (i : Nat) : AB := (B.1, B.2.set i (coS (B.2.getD i dS) true))
def aTake (B : AB) (i : Nat) : AB := (B.1, B.2.set i (coS (B.2.getD i dS) false))
def aHours (B : AB) (n : Nat) : AB := ((B.1.1, B.1.2.1, B.1.2.2.1, B.1.2.2.2.1 + (n : Int), B.1.2.2.2.2.1, B.1.2.2.2.2.2), B.2.map (hrS B.1.1 n))
def aCut (B : AB) (i : Nat) : AB := (B.1, B.2.set i (seS (B.2.getD i dS) false) ++ [seS (B.2.getD i dS) false])
def aStack (B : AB) (i j : Nat) : AB := (B.1, (B.2.set i (carryS (B.2.getD i dS) (B.2.getD j dS))).eraseIdx j)
def aBut (B : AB) (i : Nat) (T : Int) : AB := (B.1, B.2.set i (butS (B.2.getD i dS) T))
def aFlour (B : AB) (n : Int) : AB := ((B.1.1, B.1.2.1, B.1.2.2.1 + n, B.1.2.2.2.1, B.1.2.2.2.2.1, B.1.2.2.2.2.2), B.2)
set_option maxRecDepth 20000 in
set_option maxHeartbeats 1000000 in
theorem c_X1_applyFold {G : xG} {h : xH} {o A : Nat} {fp : List Nat} {B : AB} (hB : BN G h o A fp B) (hWB : WB B) {i : Nat} (hi : i < B.2.length) {K : xK} (hGK : GK G K) {np : Nat} (hnp : 2 ≤ np ∧ np ≤ 4) (hroom : (foldP (B.2.getD i dS).1 (!(B.2.getD i dS).2.2.2.2.1) np).1.length ≤ 200) : CC G MX1_applyFold [.ref o, .int (iI ((i : Int))), .int (iI ((np : Int)))] h (fun o' h' => o' = .inl (some (.int (iI (((foldS (B.2.getD i dS) np).1.length : Int))))) ∧ BN G h' o A fp (aFold B i np) ∧ FRp fp h h') := by
  have hWB0 := hWB
  obtain ⟨⟨ro, me, fl, ho, ec, bk⟩, Ls⟩ := B
  have hB0 := hB
  obtain ⟨g, bs, F, hBo⟩ := hB
  have hBo0 := hBo
  obtain ⟨⟨mO, mA⟩, fO, fA, hL6, hLF, hK, hD, hfp⟩ := hBo
  have hL6 : Ls.length ≤ 6 := hL6
  have hLF : ∀ i, i < Ls.length → F i = Ls.getD i dS := hLF
  have fO : h.2 o = .inr (0, [.ref A, .int (iI (Ls.length : Int)), .int (iI ro), .int (iI me), .int (iI fl), .int (iI ho), .int (iI ec), .int (iI bk)]) := fO
  have nOA : o ≠ A := ne_oi fO fA
  obtain ⟨hWs, hro, hme, hfl, hho⟩ := hWB
  have hro : 0 ≤ ro ∧ ro ≤ 40 := hro
  have hme : 5 ≤ me ∧ me ≤ 35 := hme
  have hfl : 0 ≤ fl ∧ fl ≤ 999 := hfl
  have hho : 0 ≤ ho ∧ ho ≤ 9999 := hho
  have hWs : ∀ s ∈ Ls, WS s := hWs
  have hi : i < Ls.length := hi
  have hi6 : i < 6 := by omega
  obtain ⟨a, t, b, hbs⟩ : ∃ a t b, bs i = (a, t, b) := ⟨_, _, _, rfl⟩
  have hgi : g i = some a := by rw [(hK i hi6).1, hbs]
  obtain ⟨s, hs⟩ : ∃ s, s = Ls.getD i dS := ⟨_, rfl⟩
  have hS : SH G h a t b s := by have z := (hK i hi6).2; rw [hbs, hLF i hi, ← hs] at z; exact z
  have hW : WS s := by rw [hs]; exact hWs _ (getD_memS hi)
  obtain ⟨l, ex, wa, fo, du, se, co⟩ := s
  have hS0 := hS
  obtain ⟨gt, gb, ⟨ma, mt, mb⟩, ⟨nta, nba, ntb⟩, fa, ft, fb, hl, hr⟩ := hS
  have hl : l.length ≤ 200 := hl
  have hr : sr gt gb l := hr
  have fa : h.2 a = .inr (5, [.ref t, .ref b, .int (iI (l.length : Int)), .int (iI ex), .int fo, .int (iI wa), .int (iI (b2 du)), .int (iI (b2 se)), .int (iI (b2 co))]) := fa
  have hW0 := hW
  obtain ⟨h1, hnz, h4, hw0, hw1⟩ := hW
  have h1 : 1 ≤ l.length := h1
  have h4 : hgt l ≤ 4000 := h4
  have hw0 : 0 ≤ wa := hw0
  have hw1 : wa ≤ 40 := hw1
  have hnz : ∀ x ∈ l, x ≠ 0 := hnz
  have hg0 := hgt_nn l
  have hgl := hgt_ge l hnz
  have noa : o ≠ a := ne_oo fO fa (by decide)
  have not : o ≠ t := ne_oi fO ft
  have nob : o ≠ b := ne_oi fO fb
  have nAa : A ≠ a := (ne_oi fa fA).symm
  have nAt : A ≠ t := ne_sz fA ft (by decide)
  have nAb : A ≠ b := ne_sz fA fb (by decide)
  have hG := gk_D hGK
  have hroom : (foldP l (!du) np).1.length ≤ 200 := by have z : (foldP (Ls.getD i dS).1 (!(Ls.getD i dS).2.2.2.2.1) np).1.length ≤ 200 := hroom; rw [← hs] at z; exact z
  show RR G MX1_applyFold 0 [(0, .ref o), (1, .int (iI ((i : Int)))), (2, .int (iI ((np : Int))))] [] h (xm_R MX1_applyFold).cells (xm_R MX1_applyFold).slots (fun o' h' => o' = .inl (some (.int (iI (((foldS (Ls.getD i dS) np).1.length : Int))))) ∧ BN G h' o A fp (aFold ((ro, me, fl, ho, ec, bk), Ls) i np) ∧ FRp fp h h')
  refine r_aload_n dX1_applyFold_0 0 rfl ?_
  refine r_get cl_X1 0 (by decide) kf_X1_11 dX1_applyFold_1 mO fO rfl ?_
  refine r_iload_n dX1_applyFold_4 1 rfl ?_
  refine i_aald rfl i rfl dX1_applyFold_5 mA fA (by omega) (by decide) hgi ?_
  refine r_iload_n dX1_applyFold_6 2 rfl ?_
  refine p_callV (As := [.int (iI ((np : Int)))]) (b := a) (rest := []) (w := none) (st' := []) kv_X1_applyFold_105 dX1_applyFold_7 rfl rfl (Nat.le_of_ble_eq_true rfl) (Nat.le_of_ble_eq_true rfl) (x_rv ma fa rfl) rfl rfl (c_X8_foldUp hS0 hW0 hG hnp hroom) rfl (fun h9 e9 => ?_)
  have hS0_9 := e9.1
  obtain ⟨hS9, hF9⟩ := e9
  obtain ⟨gt9, gb9, ⟨ma9, mt9, mb9⟩, -, fa9, ft9, fb9, hl9, hr9⟩ := hS9
  have fa9 : h9.2 a = .inr (5, [.ref t, .ref b, .int (iI (((foldP l (!du) np).1).length : Int)), .int (iI (ex * (np : Int) - (foldP l (!du) np).2)), .int (fo + iI 1), .int (iI (warmed wa)), .int (iI (b2 false)), .int (iI (b2 se)), .int (iI (b2 co))]) := fa9
  have hl9 : ((foldP l (!du) np).1).length ≤ 200 := hl9
  have hr9 : sr gt9 gb9 ((foldP l (!du) np).1) := hr9
  have mo_9 : o ∈ h9.1 := by rw [hF9.1]; exact mO
  have fo_9 := (hF9.2 o noa not nob).trans fO
  have mA_9 : A ∈ h9.1 := by rw [hF9.1]; exact mA
  have fA_9 := (hF9.2 A nAa nAt nAb).trans fA
  refine r_aload_n dX1_applyFold_10 0 rfl ?_
  refine r_get cl_X1 0 (by decide) kf_X1_11 dX1_applyFold_11 mo_9 fo_9 rfl ?_
  refine r_iload_n dX1_applyFold_14 1 rfl ?_
  refine i_aald rfl i rfl dX1_applyFold_15 mA_9 fA_9 (by omega) (by decide) hgi ?_
  refine r_get cl_X8 2 (by decide) kf_X1_65 dX1_applyFold_16 ma9 fa9 rfl ?_
  refine r_ireturn rfl rfl dX1_applyFold_19 ?_
  have hS9 : SH G h9 a t b (foldS (l, ex, wa, fo, du, se, co) np) := hS0_9
  have fO9 : h9.2 o = .inr (0, bf A ((ro, me, fl, ho, ec, bk), Ls.set i (foldS (l, ex, wa, fo, du, se, co) np))) := by simp only [bf, List.length_set]; exact fo_9
  have hR := hBo0.mk4 hi6 hbs (FR4.of hF9) hS9 fO9 (by show (Ls.set i _).length ≤ 6; rw [List.length_set]; exact hL6) (set_getDS hLF hi)
  have e : aFold ((ro, me, fl, ho, ec, bk), Ls) i np = ((ro, me, fl, ho, ec, bk), Ls.set i (foldS (l, ex, wa, fo, du, se, co) np)) := by unfold aFold; dsimp only; rw [← hs]; try rfl
  rw [e]
  exact ⟨by rw [← hs]; rfl, hR.1, hR.2⟩
set_option maxRecDepth 20000 in
set_option maxHeartbeats 1000000 in
theorem c_X1_applyRoll {G : xG} {h : xH} {o A : Nat} {fp : List Nat} {B : AB} (hB : BN G h o A fp B) (hWB : WB B) {i : Nat} (hi : i < B.2.length) {K : xK} (hGK : GK G K) {q : Int} (hq : 2 ≤ q ∧ q ≤ 4) : CC G MX1_applyRoll [.ref o, .int (iI ((i : Int))), .int (iI q)] h (fun o' h' => o' = .inl (some (.int (iI (((rollS (B.2.getD i dS) q B.1.2.1).1.length : Int))))) ∧ BN G h' o A fp (aRoll B i q) ∧ FRp fp h h') := by
  have hWB0 := hWB
  obtain ⟨⟨ro, me, fl, ho, ec, bk⟩, Ls⟩ := B
  have hB0 := hB
  obtain ⟨g, bs, F, hBo⟩ := hB
  have hBo0 := hBo
  obtain ⟨⟨mO, mA⟩, fO, fA, hL6, hLF, hK, hD, hfp⟩ := hBo
  have hL6 : Ls.length ≤ 6 := hL6
  have hLF : ∀ i, i < Ls.length → F i = Ls.getD i dS := hLF
  have fO : h.2 o = .inr (0, [.ref A, .int (iI (Ls.length : Int)), .int (iI ro), .int (iI me), .int (iI fl), .int (iI ho), .int (iI ec), .int (iI bk)]) := fO
  have nOA : o ≠ A := ne_oi fO fA
  obtain ⟨hWs, hro, hme, hfl, hho⟩ := hWB
  have hro : 0 ≤ ro ∧ ro ≤ 40 := hro
  have hme : 5 ≤ me ∧ me ≤ 35 := hme
  have hfl : 0 ≤ fl ∧ fl ≤ 999 := hfl
  have hho : 0 ≤ ho ∧ ho ≤ 9999 := hho
  have hWs : ∀ s ∈ Ls, WS s := hWs
  have hi : i < Ls.length := hi
  have hi6 : i < 6 := by omega
  obtain ⟨a, t, b, hbs⟩ : ∃ a t b, bs i = (a, t, b) := ⟨_, _, _, rfl⟩
  have hgi : g i = some a := by rw [(hK i hi6).1, hbs]
  obtain ⟨s, hs⟩ : ∃ s, s = Ls.getD i dS := ⟨_, rfl⟩
  have hS : SH G h a t b s := by have z := (hK i hi6).2; rw [hbs, hLF i hi, ← hs] at z; exact z
  have hW : WS s := by rw [hs]; exact hWs _ (getD_memS hi)
  obtain ⟨l, ex, wa, fo, du, se, co⟩ := s
  have hS0 := hS
  obtain ⟨gt, gb, ⟨ma, mt, mb⟩, ⟨nta, nba, ntb⟩, fa, ft, fb, hl, hr⟩ := hS
  have hl : l.length ≤ 200 := hl
  have hr : sr gt gb l := hr
  have fa : h.2 a = .inr (5, [.ref t, .ref b, .int (iI (l.length : Int)), .int (iI ex), .int fo, .int (iI wa), .int (iI (b2 du)), .int (iI (b2 se)), .int (iI (b2 co))]) := fa
  have hW0 := hW
  obtain ⟨h1, hnz, h4, hw0, hw1⟩ := hW
  have h1 : 1 ≤ l.length := h1
  have h4 : hgt l ≤ 4000 := h4
  have hw0 : 0 ≤ wa := hw0
  have hw1 : wa ≤ 40 := hw1
  have hnz : ∀ x ∈ l, x ≠ 0 := hnz
  have hg0 := hgt_nn l
  have hgl := hgt_ge l hnz
  have noa : o ≠ a := ne_oo fO fa (by decide)
  have not : o ≠ t := ne_oi fO ft
  have nob : o ≠ b := ne_oi fO fb
  have nAa : A ≠ a := (ne_oi fa fA).symm
  have nAt : A ≠ t := ne_sz fA ft (by decide)
  have nAb : A ≠ b := ne_sz fA fb (by decide)
  have hG := gk_D hGK
  show RR G MX1_applyRoll 0 [(0, .ref o), (1, .int (iI ((i : Int)))), (2, .int (iI q))] [] h (xm_R MX1_applyRoll).cells (xm_R MX1_applyRoll).slots (fun o' h' => o' = .inl (some (.int (iI (((rollS (Ls.getD i dS) q me).1.length : Int))))) ∧ BN G h' o A fp (aRoll ((ro, me, fl, ho, ec, bk), Ls) i q) ∧ FRp fp h h')
  refine r_aload_n dX1_applyRoll_0 0 rfl ?_
  refine r_dup dX1_applyRoll_1 rfl ?_
  refine r_get cl_X1 6 (by decide) kf_X1_47 dX1_applyRoll_2 mO fO rfl ?_
  refine r_aload_n dX1_applyRoll_5 0 rfl ?_
  refine r_get cl_X1 0 (by decide) kf_X1_11 dX1_applyRoll_6 mO fO rfl ?_
  refine r_iload_n dX1_applyRoll_9 1 rfl ?_
  refine i_aald rfl i rfl dX1_applyRoll_10 mA fA (by omega) (by decide) hgi ?_
  refine r_aload_n dX1_applyRoll_11 0 rfl ?_
  refine r_get cl_X1 3 (by decide) kf_X1_38 dX1_applyRoll_12 mO fO rfl ?_
  refine p_callV (As := [.int (iI me)]) (b := a) (rest := [.int (iI ec), .ref o]) (w := (some (.int (iI (sumF (escF (loss (l, ex, wa, fo, du, se, co) me)) l))))) (st' := [.int (iI (sumF (escF (loss (l, ex, wa, fo, du, se, co) me)) l)), .int (iI ec), .ref o]) kv_X1_applyRoll_112 dX1_applyRoll_15 rfl rfl (Nat.le_of_ble_eq_true rfl) (Nat.le_of_ble_eq_true rfl) (x_rv ma fa rfl) rfl rfl (c_X8_sumEscaping hS0 hW0 (m := me) (by omega)) rfl (fun h9 e9 => ?_)
  rw [show h9 = h from e9]
  refine i_add dX1_applyRoll_18 ?_
  refine i_put [.ref A, .int (iI ((Ls.length : Int))), .int (iI ro), .int (iI me), .int (iI fl), .int (iI ho), .int (iI (ec + (sumF (escF (loss (l, ex, wa, fo, du, se, co) me)) l))), .int (iI bk)] cl_X1 6 (by decide) kf_X1_47 rfl dX1_applyRoll_19 mO fO rfl rfl (by simp) rfl (fun h1 e0_1 e1_1 e2_1 => ?_)
  have mo_1 : o ∈ h1.1 := by rw [e0_1]; exact mO
  have mA_1 : A ∈ h1.1 := by rw [e0_1]; exact mA
  have fA_1 := (e2_1 _ (Ne.symm nOA)).trans fA
  have ma_1 : a ∈ h1.1 := by rw [e0_1]; exact ma
  have fa_1 := (e2_1 _ (Ne.symm noa)).trans fa
  have mt_1 : t ∈ h1.1 := by rw [e0_1]; exact mt
  have ft_1 := (e2_1 _ (Ne.symm not)).trans ft
  have mb_1 : b ∈ h1.1 := by rw [e0_1]; exact mb
  have fb_1 := (e2_1 _ (Ne.symm nob)).trans fb
  refine r_aload_n dX1_applyRoll_22 0 rfl ?_
  refine r_dup dX1_applyRoll_23 rfl ?_
  refine r_get cl_X1 7 (by decide) kf_X1_50 dX1_applyRoll_24 mo_1 e1_1 rfl ?_
  refine r_aload_n dX1_applyRoll_27 0 rfl ?_
  refine r_get cl_X1 0 (by decide) kf_X1_11 dX1_applyRoll_28 mo_1 e1_1 rfl ?_
  refine r_iload_n dX1_applyRoll_31 1 rfl ?_
  refine i_aald rfl i rfl dX1_applyRoll_32 mA_1 fA_1 (by omega) (by decide) hgi ?_
  refine r_iload_n dX1_applyRoll_33 2 rfl ?_
  refine r_aload_n dX1_applyRoll_34 0 rfl ?_
  refine r_get cl_X1 3 (by decide) kf_X1_38 dX1_applyRoll_35 mo_1 e1_1 rfl ?_
  have hS1 : SH G h1 a t b (l, ex, wa, fo, du, se, co) := ⟨gt, gb, ⟨ma_1, mt_1, mb_1⟩, ⟨nta, nba, ntb⟩, fa_1, ft_1, fb_1, hl, hr⟩
  refine p_callV (As := [.int (iI q), .int (iI me)]) (b := a) (rest := [.int (iI bk), .ref o]) (w := (some (.int (iI ((rollR q (loss (l, ex, wa, fo, du, se, co) me) l l.length).2.1))))) (st' := [.int (iI ((rollR q (loss (l, ex, wa, fo, du, se, co) me) l l.length).2.1)), .int (iI bk), .ref o]) kv_X1_applyRoll_115 dX1_applyRoll_38 rfl rfl (Nat.le_of_ble_eq_true rfl) (Nat.le_of_ble_eq_true rfl) (x_rv ma_1 fa_1 rfl) rfl rfl (c_X8_rollOut hS1 hW0 hG (m := me) hq (by omega)) rfl (fun h9 e9 => ?_)
  obtain ⟨hS9, hF9⟩ := e9
  obtain ⟨gt9, gb9, ⟨ma9, mt9, mb9⟩, -, fa9, ft9, fb9, hl9, hr9⟩ := hS9
  have fa9 : h9.2 a = .inr (5, [.ref t, .ref b, .int (iI (((rollR q (loss (l, ex, wa, fo, du, se, co) me) l l.length).1).length : Int)), .int (iI (ex - ((rollR q (loss (l, ex, wa, fo, du, se, co) me) l l.length).2.1 + (rollR q (loss (l, ex, wa, fo, du, se, co) me) l l.length).2.2.1))), .int fo, .int (iI (warmed wa)), .int (iI (b2 du)), .int (iI (b2 false)), .int (iI (b2 co))]) := fa9
  have hl9 : ((rollR q (loss (l, ex, wa, fo, du, se, co) me) l l.length).1).length ≤ 200 := hl9
  have hr9 : sr gt9 gb9 ((rollR q (loss (l, ex, wa, fo, du, se, co) me) l l.length).1) := hr9
  have mo_9 : o ∈ h9.1 := by rw [hF9.1]; exact mo_1
  have fo_9 := (hF9.2 o noa not nob).trans e1_1
  have mA_9 : A ∈ h9.1 := by rw [hF9.1]; exact mA_1
  have fA_9 := (hF9.2 A nAa nAt nAb).trans fA_1
  refine i_add dX1_applyRoll_41 ?_
  refine i_put [.ref A, .int (iI ((Ls.length : Int))), .int (iI ro), .int (iI me), .int (iI fl), .int (iI ho), .int (iI (ec + (sumF (escF (loss (l, ex, wa, fo, du, se, co) me)) l))), .int (iI (bk + ((rollR q (loss (l, ex, wa, fo, du, se, co) me) l l.length).2.1)))] cl_X1 7 (by decide) kf_X1_50 rfl dX1_applyRoll_42 mo_9 fo_9 rfl rfl (by simp) rfl (fun h2 e0_2 e1_2 e2_2 => ?_)
  have mo_2 : o ∈ h2.1 := by rw [e0_2]; exact mo_9
  have mA_2 : A ∈ h2.1 := by rw [e0_2]; exact mA_9
  have fA_2 := (e2_2 _ (Ne.symm nOA)).trans fA_9
  have ma_2 : a ∈ h2.1 := by rw [e0_2]; exact ma9
  have fa_2 := (e2_2 _ (Ne.symm noa)).trans fa9
  have mt_2 : t ∈ h2.1 := by rw [e0_2]; exact mt9
  have ft_2 := (e2_2 _ (Ne.symm not)).trans ft9
  have mb_2 : b ∈ h2.1 := by rw [e0_2]; exact mb9
  have fb_2 := (e2_2 _ (Ne.symm nob)).trans fb9
  refine r_aload_n dX1_applyRoll_45 0 rfl ?_
  refine r_get cl_X1 0 (by decide) kf_X1_11 dX1_applyRoll_46 mo_2 e1_2 rfl ?_
  refine r_iload_n dX1_applyRoll_49 1 rfl ?_
  refine i_aald rfl i rfl dX1_applyRoll_50 mA_2 fA_2 (by omega) (by decide) hgi ?_
  refine r_get cl_X8 2 (by decide) kf_X1_65 dX1_applyRoll_51 ma_2 fa_2 rfl ?_
  refine r_ireturn rfl rfl dX1_applyRoll_54 ?_
  have hS9 : SH G h2 a t b (rollS (l, ex, wa, fo, du, se, co) q me) := ⟨gt9, gb9, ⟨ma_2, mt_2, mb_2⟩, ⟨nta, nba, ntb⟩, fa_2, ft_2, fb_2, hl9, hr9⟩
  have fO9 : h2.2 o = .inr (0, bf A ((ro, me, fl, ho, ec + sumF (escF (loss (l, ex, wa, fo, du, se, co) me)) l, bk + (rollR q (loss (l, ex, wa, fo, du, se, co) me) l l.length).2.1), Ls.set i (rollS (l, ex, wa, fo, du, se, co) q me))) := by simp only [bf, List.length_set]; exact e1_2
  have hR := hBo0.mk4 hi6 hbs (FR4.tr (FR4.tr (FR4.wo e0_1 e2_1) (FR4.of hF9)) (FR4.wo e0_2 e2_2)) hS9 fO9 (by show (Ls.set i _).length ≤ 6; rw [List.length_set]; exact hL6) (set_getDS hLF hi)
  have e : aRoll ((ro, me, fl, ho, ec, bk), Ls) i q = ((ro, me, fl, ho, ec + sumF (escF (loss (l, ex, wa, fo, du, se, co) me)) l, bk + (rollR q (loss (l, ex, wa, fo, du, se, co) me) l l.length).2.1), Ls.set i (rollS (l, ex, wa, fo, du, se, co) q me)) := by unfold aRoll; dsimp only; rw [← hs]; try rfl
  rw [e]
  exact ⟨by rw [← hs]; rfl, hR.1, hR.2⟩
set_option maxRecDepth 20000 in
set_option maxHeartbeats 1000000 in
theorem c_X1_applyDust {G : xG} {h : xH} {o A : Nat} {fp : List Nat} {B : AB} (hB : BN G h o A fp B) (hWB : WB B) {i : Nat} (hi : i < B.2.length) : CC G MX1_applyDust [.ref o, .int (iI ((i : Int)))] h (fun o' h' => o' = .inl (some (.int (iI (B.1.2.2.1 - 1)))) ∧ BN G h' o A fp (aDust B i) ∧ FRp fp h h') := by
  have hWB0 := hWB
  obtain ⟨⟨ro, me, fl, ho, ec, bk⟩, Ls⟩ := B
  have hB0 := hB
  obtain ⟨g, bs, F, hBo⟩ := hB
  have hBo0 := hBo
  obtain ⟨⟨mO, mA⟩, fO, fA, hL6, hLF, hK, hD, hfp⟩ := hBo
  have hL6 : Ls.length ≤ 6 := hL6
  have hLF : ∀ i, i < Ls.length → F i = Ls.getD i dS := hLF
  have fO : h.2 o = .inr (0, [.ref A, .int (iI (Ls.length : Int)), .int (iI ro), .int (iI me), .int (iI fl), .int (iI ho), .int (iI ec), .int (iI bk)]) := fO
  have nOA : o ≠ A := ne_oi fO fA
  obtain ⟨hWs, hro, hme, hfl, hho⟩ := hWB
  have hro : 0 ≤ ro ∧ ro ≤ 40 := hro
  have hme : 5 ≤ me ∧ me ≤ 35 := hme
  have hfl : 0 ≤ fl ∧ fl ≤ 999 := hfl
  have hho : 0 ≤ ho ∧ ho ≤ 9999 := hho
  have hWs : ∀ s ∈ Ls, WS s := hWs
  have hi : i < Ls.length := hi
  have hi6 : i < 6 := by omega
  obtain ⟨a, t, b, hbs⟩ : ∃ a t b, bs i = (a, t, b) := ⟨_, _, _, rfl⟩
  have hgi : g i = some a := by rw [(hK i hi6).1, hbs]
  obtain ⟨s, hs⟩ : ∃ s, s = Ls.getD i dS := ⟨_, rfl⟩
  have hS : SH G h a t b s := by have z := (hK i hi6).2; rw [hbs, hLF i hi, ← hs] at z; exact z
  have hW : WS s := by rw [hs]; exact hWs _ (getD_memS hi)
  obtain ⟨l, ex, wa, fo, du, se, co⟩ := s
  have hS0 := hS
  obtain ⟨gt, gb, ⟨ma, mt, mb⟩, ⟨nta, nba, ntb⟩, fa, ft, fb, hl, hr⟩ := hS
  have hl : l.length ≤ 200 := hl
  have hr : sr gt gb l := hr
  have fa : h.2 a = .inr (5, [.ref t, .ref b, .int (iI (l.length : Int)), .int (iI ex), .int fo, .int (iI wa), .int (iI (b2 du)), .int (iI (b2 se)), .int (iI (b2 co))]) := fa
  have hW0 := hW
  obtain ⟨h1, hnz, h4, hw0, hw1⟩ := hW
  have h1 : 1 ≤ l.length := h1
  have h4 : hgt l ≤ 4000 := h4
  have hw0 : 0 ≤ wa := hw0
  have hw1 : wa ≤ 40 := hw1
  have hnz : ∀ x ∈ l, x ≠ 0 := hnz
  have hg0 := hgt_nn l
  have hgl := hgt_ge l hnz
  have noa : o ≠ a := ne_oo fO fa (by decide)
  have not : o ≠ t := ne_oi fO ft
  have nob : o ≠ b := ne_oi fO fb
  have nAa : A ≠ a := (ne_oi fa fA).symm
  have nAt : A ≠ t := ne_sz fA ft (by decide)
  have nAb : A ≠ b := ne_sz fA fb (by decide)
  show RR G MX1_applyDust 0 [(0, .ref o), (1, .int (iI ((i : Int))))] [] h (xm_R MX1_applyDust).cells (xm_R MX1_applyDust).slots (fun o' h' => o' = .inl (some (.int (iI (fl - 1)))) ∧ BN G h' o A fp (aDust ((ro, me, fl, ho, ec, bk), Ls) i) ∧ FRp fp h h')
  refine r_aload_n dX1_applyDust_0 0 rfl ?_
  refine r_get cl_X1 0 (by decide) kf_X1_11 dX1_applyDust_1 mO fO rfl ?_
  refine r_iload_n dX1_applyDust_4 1 rfl ?_
  refine i_aald rfl i rfl dX1_applyDust_5 mA fA (by omega) (by decide) hgi ?_
  refine i_const (1) dX1_applyDust_6 ?_
  refine i_put [.ref t, .ref b, .int (iI ((l.length : Int))), .int (iI ex), .int fo, .int (iI wa), .int (iI 1), .int (iI (b2 se)), .int (iI (b2 co))] cl_X8 6 (by decide) kf_X1_118 rfl dX1_applyDust_7 ma fa (b2_nar true) (b2_fit true) (by simp) rfl (fun h1 e0_1 e1_1 e2_1 => ?_)
  have mo_1 : o ∈ h1.1 := by rw [e0_1]; exact mO
  have fo_1 := (e2_1 _ noa).trans fO
  have mA_1 : A ∈ h1.1 := by rw [e0_1]; exact mA
  have fA_1 := (e2_1 _ nAa).trans fA
  have ma_1 : a ∈ h1.1 := by rw [e0_1]; exact ma
  have mt_1 : t ∈ h1.1 := by rw [e0_1]; exact mt
  have ft_1 := (e2_1 _ nta).trans ft
  have mb_1 : b ∈ h1.1 := by rw [e0_1]; exact mb
  have fb_1 := (e2_1 _ nba).trans fb
  refine r_aload_n dX1_applyDust_10 0 rfl ?_
  refine r_dup dX1_applyDust_11 rfl ?_
  refine r_get cl_X1 4 (by decide) kf_X1_41 dX1_applyDust_12 mo_1 fo_1 rfl ?_
  refine i_const (1) dX1_applyDust_15 ?_
  refine i_sub dX1_applyDust_16 ?_
  refine i_put [.ref A, .int (iI ((Ls.length : Int))), .int (iI ro), .int (iI me), .int (iI (fl - 1)), .int (iI ho), .int (iI ec), .int (iI bk)] cl_X1 4 (by decide) kf_X1_41 rfl dX1_applyDust_17 mo_1 fo_1 rfl rfl (by simp) rfl (fun h2 e0_2 e1_2 e2_2 => ?_)
  have mo_2 : o ∈ h2.1 := by rw [e0_2]; exact mo_1
  have mA_2 : A ∈ h2.1 := by rw [e0_2]; exact mA_1
  have fA_2 := (e2_2 _ (Ne.symm nOA)).trans fA_1
  have ma_2 : a ∈ h2.1 := by rw [e0_2]; exact ma_1
  have fa_2 := (e2_2 _ (Ne.symm noa)).trans e1_1
  have mt_2 : t ∈ h2.1 := by rw [e0_2]; exact mt_1
  have ft_2 := (e2_2 _ (Ne.symm not)).trans ft_1
  have mb_2 : b ∈ h2.1 := by rw [e0_2]; exact mb_1
  have fb_2 := (e2_2 _ (Ne.symm nob)).trans fb_1
  refine r_aload_n dX1_applyDust_20 0 rfl ?_
  refine r_get cl_X1 4 (by decide) kf_X1_41 dX1_applyDust_21 mo_2 e1_2 rfl ?_
  refine r_ireturn rfl rfl dX1_applyDust_24 ?_
  have hS9 : SH G h2 a t b (l, ex, wa, fo, true, se, co) := ⟨gt, gb, ⟨ma_2, mt_2, mb_2⟩, ⟨nta, nba, ntb⟩, fa_2, ft_2, fb_2, hl, hr⟩
  have fO9 : h2.2 o = .inr (0, bf A ((ro, me, fl - 1, ho, ec, bk), Ls.set i (l, ex, wa, fo, true, se, co))) := by simp only [bf, List.length_set]; exact e1_2
  have hR := hBo0.mk4 hi6 hbs (FR4.tr (FR4.wa e0_1 e2_1) (FR4.wo e0_2 e2_2)) hS9 fO9 (by show (Ls.set i _).length ≤ 6; rw [List.length_set]; exact hL6) (set_getDS hLF hi)
  have e : aDust ((ro, me, fl, ho, ec, bk), Ls) i = ((ro, me, fl - 1, ho, ec, bk), Ls.set i (l, ex, wa, fo, true, se, co)) := by unfold aDust; dsimp only; rw [← hs]; try rfl
  rw [e]
  exact ⟨rfl, hR.1, hR.2⟩
set_option maxRecDepth 20000 in
set_option maxHeartbeats 1000000 in
theorem c_X1_applyTakeOut {G : xG} {h : xH} {o A : Nat} {fp : List Nat} {B : AB} (hB : BN G h o A fp B) (hWB : WB B) {i : Nat} (hi : i < B.2.length) : CC G MX1_applyTakeOut [.ref o, .int (iI ((i : Int)))] h (fun o' h' => o' = .inl (some (.int (iI ((B.2.getD i dS).2.2.1)))) ∧ BN G h' o A fp (aTake B i) ∧ FRp fp h h') := by
  have hWB0 := hWB
  obtain ⟨⟨ro, me, fl, ho, ec, bk⟩, Ls⟩ := B
  have hB0 := hB
  obtain ⟨g, bs, F, hBo⟩ := hB
  have hBo0 := hBo
  obtain ⟨⟨mO, mA⟩, fO, fA, hL6, hLF, hK, hD, hfp⟩ := hBo
  have hL6 : Ls.length ≤ 6 := hL6
  have hLF : ∀ i, i < Ls.length → F i = Ls.getD i dS := hLF
  have fO : h.2 o = .inr (0, [.ref A, .int (iI (Ls.length : Int)), .int (iI ro), .int (iI me), .int (iI fl), .int (iI ho), .int (iI ec), .int (iI bk)]) := fO
  have nOA : o ≠ A := ne_oi fO fA
  obtain ⟨hWs, hro, hme, hfl, hho⟩ := hWB
  have hro : 0 ≤ ro ∧ ro ≤ 40 := hro
  have hme : 5 ≤ me ∧ me ≤ 35 := hme
  have hfl : 0 ≤ fl ∧ fl ≤ 999 := hfl
  have hho : 0 ≤ ho ∧ ho ≤ 9999 := hho
  have hWs : ∀ s ∈ Ls, WS s := hWs
  have hi : i < Ls.length := hi
  have hi6 : i < 6 := by omega
  obtain ⟨a, t, b, hbs⟩ : ∃ a t b, bs i = (a, t, b) := ⟨_, _, _, rfl⟩
  have hgi : g i = some a := by rw [(hK i hi6).1, hbs]
  obtain ⟨s, hs⟩ : ∃ s, s = Ls.getD i dS := ⟨_, rfl⟩
  have hS : SH G h a t b s := by have z := (hK i hi6).2; rw [hbs, hLF i hi, ← hs] at z; exact z
  have hW : WS s := by rw [hs]; exact hWs _ (getD_memS hi)
  obtain ⟨l, ex, wa, fo, du, se, co⟩ := s
  have hS0 := hS
  obtain ⟨gt, gb, ⟨ma, mt, mb⟩, ⟨nta, nba, ntb⟩, fa, ft, fb, hl, hr⟩ := hS
  have hl : l.length ≤ 200 := hl
  have hr : sr gt gb l := hr
  have fa : h.2 a = .inr (5, [.ref t, .ref b, .int (iI (l.length : Int)), .int (iI ex), .int fo, .int (iI wa), .int (iI (b2 du)), .int (iI (b2 se)), .int (iI (b2 co))]) := fa
  have hW0 := hW
  obtain ⟨h1, hnz, h4, hw0, hw1⟩ := hW
  have h1 : 1 ≤ l.length := h1
  have h4 : hgt l ≤ 4000 := h4
  have hw0 : 0 ≤ wa := hw0
  have hw1 : wa ≤ 40 := hw1
  have hnz : ∀ x ∈ l, x ≠ 0 := hnz
  have hg0 := hgt_nn l
  have hgl := hgt_ge l hnz
  have noa : o ≠ a := ne_oo fO fa (by decide)
  have not : o ≠ t := ne_oi fO ft
  have nob : o ≠ b := ne_oi fO fb
  have nAa : A ≠ a := (ne_oi fa fA).symm
  have nAt : A ≠ t := ne_sz fA ft (by decide)
  have nAb : A ≠ b := ne_sz fA fb (by decide)
  show RR G MX1_applyTakeOut 0 [(0, .ref o), (1, .int (iI ((i : Int))))] [] h (xm_R MX1_applyTakeOut).cells (xm_R MX1_applyTakeOut).slots (fun o' h' => o' = .inl (some (.int (iI ((Ls.getD i dS).2.2.1)))) ∧ BN G h' o A fp (aTake ((ro, me, fl, ho, ec, bk), Ls) i) ∧ FRp fp h h')
  refine r_aload_n dX1_applyTakeOut_0 0 rfl ?_
  refine r_get cl_X1 0 (by decide) kf_X1_11 dX1_applyTakeOut_1 mO fO rfl ?_
  refine r_iload_n dX1_applyTakeOut_4 1 rfl ?_
  refine i_aald rfl i rfl dX1_applyTakeOut_5 mA fA (by omega) (by decide) hgi ?_
  refine i_const (0) dX1_applyTakeOut_6 ?_
  refine i_put [.ref t, .ref b, .int (iI ((l.length : Int))), .int (iI ex), .int fo, .int (iI wa), .int (iI (b2 du)), .int (iI (b2 se)), .int (iI 0)] cl_X8 8 (by decide) kf_X1_72 rfl dX1_applyTakeOut_7 ma fa (b2_nar false) (b2_fit false) (by simp) rfl (fun h1 e0_1 e1_1 e2_1 => ?_)
  have mo_1 : o ∈ h1.1 := by rw [e0_1]; exact mO
  have fo_1 := (e2_1 _ noa).trans fO
  have mA_1 : A ∈ h1.1 := by rw [e0_1]; exact mA
  have fA_1 := (e2_1 _ nAa).trans fA
  have ma_1 : a ∈ h1.1 := by rw [e0_1]; exact ma
  have mt_1 : t ∈ h1.1 := by rw [e0_1]; exact mt
  have ft_1 := (e2_1 _ nta).trans ft
  have mb_1 : b ∈ h1.1 := by rw [e0_1]; exact mb
  have fb_1 := (e2_1 _ nba).trans fb
  refine r_aload_n dX1_applyTakeOut_10 0 rfl ?_
  refine r_get cl_X1 0 (by decide) kf_X1_11 dX1_applyTakeOut_11 mo_1 fo_1 rfl ?_
  refine r_iload_n dX1_applyTakeOut_14 1 rfl ?_
  refine i_aald rfl i rfl dX1_applyTakeOut_15 mA_1 fA_1 (by omega) (by decide) hgi ?_
  refine r_get cl_X8 5 (by decide) kf_X1_62 dX1_applyTakeOut_16 ma_1 e1_1 rfl ?_
  refine r_ireturn rfl rfl dX1_applyTakeOut_19 ?_
  have hS9 : SH G h1 a t b (l, ex, wa, fo, du, se, false) := ⟨gt, gb, ⟨ma_1, mt_1, mb_1⟩, ⟨nta, nba, ntb⟩, e1_1, ft_1, fb_1, hl, hr⟩
  have fO9 : h1.2 o = .inr (0, bf A ((ro, me, fl, ho, ec, bk), Ls.set i (l, ex, wa, fo, du, se, false))) := by simp only [bf, List.length_set]; exact fo_1
  have hR := hBo0.mk4 hi6 hbs (FR4.wa e0_1 e2_1) hS9 fO9 (by show (Ls.set i _).length ≤ 6; rw [List.length_set]; exact hL6) (set_getDS hLF hi)
  have e : aTake ((ro, me, fl, ho, ec, bk), Ls) i = ((ro, me, fl, ho, ec, bk), Ls.set i (l, ex, wa, fo, du, se, false)) := by unfold aTake; dsimp only; rw [← hs]; try rfl
  rw [e]
  exact ⟨by rw [← hs], hR.1, hR.2⟩
set_option maxRecDepth 20000 in
set_option maxHeartbeats 1000000 in
theorem c_X1_applySeal {G : xG} {h : xH} {o A : Nat} {fp : List Nat} {B : AB} (hB : BN G h o A fp B) (hWB : WB B) {i : Nat} (hi : i < B.2.length) : CC G MX1_applySeal [.ref o, .int (iI ((i : Int)))] h (fun o' h' => o' = .inl (some (.int (iI (cnt isSe (B.2.set i (seS (B.2.getD i dS) true)))))) ∧ BN G h' o A fp (aSeal B i) ∧ FRp fp h h') := by
  have hWB0 := hWB
  obtain ⟨⟨ro, me, fl, ho, ec, bk⟩, Ls⟩ := B
  have hB0 := hB
  obtain ⟨g, bs, F, hBo⟩ := hB
  have hBo0 := hBo
  obtain ⟨⟨mO, mA⟩, fO, fA, hL6, hLF, hK, hD, hfp⟩ := hBo
  have hL6 : Ls.length ≤ 6 := hL6
  have hLF : ∀ i, i < Ls.length → F i = Ls.getD i dS := hLF
  have fO : h.2 o = .inr (0, [.ref A, .int (iI (Ls.length : Int)), .int (iI ro), .int (iI me), .int (iI fl), .int (iI ho), .int (iI ec), .int (iI bk)]) := fO
  have nOA : o ≠ A := ne_oi fO fA
  obtain ⟨hWs, hro, hme, hfl, hho⟩ := hWB
  have hro : 0 ≤ ro ∧ ro ≤ 40 := hro
  have hme : 5 ≤ me ∧ me ≤ 35 := hme
  have hfl : 0 ≤ fl ∧ fl ≤ 999 := hfl
  have hho : 0 ≤ ho ∧ ho ≤ 9999 := hho
  have hWs : ∀ s ∈ Ls, WS s := hWs
  have hi : i < Ls.length := hi
  have hi6 : i < 6 := by omega
  obtain ⟨a, t, b, hbs⟩ : ∃ a t b, bs i = (a, t, b) := ⟨_, _, _, rfl⟩
  have hgi : g i = some a := by rw [(hK i hi6).1, hbs]
  obtain ⟨s, hs⟩ : ∃ s, s = Ls.getD i dS := ⟨_, rfl⟩
  have hS : SH G h a t b s := by have z := (hK i hi6).2; rw [hbs, hLF i hi, ← hs] at z; exact z
  have hW : WS s := by rw [hs]; exact hWs _ (getD_memS hi)
  obtain ⟨l, ex, wa, fo, du, se, co⟩ := s
  have hS0 := hS
  obtain ⟨gt, gb, ⟨ma, mt, mb⟩, ⟨nta, nba, ntb⟩, fa, ft, fb, hl, hr⟩ := hS
  have hl : l.length ≤ 200 := hl
  have hr : sr gt gb l := hr
  have fa : h.2 a = .inr (5, [.ref t, .ref b, .int (iI (l.length : Int)), .int (iI ex), .int fo, .int (iI wa), .int (iI (b2 du)), .int (iI (b2 se)), .int (iI (b2 co))]) := fa
  have hW0 := hW
  obtain ⟨h1, hnz, h4, hw0, hw1⟩ := hW
  have h1 : 1 ≤ l.length := h1
  have h4 : hgt l ≤ 4000 := h4
  have hw0 : 0 ≤ wa := hw0
  have hw1 : wa ≤ 40 := hw1
  have hnz : ∀ x ∈ l, x ≠ 0 := hnz
  have hg0 := hgt_nn l
  have hgl := hgt_ge l hnz
  have noa : o ≠ a := ne_oo fO fa (by decide)
  have not : o ≠ t := ne_oi fO ft
  have nob : o ≠ b := ne_oi fO fb
  have nAa : A ≠ a := (ne_oi fa fA).symm
  have nAt : A ≠ t := ne_sz fA ft (by decide)
  have nAb : A ≠ b := ne_sz fA fb (by decide)
  show RR G MX1_applySeal 0 [(0, .ref o), (1, .int (iI ((i : Int))))] [] h (xm_R MX1_applySeal).cells (xm_R MX1_applySeal).slots (fun o' h' => o' = .inl (some (.int (iI (cnt isSe (Ls.set i (seS (Ls.getD i dS) true)))))) ∧ BN G h' o A fp (aSeal ((ro, me, fl, ho, ec, bk), Ls) i) ∧ FRp fp h h')
  refine r_aload_n dX1_applySeal_0 0 rfl ?_
  refine r_get cl_X1 0 (by decide) kf_X1_11 dX1_applySeal_1 mO fO rfl ?_
  refine r_iload_n dX1_applySeal_4 1 rfl ?_
  refine i_aald rfl i rfl dX1_applySeal_5 mA fA (by omega) (by decide) hgi ?_
  refine i_const (1) dX1_applySeal_6 ?_
  refine i_put [.ref t, .ref b, .int (iI ((l.length : Int))), .int (iI ex), .int fo, .int (iI wa), .int (iI (b2 du)), .int (iI 1), .int (iI (b2 co))] cl_X8 7 (by decide) kf_X1_68 rfl dX1_applySeal_7 ma fa (b2_nar true) (b2_fit true) (by simp) rfl (fun h1 e0_1 e1_1 e2_1 => ?_)
  have mo_1 : o ∈ h1.1 := by rw [e0_1]; exact mO
  have fo_1 := (e2_1 _ noa).trans fO
  have mA_1 : A ∈ h1.1 := by rw [e0_1]; exact mA
  have fA_1 := (e2_1 _ nAa).trans fA
  have ma_1 : a ∈ h1.1 := by rw [e0_1]; exact ma
  have mt_1 : t ∈ h1.1 := by rw [e0_1]; exact mt
  have ft_1 := (e2_1 _ nta).trans ft
  have mb_1 : b ∈ h1.1 := by rw [e0_1]; exact mb
  have fb_1 := (e2_1 _ nba).trans fb
  refine r_aload_n dX1_applySeal_10 0 rfl ?_
  have hS9 : SH G h1 a t b (l, ex, wa, fo, du, true, co) := ⟨gt, gb, ⟨ma_1, mt_1, mb_1⟩, ⟨nta, nba, ntb⟩, e1_1, ft_1, fb_1, hl, hr⟩
  have fO9 : h1.2 o = .inr (0, bf A ((ro, me, fl, ho, ec, bk), Ls.set i (l, ex, wa, fo, du, true, co))) := by simp only [bf, List.length_set]; exact fo_1
  have hR := hBo0.mk4 hi6 hbs (FR4.wa e0_1 e2_1) hS9 fO9 (by show (Ls.set i _).length ≤ 6; rw [List.length_set]; exact hL6) (set_getDS hLF hi)
  have e : aSeal ((ro, me, fl, ho, ec, bk), Ls) i = ((ro, me, fl, ho, ec, bk), Ls.set i (l, ex, wa, fo, du, true, co)) := by unfold aSeal; dsimp only; rw [← hs]; try rfl
  have hWB9 : WB ((ro, me, fl, ho, ec, bk), Ls.set i (l, ex, wa, fo, du, true, co)) := hWB0.set hW0
  refine p_callV (As := []) (b := o) (rest := []) (w := (some (.int (iI (cnt isSe (Ls.set i (l, ex, wa, fo, du, true, co))))))) (st' := [.int (iI (cnt isSe (Ls.set i (l, ex, wa, fo, du, true, co))))]) kv_X1_applySeal_121 dX1_applySeal_11 rfl rfl (Nat.le_of_ble_eq_true rfl) (Nat.le_of_ble_eq_true rfl) (x_rv mo_1 fo_1 rfl) rfl rfl (c_X1_countSealed hR.1 hWB9) rfl (fun h9 e9 => ?_)
  rw [show h9 = h1 from e9]
  refine r_ireturn rfl rfl dX1_applySeal_14 ?_
  rw [e]
  exact ⟨by rw [← hs]; rfl, hR.1, hR.2⟩
set_option maxRecDepth 20000 in
set_option maxHeartbeats 1000000 in
theorem c_X1_applyCool {G : xG} {h : xH} {o A : Nat} {fp : List Nat} {B : AB} (hB : BN G h o A fp B) (hWB : WB B) {i : Nat} (hi : i < B.2.length) : CC G MX1_applyCool [.ref o, .int (iI ((i : Int)))] h (fun o' h' => o' = .inl (some (.int (iI (cnt isC (B.2.set i (coS (B.2.getD i dS) true)))))) ∧ BN G h' o A fp (aCool B i) ∧ FRp fp h h') := by
  have hWB0 := hWB
  obtain ⟨⟨ro, me, fl, ho, ec, bk⟩, Ls⟩ := B
  have hB0 := hB
  obtain ⟨g, bs, F, hBo⟩ := hB
  have hBo0 := hBo
  obtain ⟨⟨mO, mA⟩, fO, fA, hL6, hLF, hK, hD, hfp⟩ := hBo
  have hL6 : Ls.length ≤ 6 := hL6
  have hLF : ∀ i, i < Ls.length → F i = Ls.getD i dS := hLF
  have fO : h.2 o = .inr (0, [.ref A, .int (iI (Ls.length : Int)), .int (iI ro), .int (iI me), .int (iI fl), .int (iI ho), .int (iI ec), .int (iI bk)]) := fO
  have nOA : o ≠ A := ne_oi fO fA
  obtain ⟨hWs, hro, hme, hfl, hho⟩ := hWB
  have hro : 0 ≤ ro ∧ ro ≤ 40 := hro
  have hme : 5 ≤ me ∧ me ≤ 35 := hme
  have hfl : 0 ≤ fl ∧ fl ≤ 999 := hfl
  have hho : 0 ≤ ho ∧ ho ≤ 9999 := hho
  have hWs : ∀ s ∈ Ls, WS s := hWs
  have hi : i < Ls.length := hi
  have hi6 : i < 6 := by omega
  obtain ⟨a, t, b, hbs⟩ : ∃ a t b, bs i = (a, t, b) := ⟨_, _, _, rfl⟩
  have hgi : g i = some a := by rw [(hK i hi6).1, hbs]
  obtain ⟨s, hs⟩ : ∃ s, s = Ls.getD i dS := ⟨_, rfl⟩
  have hS : SH G h a t b s := by have z := (hK i hi6).2; rw [hbs, hLF i hi, ← hs] at z; exact z
  have hW : WS s := by rw [hs]; exact hWs _ (getD_memS hi)
  obtain ⟨l, ex, wa, fo, du, se, co⟩ := s
  have hS0 := hS
  obtain ⟨gt, gb, ⟨ma, mt, mb⟩, ⟨nta, nba, ntb⟩, fa, ft, fb, hl, hr⟩ := hS
  have hl : l.length ≤ 200 := hl
  have hr : sr gt gb l := hr
  have fa : h.2 a = .inr (5, [.ref t, .ref b, .int (iI (l.length : Int)), .int (iI ex), .int fo, .int (iI wa), .int (iI (b2 du)), .int (iI (b2 se)), .int (iI (b2 co))]) := fa
  have hW0 := hW
  obtain ⟨h1, hnz, h4, hw0, hw1⟩ := hW
  have h1 : 1 ≤ l.length := h1
  have h4 : hgt l ≤ 4000 := h4
  have hw0 : 0 ≤ wa := hw0
  have hw1 : wa ≤ 40 := hw1
  have hnz : ∀ x ∈ l, x ≠ 0 := hnz
  have hg0 := hgt_nn l
  have hgl := hgt_ge l hnz
  have noa : o ≠ a := ne_oo fO fa (by decide)
  have not : o ≠ t := ne_oi fO ft
  have nob : o ≠ b := ne_oi fO fb
  have nAa : A ≠ a := (ne_oi fa fA).symm
  have nAt : A ≠ t := ne_sz fA ft (by decide)
  have nAb : A ≠ b := ne_sz fA fb (by decide)
  show RR G MX1_applyCool 0 [(0, .ref o), (1, .int (iI ((i : Int))))] [] h (xm_R MX1_applyCool).cells (xm_R MX1_applyCool).slots (fun o' h' => o' = .inl (some (.int (iI (cnt isC (Ls.set i (coS (Ls.getD i dS) true)))))) ∧ BN G h' o A fp (aCool ((ro, me, fl, ho, ec, bk), Ls) i) ∧ FRp fp h h')
  refine r_aload_n dX1_applyCool_0 0 rfl ?_
  refine r_get cl_X1 0 (by decide) kf_X1_11 dX1_applyCool_1 mO fO rfl ?_
  refine r_iload_n dX1_applyCool_4 1 rfl ?_
  refine i_aald rfl i rfl dX1_applyCool_5 mA fA (by omega) (by decide) hgi ?_
  refine i_const (1) dX1_applyCool_6 ?_
  refine i_put [.ref t, .ref b, .int (iI ((l.length : Int))), .int (iI ex), .int fo, .int (iI wa), .int (iI (b2 du)), .int (iI (b2 se)), .int (iI 1)] cl_X8 8 (by decide) kf_X1_72 rfl dX1_applyCool_7 ma fa (b2_nar true) (b2_fit true) (by simp) rfl (fun h1 e0_1 e1_1 e2_1 => ?_)
  have mo_1 : o ∈ h1.1 := by rw [e0_1]; exact mO
  have fo_1 := (e2_1 _ noa).trans fO
  have mA_1 : A ∈ h1.1 := by rw [e0_1]; exact mA
  have fA_1 := (e2_1 _ nAa).trans fA
  have ma_1 : a ∈ h1.1 := by rw [e0_1]; exact ma
  have mt_1 : t ∈ h1.1 := by rw [e0_1]; exact mt
  have ft_1 := (e2_1 _ nta).trans ft
  have mb_1 : b ∈ h1.1 := by rw [e0_1]; exact mb
  have fb_1 := (e2_1 _ nba).trans fb
  refine r_aload_n dX1_applyCool_10 0 rfl ?_
  have hS9 : SH G h1 a t b (l, ex, wa, fo, du, se, true) := ⟨gt, gb, ⟨ma_1, mt_1, mb_1⟩, ⟨nta, nba, ntb⟩, e1_1, ft_1, fb_1, hl, hr⟩
  have fO9 : h1.2 o = .inr (0, bf A ((ro, me, fl, ho, ec, bk), Ls.set i (l, ex, wa, fo, du, se, true))) := by simp only [bf, List.length_set]; exact fo_1
  have hR := hBo0.mk4 hi6 hbs (FR4.wa e0_1 e2_1) hS9 fO9 (by show (Ls.set i _).length ≤ 6; rw [List.length_set]; exact hL6) (set_getDS hLF hi)
  have e : aCool ((ro, me, fl, ho, ec, bk), Ls) i = ((ro, me, fl, ho, ec, bk), Ls.set i (l, ex, wa, fo, du, se, true)) := by unfold aCool; dsimp only; rw [← hs]; try rfl
  have hWB9 : WB ((ro, me, fl, ho, ec, bk), Ls.set i (l, ex, wa, fo, du, se, true)) := hWB0.set hW0
  refine p_callV (As := []) (b := o) (rest := []) (w := (some (.int (iI (cnt isC (Ls.set i (l, ex, wa, fo, du, se, true))))))) (st' := [.int (iI (cnt isC (Ls.set i (l, ex, wa, fo, du, se, true))))]) kv_X1_applyCool_125 dX1_applyCool_11 rfl rfl (Nat.le_of_ble_eq_true rfl) (Nat.le_of_ble_eq_true rfl) (x_rv mo_1 fo_1 rfl) rfl rfl (c_X1_countCooling hR.1 hWB9) rfl (fun h9 e9 => ?_)
  rw [show h9 = h1 from e9]
  refine r_ireturn rfl rfl dX1_applyCool_14 ?_
  rw [e]
  exact ⟨by rw [← hs]; rfl, hR.1, hR.2⟩
set_option maxRecDepth 20000 in
set_option maxHeartbeats 1000000 in
theorem c_X1_applyButter {G : xG} {h : xH} {o A : Nat} {fp : List Nat} {B : AB} (hB : BN G h o A fp B) (hWB : WB B) {i : Nat} (hi : i < B.2.length) {T : Int} (hT : 1 ≤ T) (hroom : (B.2.getD i dS).1.length < 200) : CC G MX1_applyButter [.ref o, .int (iI ((i : Int))), .int (iI T)] h (fun o' h' => o' = .inl (some (.int (iI (((butS (B.2.getD i dS) T).1.length : Int))))) ∧ BN G h' o A fp (aBut B i T) ∧ FRp fp h h') := by
  have hWB0 := hWB
  obtain ⟨⟨ro, me, fl, ho, ec, bk⟩, Ls⟩ := B
  have hB0 := hB
  obtain ⟨g, bs, F, hBo⟩ := hB
  have hBo0 := hBo
  obtain ⟨⟨mO, mA⟩, fO, fA, hL6, hLF, hK, hD, hfp⟩ := hBo
  have hL6 : Ls.length ≤ 6 := hL6
  have hLF : ∀ i, i < Ls.length → F i = Ls.getD i dS := hLF
  have fO : h.2 o = .inr (0, [.ref A, .int (iI (Ls.length : Int)), .int (iI ro), .int (iI me), .int (iI fl), .int (iI ho), .int (iI ec), .int (iI bk)]) := fO
  have nOA : o ≠ A := ne_oi fO fA
  obtain ⟨hWs, hro, hme, hfl, hho⟩ := hWB
  have hro : 0 ≤ ro ∧ ro ≤ 40 := hro
  have hme : 5 ≤ me ∧ me ≤ 35 := hme
  have hfl : 0 ≤ fl ∧ fl ≤ 999 := hfl
  have hho : 0 ≤ ho ∧ ho ≤ 9999 := hho
  have hWs : ∀ s ∈ Ls, WS s := hWs
  have hi : i < Ls.length := hi
  have hi6 : i < 6 := by omega
  obtain ⟨a, t, b, hbs⟩ : ∃ a t b, bs i = (a, t, b) := ⟨_, _, _, rfl⟩
  have hgi : g i = some a := by rw [(hK i hi6).1, hbs]
  obtain ⟨s, hs⟩ : ∃ s, s = Ls.getD i dS := ⟨_, rfl⟩
  have hS : SH G h a t b s := by have z := (hK i hi6).2; rw [hbs, hLF i hi, ← hs] at z; exact z
  have hW : WS s := by rw [hs]; exact hWs _ (getD_memS hi)
  obtain ⟨l, ex, wa, fo, du, se, co⟩ := s
  have hS0 := hS
  obtain ⟨gt, gb, ⟨ma, mt, mb⟩, ⟨nta, nba, ntb⟩, fa, ft, fb, hl, hr⟩ := hS
  have hl : l.length ≤ 200 := hl
  have hr : sr gt gb l := hr
  have fa : h.2 a = .inr (5, [.ref t, .ref b, .int (iI (l.length : Int)), .int (iI ex), .int fo, .int (iI wa), .int (iI (b2 du)), .int (iI (b2 se)), .int (iI (b2 co))]) := fa
  have hW0 := hW
  obtain ⟨h1, hnz, h4, hw0, hw1⟩ := hW
  have h1 : 1 ≤ l.length := h1
  have h4 : hgt l ≤ 4000 := h4
  have hw0 : 0 ≤ wa := hw0
  have hw1 : wa ≤ 40 := hw1
  have hnz : ∀ x ∈ l, x ≠ 0 := hnz
  have hg0 := hgt_nn l
  have hgl := hgt_ge l hnz
  have noa : o ≠ a := ne_oo fO fa (by decide)
  have not : o ≠ t := ne_oi fO ft
  have nob : o ≠ b := ne_oi fO fb
  have nAa : A ≠ a := (ne_oi fa fA).symm
  have nAt : A ≠ t := ne_sz fA ft (by decide)
  have nAb : A ≠ b := ne_sz fA fb (by decide)
  have hroom : l.length < 200 := by have z : (Ls.getD i dS).1.length < 200 := hroom; rw [← hs] at z; exact z
  show RR G MX1_applyButter 0 [(0, .ref o), (1, .int (iI ((i : Int)))), (2, .int (iI T))] [] h (xm_R MX1_applyButter).cells (xm_R MX1_applyButter).slots (fun o' h' => o' = .inl (some (.int (iI (((butS (Ls.getD i dS) T).1.length : Int))))) ∧ BN G h' o A fp (aBut ((ro, me, fl, ho, ec, bk), Ls) i T) ∧ FRp fp h h')
  refine r_aload_n dX1_applyButter_0 0 rfl ?_
  refine r_get cl_X1 0 (by decide) kf_X1_11 dX1_applyButter_1 mO fO rfl ?_
  refine r_iload_n dX1_applyButter_4 1 rfl ?_
  refine i_aald rfl i rfl dX1_applyButter_5 mA fA (by omega) (by decide) hgi ?_
  refine r_iload_n dX1_applyButter_6 2 rfl ?_
  refine p_callV (As := [.int (iI T)]) (b := a) (rest := []) (w := none) (st' := []) kv_X1_applyButter_147 dX1_applyButter_7 rfl rfl (Nat.le_of_ble_eq_true rfl) (Nat.le_of_ble_eq_true rfl) (x_rv ma fa rfl) rfl rfl (c_X8_butterTop hS0 hT hroom) rfl (fun h9 e9 => ?_)
  have hS0_9 := e9.1
  obtain ⟨hS9, hF9⟩ := e9
  obtain ⟨gt9, gb9, ⟨ma9, mt9, mb9⟩, -, fa9, ft9, fb9, hl9, hr9⟩ := hS9
  have fa9 : h9.2 a = .inr (5, [.ref t, .ref b, .int (iI (((putN l (-T) (!du)).1).length : Int)), .int (iI (ex + (if (putN l (-T) (!du)).2 then 0 else 1))), .int fo, .int (iI wa), .int (iI (b2 du)), .int (iI (b2 false)), .int (iI (b2 co))]) := fa9
  have hl9 : ((putN l (-T) (!du)).1).length ≤ 200 := hl9
  have hr9 : sr gt9 gb9 ((putN l (-T) (!du)).1) := hr9
  have mo_9 : o ∈ h9.1 := by rw [hF9.1]; exact mO
  have fo_9 := (hF9.2 o noa not nob).trans fO
  have mA_9 : A ∈ h9.1 := by rw [hF9.1]; exact mA
  have fA_9 := (hF9.2 A nAa nAt nAb).trans fA
  refine r_aload_n dX1_applyButter_10 0 rfl ?_
  refine r_get cl_X1 0 (by decide) kf_X1_11 dX1_applyButter_11 mo_9 fo_9 rfl ?_
  refine r_iload_n dX1_applyButter_14 1 rfl ?_
  refine i_aald rfl i rfl dX1_applyButter_15 mA_9 fA_9 (by omega) (by decide) hgi ?_
  refine r_get cl_X8 2 (by decide) kf_X1_65 dX1_applyButter_16 ma9 fa9 rfl ?_
  refine r_ireturn rfl rfl dX1_applyButter_19 ?_
  have hS9 : SH G h9 a t b (butS (l, ex, wa, fo, du, se, co) T) := hS0_9
  have fO9 : h9.2 o = .inr (0, bf A ((ro, me, fl, ho, ec, bk), Ls.set i (butS (l, ex, wa, fo, du, se, co) T))) := by simp only [bf, List.length_set]; exact fo_9
  have hR := hBo0.mk4 hi6 hbs (FR4.of hF9) hS9 fO9 (by show (Ls.set i _).length ≤ 6; rw [List.length_set]; exact hL6) (set_getDS hLF hi)
  have e : aBut ((ro, me, fl, ho, ec, bk), Ls) i T = ((ro, me, fl, ho, ec, bk), Ls.set i (butS (l, ex, wa, fo, du, se, co) T)) := by unfold aBut; dsimp only; rw [← hs]; try rfl
  rw [e]
  exact ⟨by rw [← hs]; rfl, hR.1, hR.2⟩
theorem FRw.dummy : True := trivial
def FRw (o : Nat) (h h' : xH) : Prop := h'.1 = h.1 ∧ ∀ q, q ≠ o → h'.2 q = h.2 q
theorem FRw.mk {o : Nat} {h h' : xH} (e0 : h'.1 = h.1) (e2 : ∀ q, q ≠ o → h'.2 q = h.2 q) : FRw o h h' := ⟨e0, e2⟩
theorem FRw.tr {o : Nat} {h h1 h2 : xH} (x : FRw o h h1) (y : FRw o h1 h2) : FRw o h h2 := ⟨y.1.trans x.1, fun q hq => (y.2 q hq).trans (x.2 q hq)⟩
set_option maxRecDepth 20000 in
set_option maxHeartbeats 1000000 in
theorem c_X1_applyFlour {G : xG} {h : xH} {o A : Nat} {fp : List Nat} {B : AB} (hB : BN G h o A fp B) {n : Int} : CC G MX1_applyFlour [.ref o, .int (iI n)] h (fun o' h' => o' = .inl (some (.int (iI (B.1.2.2.1 + n)))) ∧ BN G h' o A fp (aFlour B n) ∧ FRp fp h h') := by
  obtain ⟨⟨ro, me, fl, ho, ec, bk⟩, Ls⟩ := B
  have hB0 := hB
  obtain ⟨g, bs, F, hBo⟩ := hB
  have hBo0 := hBo
  obtain ⟨⟨mO, mA⟩, fO, fA, hL6, hLF, hK, hD, hfp⟩ := hBo
  have hL6 : Ls.length ≤ 6 := hL6
  have hLF : ∀ i, i < Ls.length → F i = Ls.getD i dS := hLF
  have fO : h.2 o = .inr (0, [.ref A, .int (iI (Ls.length : Int)), .int (iI ro), .int (iI me), .int (iI fl), .int (iI ho), .int (iI ec), .int (iI bk)]) := fO
  have nOA : o ≠ A := ne_oi fO fA
  show RR G MX1_applyFlour 0 [(0, .ref o), (1, .int (iI n))] [] h (xm_R MX1_applyFlour).cells (xm_R MX1_applyFlour).slots (fun o' h' => o' = .inl (some (.int (iI (fl + n)))) ∧ BN G h' o A fp (aFlour ((ro, me, fl, ho, ec, bk), Ls) n) ∧ FRp fp h h')
  refine r_aload_n dX1_applyFlour_0 0 rfl ?_
  refine r_dup dX1_applyFlour_1 rfl ?_
  refine r_get cl_X1 4 (by decide) kf_X1_41 dX1_applyFlour_2 mO fO rfl ?_
  refine r_iload_n dX1_applyFlour_5 1 rfl ?_
  refine i_add dX1_applyFlour_6 ?_
  refine i_put [.ref A, .int (iI ((Ls.length : Int))), .int (iI ro), .int (iI me), .int (iI (fl + n)), .int (iI ho), .int (iI ec), .int (iI bk)] cl_X1 4 (by decide) kf_X1_41 rfl dX1_applyFlour_7 mO fO rfl rfl (by simp) rfl (fun h1 e0_1 e1_1 e2_1 => ?_)
  have mo_1 : o ∈ h1.1 := by rw [e0_1]; exact mO
  have mA_1 : A ∈ h1.1 := by rw [e0_1]; exact mA
  have fA_1 := (e2_1 _ (ne_oi fO fA).symm).trans fA
  refine r_aload_n dX1_applyFlour_10 0 rfl ?_
  refine r_get cl_X1 4 (by decide) kf_X1_41 dX1_applyFlour_11 mo_1 e1_1 rfl ?_
  refine r_ireturn rfl rfl dX1_applyFlour_14 ?_
  have hw : FRw o h h1 := (FRw.mk e0_1 e2_1)
  have hR := hBo0.hd (B' := ((ro, me, fl + n, ho, ec, bk), Ls)) hw.1 hw.2 e1_1 hL6 hLF
  exact ⟨rfl, hR.1, hR.2⟩
set_option maxRecDepth 20000 in
set_option maxHeartbeats 1000000 in
theorem c_X1_begin {G : xG} {h : xH} {o A : Nat} {fp : List Nat} {B : AB} (hB : BN G h o A fp B) {r m f : Int} : CC G MX1_begin [.ref o, .int (iI r), .int (iI m), .int (iI f)] h (fun o' h' => o' = .inl none ∧ BN G h' o A fp (((r, m, f, 0, 0, 0), [])) ∧ FRp fp h h') := by
  obtain ⟨⟨ro, me, fl, ho, ec, bk⟩, Ls⟩ := B
  have hB0 := hB
  obtain ⟨g, bs, F, hBo⟩ := hB
  have hBo0 := hBo
  obtain ⟨⟨mO, mA⟩, fO, fA, hL6, hLF, hK, hD, hfp⟩ := hBo
  have hL6 : Ls.length ≤ 6 := hL6
  have hLF : ∀ i, i < Ls.length → F i = Ls.getD i dS := hLF
  have fO : h.2 o = .inr (0, [.ref A, .int (iI (Ls.length : Int)), .int (iI ro), .int (iI me), .int (iI fl), .int (iI ho), .int (iI ec), .int (iI bk)]) := fO
  have nOA : o ≠ A := ne_oi fO fA
  show RR G MX1_begin 0 [(0, .ref o), (1, .int (iI r)), (2, .int (iI m)), (3, .int (iI f))] [] h (xm_R MX1_begin).cells (xm_R MX1_begin).slots (fun o' h' => o' = .inl none ∧ BN G h' o A fp (((r, m, f, 0, 0, 0), [])) ∧ FRp fp h h')
  refine r_aload_n dX1_begin_0 0 rfl ?_
  refine i_const (0) dX1_begin_1 ?_
  refine i_put [.ref A, .int (iI 0), .int (iI ro), .int (iI me), .int (iI fl), .int (iI ho), .int (iI ec), .int (iI bk)] cl_X1 1 (by decide) kf_X1_31 rfl dX1_begin_2 mO fO rfl rfl (by simp) rfl (fun h1 e0_1 e1_1 e2_1 => ?_)
  have mo_1 : o ∈ h1.1 := by rw [e0_1]; exact mO
  have mA_1 : A ∈ h1.1 := by rw [e0_1]; exact mA
  have fA_1 := (e2_1 _ (ne_oi fO fA).symm).trans fA
  refine r_aload_n dX1_begin_5 0 rfl ?_
  refine r_iload_n dX1_begin_6 1 rfl ?_
  refine i_put [.ref A, .int (iI 0), .int (iI r), .int (iI me), .int (iI fl), .int (iI ho), .int (iI ec), .int (iI bk)] cl_X1 2 (by decide) kf_X1_35 rfl dX1_begin_7 mo_1 e1_1 rfl rfl (by simp) rfl (fun h2 e0_2 e1_2 e2_2 => ?_)
  have mo_2 : o ∈ h2.1 := by rw [e0_2]; exact mo_1
  have mA_2 : A ∈ h2.1 := by rw [e0_2]; exact mA_1
  have fA_2 := (e2_2 _ (ne_oi fO fA).symm).trans fA_1
  refine r_aload_n dX1_begin_10 0 rfl ?_
  refine r_iload_n dX1_begin_11 2 rfl ?_
  refine i_put [.ref A, .int (iI 0), .int (iI r), .int (iI m), .int (iI fl), .int (iI ho), .int (iI ec), .int (iI bk)] cl_X1 3 (by decide) kf_X1_38 rfl dX1_begin_12 mo_2 e1_2 rfl rfl (by simp) rfl (fun h3 e0_3 e1_3 e2_3 => ?_)
  have mo_3 : o ∈ h3.1 := by rw [e0_3]; exact mo_2
  have mA_3 : A ∈ h3.1 := by rw [e0_3]; exact mA_2
  have fA_3 := (e2_3 _ (ne_oi fO fA).symm).trans fA_2
  refine r_aload_n dX1_begin_15 0 rfl ?_
  refine r_iload_n dX1_begin_16 3 rfl ?_
  refine i_put [.ref A, .int (iI 0), .int (iI r), .int (iI m), .int (iI f), .int (iI ho), .int (iI ec), .int (iI bk)] cl_X1 4 (by decide) kf_X1_41 rfl dX1_begin_17 mo_3 e1_3 rfl rfl (by simp) rfl (fun h4 e0_4 e1_4 e2_4 => ?_)
  have mo_4 : o ∈ h4.1 := by rw [e0_4]; exact mo_3
  have mA_4 : A ∈ h4.1 := by rw [e0_4]; exact mA_3
  have fA_4 := (e2_4 _ (ne_oi fO fA).symm).trans fA_3
  refine r_aload_n dX1_begin_20 0 rfl ?_
  refine i_const (0) dX1_begin_21 ?_
  refine i_put [.ref A, .int (iI 0), .int (iI r), .int (iI m), .int (iI f), .int (iI 0), .int (iI ec), .int (iI bk)] cl_X1 5 (by decide) kf_X1_44 rfl dX1_begin_22 mo_4 e1_4 rfl rfl (by simp) rfl (fun h5 e0_5 e1_5 e2_5 => ?_)
  have mo_5 : o ∈ h5.1 := by rw [e0_5]; exact mo_4
  have mA_5 : A ∈ h5.1 := by rw [e0_5]; exact mA_4
  have fA_5 := (e2_5 _ (ne_oi fO fA).symm).trans fA_4
  refine r_aload_n dX1_begin_25 0 rfl ?_
  refine i_const (0) dX1_begin_26 ?_
  refine i_put [.ref A, .int (iI 0), .int (iI r), .int (iI m), .int (iI f), .int (iI 0), .int (iI 0), .int (iI bk)] cl_X1 6 (by decide) kf_X1_47 rfl dX1_begin_27 mo_5 e1_5 rfl rfl (by simp) rfl (fun h6 e0_6 e1_6 e2_6 => ?_)
  have mo_6 : o ∈ h6.1 := by rw [e0_6]; exact mo_5
  have mA_6 : A ∈ h6.1 := by rw [e0_6]; exact mA_5
  have fA_6 := (e2_6 _ (ne_oi fO fA).symm).trans fA_5
  refine r_aload_n dX1_begin_30 0 rfl ?_
  refine i_const (0) dX1_begin_31 ?_
  refine i_put [.ref A, .int (iI 0), .int (iI r), .int (iI m), .int (iI f), .int (iI 0), .int (iI 0), .int (iI 0)] cl_X1 7 (by decide) kf_X1_50 rfl dX1_begin_32 mo_6 e1_6 rfl rfl (by simp) rfl (fun h7 e0_7 e1_7 e2_7 => ?_)
  have mo_7 : o ∈ h7.1 := by rw [e0_7]; exact mo_6
  have mA_7 : A ∈ h7.1 := by rw [e0_7]; exact mA_6
  have fA_7 := (e2_7 _ (ne_oi fO fA).symm).trans fA_6
  refine r_return rfl dX1_begin_35 ?_
  have hw : FRw o h h7 := (FRw.tr (FRw.tr (FRw.tr (FRw.tr (FRw.tr (FRw.tr (FRw.mk e0_1 e2_1) (FRw.mk e0_2 e2_2)) (FRw.mk e0_3 e2_3)) (FRw.mk e0_4 e2_4)) (FRw.mk e0_5 e2_5)) (FRw.mk e0_6 e2_6)) (FRw.mk e0_7 e2_7))
  have hR := hBo0.hd (B' := ((r, m, f, 0, 0, 0), [])) hw.1 hw.2 e1_7 (Nat.zero_le _) (fun k hk => absurd hk (Nat.not_lt_zero k))
  exact ⟨rfl, hR.1, hR.2⟩
