/-! ===== sheets that come and go ===== -/
theorem SH.fr9 {G : xG} {h h' : xH} {o a t b : Nat} {s : AS} (hS : SH G h a t b s) (n1 : o ≠ a) (n2 : o ≠ t) (n3 : o ≠ b) (e0 : h'.1 = h.1) (e2 : ∀ q, q ≠ o → h'.2 q = h.2 q) : SH G h' a t b s := by
  obtain ⟨gt, gb, ⟨ma, mt, mb⟩, nn, fa, ft, fb, hl, hr⟩ := hS
  exact ⟨gt, gb, ⟨by rw [e0]; exact ma, by rw [e0]; exact mt, by rw [e0]; exact mb⟩, nn, (e2 a n1.symm).trans fa, (e2 t n2.symm).trans ft, (e2 b n3.symm).trans fb, hl, hr⟩
set_option maxRecDepth 20000 in
set_option maxHeartbeats 1000000 in
theorem c_X1_addSheet {G : xG} {h : xH} {o A : Nat} {fp : List Nat} {B : AB} (hB : BN G h o A fp B) {T : Int} (hc : B.2.length < 6) : CC G MX1_addSheet [.ref o, .int (iI T)] h (fun o' h' => o' = .inl none ∧ BN G h' o A fp ((B.1, B.2 ++ [([], 0, T, iI 0, false, false, false)])) ∧ FRp fp h h') := by
  obtain ⟨⟨ro, me, fl, ho, ec, bk⟩, Ls⟩ := B
  have hB0 := hB
  obtain ⟨g, bs, F, hBo⟩ := hB
  have hBo0 := hBo
  obtain ⟨⟨mO, mA⟩, fO, fA, hL6, hLF, hK, hD, hfp⟩ := hBo
  have hL6 : Ls.length ≤ 6 := hL6
  have hLF : ∀ i, i < Ls.length → F i = Ls.getD i dS := hLF
  have fO : h.2 o = .inr (0, [.ref A, .int (iI (Ls.length : Int)), .int (iI ro), .int (iI me), .int (iI fl), .int (iI ho), .int (iI ec), .int (iI bk)]) := fO
  have nOA : o ≠ A := ne_oi fO fA
  have hc : Ls.length < 6 := hc
  have hi6 : Ls.length < 6 := by omega
  obtain ⟨a, t, b, hbs⟩ : ∃ a t b, bs Ls.length = (a, t, b) := ⟨_, _, _, rfl⟩
  have hgi : g Ls.length = some a := by rw [(hK Ls.length hi6).1, hbs]
  obtain ⟨s, hs⟩ : ∃ s, s = F Ls.length := ⟨_, rfl⟩
  have hS : SH G h a t b s := by have z := (hK Ls.length hi6).2; rw [hbs, ← hs] at z; exact z
  obtain ⟨l, ex, wa, fo, du, se, co⟩ := s
  have hS0 := hS
  obtain ⟨gt, gb, ⟨ma, mt, mb⟩, ⟨nta, nba, ntb⟩, fa, ft, fb, hl, hr⟩ := hS
  have hl : l.length ≤ 200 := hl
  have hr : sr gt gb l := hr
  have fa : h.2 a = .inr (5, [.ref t, .ref b, .int (iI (l.length : Int)), .int (iI ex), .int fo, .int (iI wa), .int (iI (b2 du)), .int (iI (b2 se)), .int (iI (b2 co))]) := fa
  have noa : o ≠ a := ne_oo fO fa (by decide)
  have not : o ≠ t := ne_oi fO ft
  have nob : o ≠ b := ne_oi fO fb
  have nAa : A ≠ a := (ne_oi fa fA).symm
  have nAt : A ≠ t := ne_sz fA ft (by decide)
  have nAb : A ≠ b := ne_sz fA fb (by decide)
  show RR G MX1_addSheet 0 [(0, .ref o), (1, .int (iI T))] [] h (xm_R MX1_addSheet).cells (xm_R MX1_addSheet).slots (fun o' h' => o' = .inl none ∧ BN G h' o A fp (((ro, me, fl, ho, ec, bk), Ls ++ [([], 0, T, iI 0, false, false, false)])) ∧ FRp fp h h')
  refine r_aload_n dX1_addSheet_0 0 rfl ?_
  refine r_get cl_X1 1 (by decide) kf_X1_31 dX1_addSheet_1 mO fO rfl ?_
  refine i_bipush (6) (by decide) dX1_addSheet_4 ?_
  refine i_icmpge dX1_addSheet_6 (tgt := 32) (by decide) (by unfold in32; omega) ⟨by decide, by decide⟩ (fun c6 => ?_) (fun c6 => ?_)
  · refine r_return rfl dX1_addSheet_32 ?_
    exfalso
    have hc : Ls.length < 6 := hc
    omega
  · refine r_aload_n dX1_addSheet_9 0 rfl ?_
    refine r_get cl_X1 0 (by decide) kf_X1_11 dX1_addSheet_10 mO fO rfl ?_
    refine r_aload_n dX1_addSheet_13 0 rfl ?_
    refine r_get cl_X1 1 (by decide) kf_X1_31 dX1_addSheet_14 mO fO rfl ?_
    refine i_aald rfl Ls.length rfl dX1_addSheet_17 mA fA (by omega) (by decide) hgi ?_
    refine r_iload_n dX1_addSheet_18 1 rfl ?_
    refine p_callV (As := [.int (iI T)]) (b := a) (rest := []) (w := none) (st' := []) kv_X1_addSheet_53 dX1_addSheet_19 rfl rfl (Nat.le_of_ble_eq_true rfl) (Nat.le_of_ble_eq_true rfl) (x_rv ma fa rfl) rfl rfl (c_X8_begin hS0) rfl (fun h9 e9 => ?_)
    obtain ⟨hS9, hF9⟩ := e9
    have mo_9 : o ∈ h9.1 := by rw [hF9.1]; exact mO
    have fo_9 := (hF9.2 o noa not nob).trans fO
    have mA_9 : A ∈ h9.1 := by rw [hF9.1]; exact mA
    have fA_9 := (hF9.2 A nAa nAt nAb).trans fA
    refine r_aload_n dX1_addSheet_22 0 rfl ?_
    refine r_dup dX1_addSheet_23 rfl ?_
    refine r_get cl_X1 1 (by decide) kf_X1_31 dX1_addSheet_24 mo_9 fo_9 rfl ?_
    refine i_const (1) dX1_addSheet_27 ?_
    refine i_add dX1_addSheet_28 ?_
    refine i_put [.ref A, .int (iI ((Ls.length : Int) + 1)), .int (iI ro), .int (iI me), .int (iI fl), .int (iI ho), .int (iI ec), .int (iI bk)] cl_X1 1 (by decide) kf_X1_31 rfl dX1_addSheet_29 mo_9 fo_9 rfl rfl (by simp) rfl (fun h1 e0_1 e1_1 e2_1 => ?_)
    have mo_1 : o ∈ h1.1 := by rw [e0_1]; exact mo_9
    have mA_1 : A ∈ h1.1 := by rw [e0_1]; exact mA_9
    have fA_1 := (e2_1 _ (Ne.symm nOA)).trans fA_9
    refine r_return rfl dX1_addSheet_32 ?_
    have hS8 : SH G h1 a t b ([], 0, T, iI 0, false, false, false) := SH.fr9 hS9 noa not nob e0_1 e2_1
    have fO9 : h1.2 o = .inr (0, bf A ((ro, me, fl, ho, ec, bk), Ls ++ [([], 0, T, iI 0, false, false, false)])) := by simp only [bf, List.length_append, List.length_singleton]; exact e1_1
    have hR := hBo0.mk4 hi6 hbs (FR4.tr (FR4.of hF9) (FR4.wo e0_1 e2_1)) hS8 fO9 (by show (Ls ++ [_]).length ≤ 6; rw [List.length_append, List.length_singleton]; omega) (app_getDS hLF)
    exact ⟨rfl, hR.1, hR.2⟩
def ldS (s : AS) (x : Int) : AS := (s.1 ++ [x], s.2.1 + 1, s.2.2.1, s.2.2.2.1, s.2.2.2.2.1, s.2.2.2.2.2.1, s.2.2.2.2.2.2)
def addL (B : AB) (x : Int) : AB := (B.1, B.2.set (B.2.length - 1) (ldS (B.2.getD (B.2.length - 1) dS) x))
set_option maxRecDepth 20000 in
set_option maxHeartbeats 1000000 in
theorem c_X1_addLayer {G : xG} {h : xH} {o A : Nat} {fp : List Nat} {B : AB} (hB : BN G h o A fp B) {x : Int} (hc : 1 ≤ B.2.length) (hroom : (B.2.getD (B.2.length - 1) dS).1.length < 200) : CC G MX1_addLayer [.ref o, .int (iI (b2 (isB x))), .int (iI (sz x))] h (fun o' h' => o' = .inl none ∧ BN G h' o A fp (addL B x) ∧ FRp fp h h') := by
  obtain ⟨⟨ro, me, fl, ho, ec, bk⟩, Ls⟩ := B
  have hB0 := hB
  obtain ⟨g, bs, F, hBo⟩ := hB
  have hBo0 := hBo
  obtain ⟨⟨mO, mA⟩, fO, fA, hL6, hLF, hK, hD, hfp⟩ := hBo
  have hL6 : Ls.length ≤ 6 := hL6
  have hLF : ∀ i, i < Ls.length → F i = Ls.getD i dS := hLF
  have fO : h.2 o = .inr (0, [.ref A, .int (iI (Ls.length : Int)), .int (iI ro), .int (iI me), .int (iI fl), .int (iI ho), .int (iI ec), .int (iI bk)]) := fO
  have nOA : o ≠ A := ne_oi fO fA
  have hc : 1 ≤ Ls.length := hc
  have hi : (Ls.length - 1) < Ls.length := (by omega)
  have hi6 : (Ls.length - 1) < 6 := by omega
  obtain ⟨a, t, b, hbs⟩ : ∃ a t b, bs (Ls.length - 1) = (a, t, b) := ⟨_, _, _, rfl⟩
  have hgi : g (Ls.length - 1) = some a := by rw [(hK (Ls.length - 1) hi6).1, hbs]
  obtain ⟨s, hs⟩ : ∃ s, s = Ls.getD (Ls.length - 1) dS := ⟨_, rfl⟩
  have hS : SH G h a t b s := by have z := (hK (Ls.length - 1) hi6).2; rw [hbs, hLF (Ls.length - 1) hi, ← hs] at z; exact z
  obtain ⟨l, ex, wa, fo, du, se, co⟩ := s
  have hS0 := hS
  obtain ⟨gt, gb, ⟨ma, mt, mb⟩, ⟨nta, nba, ntb⟩, fa, ft, fb, hl, hr⟩ := hS
  have hl : l.length ≤ 200 := hl
  have hr : sr gt gb l := hr
  have fa : h.2 a = .inr (5, [.ref t, .ref b, .int (iI (l.length : Int)), .int (iI ex), .int fo, .int (iI wa), .int (iI (b2 du)), .int (iI (b2 se)), .int (iI (b2 co))]) := fa
  have noa : o ≠ a := ne_oo fO fa (by decide)
  have not : o ≠ t := ne_oi fO ft
  have nob : o ≠ b := ne_oi fO fb
  have nAa : A ≠ a := (ne_oi fa fA).symm
  have nAt : A ≠ t := ne_sz fA ft (by decide)
  have nAb : A ≠ b := ne_sz fA fb (by decide)
  have hroom : l.length < 200 := by have z : (Ls.getD (Ls.length - 1) dS).1.length < 200 := hroom; rw [← hs] at z; exact z
  show RR G MX1_addLayer 0 [(0, .ref o), (1, .int (iI (b2 (isB x)))), (2, .int (iI (sz x)))] [] h (xm_R MX1_addLayer).cells (xm_R MX1_addLayer).slots (fun o' h' => o' = .inl none ∧ BN G h' o A fp (addL ((ro, me, fl, ho, ec, bk), Ls) x) ∧ FRp fp h h')
  refine r_aload_n dX1_addLayer_0 0 rfl ?_
  refine r_get cl_X1 1 (by decide) kf_X1_31 dX1_addLayer_1 mO fO rfl ?_
  refine i_ifle dX1_addLayer_4 (tgt := 23) (by decide) (by unfold in32; omega) (fun c4 => ?_) (fun c4 => ?_)
  · refine r_return rfl dX1_addLayer_23 ?_
    exfalso
    omega
  · refine r_aload_n dX1_addLayer_7 0 rfl ?_
    refine r_get cl_X1 0 (by decide) kf_X1_11 dX1_addLayer_8 mO fO rfl ?_
    refine r_aload_n dX1_addLayer_11 0 rfl ?_
    refine r_get cl_X1 1 (by decide) kf_X1_31 dX1_addLayer_12 mO fO rfl ?_
    refine i_const (1) dX1_addLayer_15 ?_
    refine i_sub dX1_addLayer_16 ?_
    refine i_aald rfl (Ls.length - 1) (by omega) dX1_addLayer_17 mA fA (by omega) (by decide) hgi ?_
    refine r_iload_n dX1_addLayer_18 1 rfl ?_
    refine r_iload_n dX1_addLayer_19 2 rfl ?_
    refine p_callV (As := [.int (iI (b2 (isB x))), .int (iI (sz x))]) (b := a) (rest := []) (w := none) (st' := []) kv_X1_addLayer_55 dX1_addLayer_20 rfl rfl (Nat.le_of_ble_eq_true rfl) (Nat.le_of_ble_eq_true rfl) (x_rv ma fa rfl) rfl rfl (c_X8_load hS0 hroom) rfl (fun h9 e9 => ?_)
    obtain ⟨hS9, hF9⟩ := e9
    have mo_9 : o ∈ h9.1 := by rw [hF9.1]; exact mO
    have fo_9 := (hF9.2 o noa not nob).trans fO
    have mA_9 : A ∈ h9.1 := by rw [hF9.1]; exact mA
    have fA_9 := (hF9.2 A nAa nAt nAb).trans fA
    refine r_return rfl dX1_addLayer_23 ?_
    have fO9 : h9.2 o = .inr (0, bf A ((ro, me, fl, ho, ec, bk), Ls.set (Ls.length - 1) (l ++ [x], ex + 1, wa, fo, du, se, co))) := by simp only [bf, List.length_set]; exact fo_9
    have hR := hBo0.mk4 hi6 hbs (FR4.of hF9) hS9 fO9 (by show (Ls.set _ _).length ≤ 6; rw [List.length_set]; exact hL6) (set_getDS hLF hi)
    have e : addL ((ro, me, fl, ho, ec, bk), Ls) x = ((ro, me, fl, ho, ec, bk), Ls.set (Ls.length - 1) (l ++ [x], ex + 1, wa, fo, du, se, co)) := by unfold addL ldS; dsimp only; rw [← hs]
    rw [e]
    exact ⟨rfl, hR.1, hR.2⟩
set_option maxRecDepth 20000 in
set_option maxHeartbeats 1000000 in
theorem c_X1_applyCut {G : xG} {h : xH} {o A : Nat} {fp : List Nat} {B : AB} (hB : BN G h o A fp B) {i : Nat} (hi : i < B.2.length) (hc : B.2.length < 6) : CC G MX1_applyCut [.ref o, .int (iI ((i : Int)))] h (fun o' h' => o' = .inl (some (.int (iI ((B.2.length : Int))))) ∧ BN G h' o A fp (aCut B i) ∧ FRp fp h h') := by
  obtain ⟨⟨ro, me, fl, ho, ec, bk⟩, Ls⟩ := B
  have hB0 := hB
  obtain ⟨g, bs, F, hBo⟩ := hB
  have hBo0 := hBo
  obtain ⟨⟨mO, mA⟩, fO, fA, hL6, hLF, hK, hD, hfp⟩ := hBo
  have hL6 : Ls.length ≤ 6 := hL6
  have hLF : ∀ i, i < Ls.length → F i = Ls.getD i dS := hLF
  have fO : h.2 o = .inr (0, [.ref A, .int (iI (Ls.length : Int)), .int (iI ro), .int (iI me), .int (iI fl), .int (iI ho), .int (iI ec), .int (iI bk)]) := fO
  have nOA : o ≠ A := ne_oi fO fA
  have hc : Ls.length < 6 := hc
  have hi : i < Ls.length := hi
  have hi6 : i < 6 := by omega
  obtain ⟨a, t, b, hbs⟩ : ∃ a t b, bs i = (a, t, b) := ⟨_, _, _, rfl⟩
  have hgi : g i = some a := by rw [(hK i hi6).1, hbs]
  obtain ⟨s, hs⟩ : ∃ s, s = Ls.getD i dS := ⟨_, rfl⟩
  have hS : SH G h a t b s := by have z := (hK i hi6).2; rw [hbs, hLF i hi, ← hs] at z; exact z
  obtain ⟨l, ex, wa, fo, du, se, co⟩ := s
  have hS0 := hS
  obtain ⟨gt, gb, ⟨ma, mt, mb⟩, ⟨nta, nba, ntb⟩, fa, ft, fb, hl, hr⟩ := hS
  have hl : l.length ≤ 200 := hl
  have hr : sr gt gb l := hr
  have fa : h.2 a = .inr (5, [.ref t, .ref b, .int (iI (l.length : Int)), .int (iI ex), .int fo, .int (iI wa), .int (iI (b2 du)), .int (iI (b2 se)), .int (iI (b2 co))]) := fa
  have noa : o ≠ a := ne_oo fO fa (by decide)
  have not : o ≠ t := ne_oi fO ft
  have nob : o ≠ b := ne_oi fO fb
  have nAa : A ≠ a := (ne_oi fa fA).symm
  have nAt : A ≠ t := ne_sz fA ft (by decide)
  have nAb : A ≠ b := ne_sz fA fb (by decide)
  have hi6' : Ls.length < 6 := by omega
  obtain ⟨a', t', b', hbs'⟩ : ∃ a t b, bs Ls.length = (a, t, b) := ⟨_, _, _, rfl⟩
  have hgi' : g Ls.length = some a' := by rw [(hK Ls.length hi6').1, hbs']
  obtain ⟨s', hs'⟩ : ∃ s, s = F Ls.length := ⟨_, rfl⟩
  have hS' : SH G h a' t' b' s' := by have z := (hK Ls.length hi6').2; rw [hbs', ← hs'] at z; exact z
  obtain ⟨l', ex', wa', fo', du', se', co'⟩ := s'
  have hS0' := hS'
  obtain ⟨gt', gb', ⟨ma', mt', mb'⟩, ⟨nta', nba', ntb'⟩, fa', ft', fb', hl', hr'⟩ := hS'
  have hl' : l'.length ≤ 200 := hl'
  have hr' : sr gt' gb' l' := hr'
  have fa' : h.2 a' = .inr (5, [.ref t', .ref b', .int (iI (l'.length : Int)), .int (iI ex'), .int fo', .int (iI wa'), .int (iI (b2 du')), .int (iI (b2 se')), .int (iI (b2 co'))]) := fa'
  have noa' : o ≠ a' := ne_oo fO fa' (by decide)
  have not' : o ≠ t' := ne_oi fO ft'
  have nob' : o ≠ b' := ne_oi fO fb'
  have nAa' : A ≠ a' := (ne_oi fa' fA).symm
  have nAt' : A ≠ t' := ne_sz fA ft' (by decide)
  have nAb' : A ≠ b' := ne_sz fA fb' (by decide)
  have hN : DJ a t b a' t' b' := by have z := hD i Ls.length hi6 (by omega) (by omega); rw [hbs, hbs'] at z; exact z
  have hN' : DJ a' t' b' a t b := ⟨⟨hN.1.1.symm, hN.2.1.1.symm, hN.2.2.1.symm⟩, ⟨hN.1.2.1.symm, hN.2.1.2.1.symm, hN.2.2.2.1.symm⟩, ⟨hN.1.2.2.symm, hN.2.1.2.2.symm, hN.2.2.2.2.symm⟩⟩
  show RR G MX1_applyCut 0 [(0, .ref o), (1, .int (iI ((i : Int))))] [] h (xm_R MX1_applyCut).cells (xm_R MX1_applyCut).slots (fun o' h' => o' = .inl (some (.int (iI ((Ls.length : Int))))) ∧ BN G h' o A fp (aCut ((ro, me, fl, ho, ec, bk), Ls) i) ∧ FRp fp h h')
  refine r_aload_n dX1_applyCut_0 0 rfl ?_
  refine r_get cl_X1 0 (by decide) kf_X1_11 dX1_applyCut_1 mO fO rfl ?_
  refine r_iload_n dX1_applyCut_4 1 rfl ?_
  refine i_aald rfl i rfl dX1_applyCut_5 mA fA (by omega) (by decide) hgi ?_
  refine r_astore_n (ls' := [(0, .ref o), (1, .int (iI ((i : Int)))), (2, .ref a)]) dX1_applyCut_6 (by decide) rfl ?_
  refine r_aload_n dX1_applyCut_7 2 rfl ?_
  refine i_const (0) dX1_applyCut_8 ?_
  refine i_put [.ref t, .ref b, .int (iI ((l.length : Int))), .int (iI ex), .int fo, .int (iI wa), .int (iI (b2 du)), .int (iI 0), .int (iI (b2 co))] cl_X8 7 (by decide) kf_X1_68 rfl dX1_applyCut_9 ma fa (b2_nar false) (b2_fit false) (by simp) rfl (fun h1 e0_1 e1_1 e2_1 => ?_)
  have mo_1 : o ∈ h1.1 := by rw [e0_1]; exact mO
  have fo_1 := (e2_1 _ noa).trans fO
  have mA_1 : A ∈ h1.1 := by rw [e0_1]; exact mA
  have fA_1 := (e2_1 _ nAa).trans fA
  have ma_1 : a ∈ h1.1 := by rw [e0_1]; exact ma
  have mt_1 : t ∈ h1.1 := by rw [e0_1]; exact mt
  have ft_1 := (e2_1 _ nta).trans ft
  have mb_1 : b ∈ h1.1 := by rw [e0_1]; exact mb
  have fb_1 := (e2_1 _ nba).trans fb
  have ma'_1 : a' ∈ h1.1 := by rw [e0_1]; exact ma'
  have fa'_1 := (e2_1 _ (Ne.symm hN.1.1)).trans fa'
  have mt'_1 : t' ∈ h1.1 := by rw [e0_1]; exact mt'
  have ft'_1 := (e2_1 _ (Ne.symm hN.1.2.1)).trans ft'
  have mb'_1 : b' ∈ h1.1 := by rw [e0_1]; exact mb'
  have fb'_1 := (e2_1 _ (Ne.symm hN.1.2.2)).trans fb'
  refine r_aload_n dX1_applyCut_12 0 rfl ?_
  refine r_get cl_X1 1 (by decide) kf_X1_31 dX1_applyCut_13 mo_1 fo_1 rfl ?_
  refine i_bipush (6) (by decide) dX1_applyCut_16 ?_
  refine i_icmpge dX1_applyCut_18 (tgt := 44) (by decide) (by unfold in32; omega) ⟨by decide, by decide⟩ (fun c18 => ?_) (fun c18 => ?_)
  · refine r_aload_n dX1_applyCut_44 0 rfl ?_
    refine r_get cl_X1 1 (by decide) kf_X1_31 dX1_applyCut_45 mo_1 fo_1 rfl ?_
    refine i_const (1) dX1_applyCut_48 ?_
    refine i_sub dX1_applyCut_49 ?_
    refine r_ireturn rfl rfl dX1_applyCut_50 ?_
    exfalso
    omega
  · refine r_aload_n dX1_applyCut_21 0 rfl ?_
    refine r_get cl_X1 0 (by decide) kf_X1_11 dX1_applyCut_22 mo_1 fo_1 rfl ?_
    refine r_aload_n dX1_applyCut_25 0 rfl ?_
    refine r_get cl_X1 1 (by decide) kf_X1_31 dX1_applyCut_26 mo_1 fo_1 rfl ?_
    refine i_aald rfl Ls.length rfl dX1_applyCut_29 mA_1 fA_1 (by omega) (by decide) hgi' ?_
    refine r_aload_n dX1_applyCut_30 2 rfl ?_
    have hS8 : SH G h1 a t b (l, ex, wa, fo, du, false, co) := ⟨gt, gb, ⟨ma_1, mt_1, mb_1⟩, ⟨nta, nba, ntb⟩, e1_1, ft_1, fb_1, hl, hr⟩
    have hS8' : SH G h1 a' t' b' (l', ex', wa', fo', du', se', co') := ⟨gt', gb', ⟨ma'_1, mt'_1, mb'_1⟩, ⟨nta', nba', ntb'⟩, fa'_1, ft'_1, fb'_1, hl', hr'⟩
    refine p_callV (As := [.ref a]) (b := a') (rest := []) (w := none) (st' := []) kv_X1_applyCut_58 dX1_applyCut_31 rfl rfl (Nat.le_of_ble_eq_true rfl) (Nat.le_of_ble_eq_true rfl) (x_rv ma'_1 fa'_1 rfl) rfl rfl (c_X8_copyFrom hS8' hS8 hN') rfl (fun h9 e9 => ?_)
    obtain ⟨hS9, hF9⟩ := e9
    have mo_9 : o ∈ h9.1 := by rw [hF9.1]; exact mo_1
    have fo_9 := (hF9.2 o noa' not' nob').trans fo_1
    have mA_9 : A ∈ h9.1 := by rw [hF9.1]; exact mA_1
    have fA_9 := (hF9.2 A nAa' nAt' nAb').trans fA_1
    refine r_aload_n dX1_applyCut_34 0 rfl ?_
    refine r_dup dX1_applyCut_35 rfl ?_
    refine r_get cl_X1 1 (by decide) kf_X1_31 dX1_applyCut_36 mo_9 fo_9 rfl ?_
    refine i_const (1) dX1_applyCut_39 ?_
    refine i_add dX1_applyCut_40 ?_
    refine i_put [.ref A, .int (iI ((Ls.length : Int) + 1)), .int (iI ro), .int (iI me), .int (iI fl), .int (iI ho), .int (iI ec), .int (iI bk)] cl_X1 1 (by decide) kf_X1_31 rfl dX1_applyCut_41 mo_9 fo_9 rfl rfl (by simp) rfl (fun h2 e0_2 e1_2 e2_2 => ?_)
    have mo_2 : o ∈ h2.1 := by rw [e0_2]; exact mo_9
    have mA_2 : A ∈ h2.1 := by rw [e0_2]; exact mA_9
    have fA_2 := (e2_2 _ (Ne.symm nOA)).trans fA_9
    refine r_aload_n dX1_applyCut_44 0 rfl ?_
    refine r_get cl_X1 1 (by decide) kf_X1_31 dX1_applyCut_45 mo_2 e1_2 rfl ?_
    refine i_const (1) dX1_applyCut_48 ?_
    refine i_sub dX1_applyCut_49 ?_
    refine r_ireturn rfl rfl dX1_applyCut_50 ?_
    have fO7 : h1.2 o = .inr (0, bf A ((ro, me, fl, ho, ec, bk), Ls.set i (l, ex, wa, fo, du, false, co))) := by simp only [bf, List.length_set]; exact (e2_1 _ noa).trans fO
    have hR1 := hBo0.mk4o hi6 hbs (FR4.wa e0_1 e2_1) hS8 fO7 (by show (Ls.set i _).length ≤ 6; rw [List.length_set]; exact hL6) (set_getDS hLF hi)
    have hS7 : SH G h2 a' t' b' (l, ex, wa, fo, du, false, co) := SH.fr9 hS9 noa' not' nob' e0_2 e2_2
    have fO9 : h2.2 o = .inr (0, bf A ((ro, me, fl, ho, ec, bk), Ls.set i (l, ex, wa, fo, du, false, co) ++ [(l, ex, wa, fo, du, false, co)])) := by simp only [bf, List.length_append, List.length_singleton, List.length_set]; exact e1_2
    have hlen : (Ls.set i (l, ex, wa, fo, du, false, co)).length = Ls.length := List.length_set
    have hR := hR1.1.mk4 (B' := ((ro, me, fl, ho, ec, bk), Ls.set i (l, ex, wa, fo, du, false, co) ++ [(l, ex, wa, fo, du, false, co)])) (by omega : Ls.length < 6) hbs' (FR4.tr (FR4.of hF9) (FR4.wo e0_2 e2_2)) hS7 fO9 (by show (Ls.set i _ ++ [_]).length ≤ 6; rw [List.length_append, List.length_singleton, List.length_set]; omega) (by have z := app_getDS (Ls := Ls.set i (l, ex, wa, fo, du, false, co)) (s' := (l, ex, wa, fo, du, false, co)) (set_getDS (s' := (l, ex, wa, fo, du, false, co)) hLF hi); rw [hlen] at z; exact z)
    have e : aCut ((ro, me, fl, ho, ec, bk), Ls) i = ((ro, me, fl, ho, ec, bk), Ls.set i (l, ex, wa, fo, du, false, co) ++ [(l, ex, wa, fo, du, false, co)]) := by unfold aCut; dsimp only; rw [← hs]; try rfl
    rw [e]
    exact ⟨by simp, hR.1, FRp.tr hR1.2 hR.2⟩
set_option maxRecDepth 20000 in
set_option maxHeartbeats 1000000 in
theorem c_X1_removeSheet {G : xG} {h : xH} {o A : Nat} {fp : List Nat} {B : AB} (hB : BN G h o A fp B) {j : Nat} (hj : j < B.2.length) : CC G MX1_removeSheet [.ref o, .int (iI (j : Int))] h (fun o' h' => o' = .inl none ∧ BN G h' o A fp (B.1, B.2.eraseIdx j) ∧ FRp fp h h' ∧ ∀ q, q ≠ A → q ≠ o → h'.2 q = h.2 q) := by
  obtain ⟨⟨ro, me, fl, ho, ec, bk⟩, Ls⟩ := B
  have hB0 := hB
  obtain ⟨g, bs, F, hBo⟩ := hB
  have hBo0 := hBo
  obtain ⟨⟨mO, mA⟩, fO, fA, hL6, hLF, hK, hD, hfp⟩ := hBo
  have hL6 : Ls.length ≤ 6 := hL6
  have hLF : ∀ i, i < Ls.length → F i = Ls.getD i dS := hLF
  have fO : h.2 o = .inr (0, [.ref A, .int (iI (Ls.length : Int)), .int (iI ro), .int (iI me), .int (iI fl), .int (iI ho), .int (iI ec), .int (iI bk)]) := fO
  have nOA : o ≠ A := ne_oi fO fA
  have hj : j < Ls.length := hj
  have hj6 : j < 6 := by omega
  have hi6' : j < 6 := by omega
  obtain ⟨a', t', b', hbs'⟩ : ∃ a t b, bs j = (a, t, b) := ⟨_, _, _, rfl⟩
  have hgi' : g j = some a' := by rw [(hK j hi6').1, hbs']
  obtain ⟨s', hs'⟩ : ∃ s, s = F j := ⟨_, rfl⟩
  have hS' : SH G h a' t' b' s' := by have z := (hK j hi6').2; rw [hbs', ← hs'] at z; exact z
  obtain ⟨l', ex', wa', fo', du', se', co'⟩ := s'
  have hS0' := hS'
  obtain ⟨gt', gb', ⟨ma', mt', mb'⟩, ⟨nta', nba', ntb'⟩, fa', ft', fb', hl', hr'⟩ := hS'
  have hl' : l'.length ≤ 200 := hl'
  have hr' : sr gt' gb' l' := hr'
  have fa' : h.2 a' = .inr (5, [.ref t', .ref b', .int (iI (l'.length : Int)), .int (iI ex'), .int fo', .int (iI wa'), .int (iI (b2 du')), .int (iI (b2 se')), .int (iI (b2 co'))]) := fa'
  have noa' : o ≠ a' := ne_oo fO fa' (by decide)
  have not' : o ≠ t' := ne_oi fO ft'
  have nob' : o ≠ b' := ne_oi fO fb'
  have nAa' : A ≠ a' := (ne_oi fa' fA).symm
  have nAt' : A ≠ t' := ne_sz fA ft' (by decide)
  have nAb' : A ≠ b' := ne_sz fA fb' (by decide)
  have L : ∀ k, k ≤ Ls.length → j + 1 ≤ k → ∀ (hh : xH), hh.1 = h.1 → (∀ q, q ≠ A → hh.2 q = h.2 q) → hh.2 A = .inl (G.2.1 4, 6, .inr (.inr (.inr (.inr (shG g j k))))) → RR G MX1_removeSheet 11 [(0, .ref o), (1, .int (iI ((j : Int)))), (2, .ref a'), (3, .int (iI ((k : Int))))] [] hh (xm_R MX1_removeSheet).cells (xm_R MX1_removeSheet).slots (fun o' h' => o' = .inl none ∧ BN G h' o A fp ((ro, me, fl, ho, ec, bk), Ls.eraseIdx j) ∧ FRp fp h h' ∧ ∀ q, q ≠ A → q ≠ o → h'.2 q = h.2 q) := by
    refine down (fun k hk ih => ?_)
    intro hjk hh e0 e2 fA9
    have mO9 : o ∈ hh.1 := by rw [e0]; exact mO
    have mA9 : A ∈ hh.1 := by rw [e0]; exact mA
    have fO9 := (e2 o nOA).trans fO
    refine r_iload_n dX1_removeSheet_11 3 rfl ?_
    refine r_aload_n dX1_removeSheet_12 0 rfl ?_
    refine r_get cl_X1 1 (by decide) kf_X1_31 dX1_removeSheet_13 mO9 fO9 rfl ?_
    refine i_icmpge dX1_removeSheet_16 (tgt := 39) (by decide) (by unfold in32; omega) (by unfold in32; omega) (fun c16 => ?_) (fun c16 => ?_)
    · have ma'9 : a' ∈ hh.1 := by rw [e0]; exact ma'
      have fa'9 := (e2 a' nAa'.symm).trans fa'
      refine r_aload_n dX1_removeSheet_39 0 rfl ?_
      refine r_dup dX1_removeSheet_40 rfl ?_
      refine r_get cl_X1 1 (by decide) kf_X1_31 dX1_removeSheet_41 mO9 fO9 rfl ?_
      refine i_const (1) dX1_removeSheet_44 ?_
      refine i_sub dX1_removeSheet_45 ?_
      refine i_put [.ref A, .int (iI ((Ls.length : Int) - 1)), .int (iI ro), .int (iI me), .int (iI fl), .int (iI ho), .int (iI ec), .int (iI bk)] cl_X1 1 (by decide) kf_X1_31 rfl dX1_removeSheet_46 mO9 fO9 rfl rfl (by simp) rfl (fun h1 e0_1 e1_1 e2_1 => ?_)
      have mo_1 : o ∈ h1.1 := by rw [e0_1]; exact mO9
      have mA_1 : A ∈ h1.1 := by rw [e0_1]; exact mA9
      have fA_1 := (e2_1 _ (Ne.symm nOA)).trans fA9
      have ma'_1 : a' ∈ h1.1 := by rw [e0_1]; exact ma'9
      have fa'_1 := (e2_1 _ (Ne.symm noa')).trans fa'9
      refine r_aload_n dX1_removeSheet_49 0 rfl ?_
      refine r_get cl_X1 0 (by decide) kf_X1_11 dX1_removeSheet_50 mo_1 e1_1 rfl ?_
      refine r_aload_n dX1_removeSheet_53 0 rfl ?_
      refine r_get cl_X1 1 (by decide) kf_X1_31 dX1_removeSheet_54 mo_1 e1_1 rfl ?_
      refine r_aload_n dX1_removeSheet_57 2 rfl ?_
      refine i_aast rfl (Ls.length - 1) (by omega) dX1_removeSheet_58 mA_1 fA_1 (by omega) (by decide) ma'_1 fa'_1 rfl (fun h2 e0_2 e1_2 e2_2 => ?_)
      have mo_2 : o ∈ h2.1 := by rw [e0_2]; exact mo_1
      have fo_2 := (e2_2 _ nOA).trans e1_1
      have mA_2 : A ∈ h2.1 := by rw [e0_2]; exact mA_1
      have ma'_2 : a' ∈ h2.1 := by rw [e0_2]; exact ma'_1
      have fa'_2 := (e2_2 _ (Ne.symm nAa')).trans fa'_1
      refine r_return rfl dX1_removeSheet_59 ?_
      have ek : k = Ls.length := by omega
      subst ek
      have el : (Ls.eraseIdx j).length = Ls.length - 1 := List.length_eraseIdx_of_lt hj
      have hq0 : h2.1 = h.1 := e0_2.trans (e0_1.trans e0)
      have hq2 : ∀ q, q ≠ A → q ≠ o → h2.2 q = h.2 q := fun q z1 z2 => (e2_2 q z1).trans ((e2_1 q z2).trans (e2 q z1))
      have hfO : h2.2 o = .inr (0, bf A ((ro, me, fl, ho, ec, bk), Ls.eraseIdx j)) := by rw [fo_2]; simp only [bf, el]; rw [show ((Ls.length - 1 : Nat) : Int) = (Ls.length : Int) - 1 by omega]
      refine ⟨rfl, ⟨_, fun m => bs (piR j Ls.length m), fun m => F (piR j Ls.length m), ⟨mo_2, mA_2⟩, hfO, e1_2, by show (Ls.eraseIdx j).length ≤ 6; omega, erase_getDS hj hLF, ?_, ?_, hfp.1, hfp.2.1, ?_⟩, ⟨hq0, ?_⟩, hq2⟩
      · intro m hm
        have hp := piR_lt (j := j) (n := Ls.length) (m := m) hj hL6 hm
        refine ⟨?_, ?_⟩
        · by_cases z : m = Ls.length - 1
          · rw [z, va_up_self]; show some a' = some (bs (piR j Ls.length (Ls.length - 1))).1; rw [show piR j Ls.length (Ls.length - 1) = j by unfold piR; split <;> (try split) <;> (try split) <;> omega, hbs']
          · rw [va_up_ne _ _ z, ← (hK _ hp).1]; unfold shG piR
            by_cases z1 : m < j
            · rw [if_pos z1, if_pos z1]
            · rw [if_neg z1, if_neg z1]; by_cases z2 : m + 1 < Ls.length
              · rw [if_pos z2, if_pos z2]
              · rw [if_neg z2, if_neg z2, if_neg (by omega)]
        · obtain ⟨gt2, gb2, m2, n2, fa2, ft2, fb2, r2⟩ := (hK _ hp).2
          exact ⟨gt2, gb2, ⟨by rw [hq0]; exact m2.1, by rw [hq0]; exact m2.2.1, by rw [hq0]; exact m2.2.2⟩, n2, (hq2 _ (ne_oi fa2 fA) (ne_oo fO fa2 (by decide)).symm).trans fa2, (hq2 _ (ne_sz fA ft2 (by decide)).symm (ne_oi fO ft2).symm).trans ft2, (hq2 _ (ne_sz fA fb2 (by decide)).symm (ne_oi fO fb2).symm).trans fb2, r2⟩
      · intro m k hm hk9 hmk
        exact hD _ _ (piR_lt hj hL6 hm) (piR_lt hj hL6 hk9) (piR_inj hj hmk)
      · intro m hm
        exact hfp.2.2 _ (piR_lt hj hL6 hm)
      · intro q hq
        exact hq2 q (fun z => hq (z ▸ hfp.2.1)) (fun z => hq (z ▸ hfp.1))
    · obtain ⟨a, t, b, hbs⟩ : ∃ a t b, bs k = (a, t, b) := ⟨_, _, _, rfl⟩
      have hgi : g k = some a := by rw [(hK k (by omega)).1, hbs]
      have hgk : shG g j k k = some a := by unfold shG; rw [if_neg (by omega), if_neg (by omega)]; exact hgi
      obtain ⟨gt, gb, ⟨ma, -, -⟩, -, fa, -⟩ : SH G h a t b (F k) := by have z := (hK k (by omega)).2; rw [hbs] at z; exact z
      have nAa : A ≠ a := (ne_oi fa fA).symm
      have noa : o ≠ a := ne_oo fO fa (by decide)
      have ma9 : a ∈ hh.1 := by rw [e0]; exact ma
      have fa9 := (e2 a nAa.symm).trans fa
      refine r_aload_n dX1_removeSheet_19 0 rfl ?_
      refine r_get cl_X1 0 (by decide) kf_X1_11 dX1_removeSheet_20 mO9 fO9 rfl ?_
      refine r_iload_n dX1_removeSheet_23 3 rfl ?_
      refine i_const (1) dX1_removeSheet_24 ?_
      refine i_sub dX1_removeSheet_25 ?_
      refine r_aload_n dX1_removeSheet_26 0 rfl ?_
      refine r_get cl_X1 0 (by decide) kf_X1_11 dX1_removeSheet_27 mO9 fO9 rfl ?_
      refine r_iload_n dX1_removeSheet_30 3 rfl ?_
      refine i_aald rfl k rfl dX1_removeSheet_31 mA9 fA9 (by omega) (by decide) hgk ?_
      refine i_aast rfl (k - 1) (by omega) dX1_removeSheet_32 mA9 fA9 (by omega) (by decide) ma9 fa9 rfl (fun h3 e0_3 e1_3 e2_3 => ?_)
      have mo_3 : o ∈ h3.1 := by rw [e0_3]; exact mO9
      have fo_3 := (e2_3 _ nOA).trans fO9
      have mA_3 : A ∈ h3.1 := by rw [e0_3]; exact mA9
      have ma_3 : a ∈ h3.1 := by rw [e0_3]; exact ma9
      have fa_3 := (e2_3 _ (Ne.symm nAa)).trans fa9
      refine i_iinc (ls' := [(0, .ref o), (1, .int (iI ((j : Int)))), (2, .ref a'), (3, .int (iI ((k : Int) + 1)))]) (1) (v := (k : Int) + 1) dX1_removeSheet_33 3 rfl (by omega) (by decide) rfl ?_
      refine r_goto dX1_removeSheet_36 (tgt := 11) (by decide) ?_
      have eg := shG_s (g := g) (j := j) (k := k) (by omega)
      rw [hgi] at eg
      refine ih (k + 1) (by omega) (by omega) (by omega) _ (e0_3.trans e0) (fun q hq => (e2_3 q hq).trans (e2 q hq)) ?_
      rw [← eg]
      exact e1_3
  show RR G MX1_removeSheet 0 [(0, .ref o), (1, .int (iI ((j : Int))))] [] h (xm_R MX1_removeSheet).cells (xm_R MX1_removeSheet).slots (fun o' h' => o' = .inl none ∧ BN G h' o A fp ((ro, me, fl, ho, ec, bk), Ls.eraseIdx j) ∧ FRp fp h h' ∧ ∀ q, q ≠ A → q ≠ o → h'.2 q = h.2 q)
  refine r_aload_n dX1_removeSheet_0 0 rfl ?_
  refine r_get cl_X1 0 (by decide) kf_X1_11 dX1_removeSheet_1 mO fO rfl ?_
  refine r_iload_n dX1_removeSheet_4 1 rfl ?_
  refine i_aald rfl j rfl dX1_removeSheet_5 mA fA (by omega) (by decide) hgi' ?_
  refine r_astore_n (ls' := [(0, .ref o), (1, .int (iI ((j : Int)))), (2, .ref a')]) dX1_removeSheet_6 (by decide) rfl ?_
  refine r_iload_n dX1_removeSheet_7 1 rfl ?_
  refine i_const (1) dX1_removeSheet_8 ?_
  refine i_add dX1_removeSheet_9 ?_
  refine r_istore_n (ls' := [(0, .ref o), (1, .int (iI ((j : Int)))), (2, .ref a'), (3, .int (iI ((j : Int) + 1)))]) dX1_removeSheet_10 (by decide) rfl ?_
  exact L (j + 1) (by omega) (by omega) h rfl (fun _ _ => rfl) (by rw [shG_0]; exact fA)
