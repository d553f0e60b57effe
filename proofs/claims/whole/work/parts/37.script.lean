/-! ===== the script ===== -/
abbrev CM : Type := Nat × Int × Int
def dC : CM := (0, 0, 0)
def SCR (G : xG) (h : xH) (K : xK) (o a b c : Nat) (cs : List CM) : Prop := ∃ (g : Nat → Option Nat) (f s : Nat → Int32), (o ∈ h.1 ∧ a ∈ h.1 ∧ b ∈ h.1 ∧ c ∈ h.1) ∧ b ≠ c ∧ h.2 o = .inr (4, [.ref a, .ref b, .ref c, .int (iI (cs.length : Int))]) ∧ h.2 a = .inl (G.2.1 6, 20, .inr (.inr (.inr (.inr g)))) ∧ h.2 b = .inl (G.2.1 0, 20, .inl f) ∧ h.2 c = .inl (G.2.1 0, 20, .inl s) ∧ cs.length ≤ 20
  ∧ ∀ i, i < cs.length → g i = some (K.2.2.1 (cs.getD i dC).1) ∧ f i = iI (cs.getD i dC).2.1 ∧ s i = iI (cs.getD i dC).2.2 ∧ (cs.getD i dC).1 < 9 ∧ in32 (cs.getD i dC).2.1 ∧ in32 (cs.getD i dC).2.2
theorem SCR.fr {G : xG} {h h' : xH} {K : xK} {o a b c : Nat} {fp : List Nat} {cs : List CM} (hS : SCR G h K o a b c cs) (hF : FRp fp h h') (h1 : o ∉ fp) (h2 : a ∉ fp) (h3 : b ∉ fp) (h4 : c ∉ fp) : SCR G h' K o a b c cs := by
  obtain ⟨g, f, s, ⟨m1, m2, m3, m4⟩, nn, f1, f2, f3, f4, r⟩ := hS
  exact ⟨g, f, s, ⟨by rw [hF.1]; exact m1, by rw [hF.1]; exact m2, by rw [hF.1]; exact m3, by rw [hF.1]; exact m4⟩, nn, (hF.2 o h1).trans f1, (hF.2 a h2).trans f2, (hF.2 b h3).trans f3, (hF.2 c h4).trans f4, r⟩
theorem drop_c {cs : List CM} {i : Nat} (h : i < cs.length) : cs.drop i = cs.getD i dC :: cs.drop (i + 1) := by
  rw [List.drop_eq_getElem_cons h]; simp [h]
theorem ne_qi {h : xH} {o a : Nat} {k1 k2 : ClassId} {n m : Nat} {x : Nat → Option Nat} {y : Nat → Int32} (h1 : h.2 o = .inl (k1, n, .inr (.inr (.inr (.inr x))))) (h2 : h.2 a = .inl (k2, m, .inl y)) : o ≠ a := by
  intro e; rw [e, h2] at h1; cases h1
set_option maxRecDepth 20000 in
set_option maxHeartbeats 1000000 in
theorem c_X7_add {G : xG} {h : xH} {K : xK} {sa : Nat → Nat} (hGC : GC G K sa) {o a b c : Nat} {cs : List CM} (hS : SCR G h K o a b c cs) {k : Nat} (hk9 : k < 9) {x y : Int} (hx : in32 x) (hy : in32 y) (hl20 : cs.length < 20) : CC G MX7_add [.ref o, .ref (K.2.2.1 k), .int (iI x), .int (iI y)] h (fun o' h' => o' = .inl none ∧ SCR G h' K o a b c (cs ++ [(k, x, y)]) ∧ FRp [o, a, b, c] h h') := by
  have hS0 := hS
  obtain ⟨g, f, s, ⟨mo, ma, mb, mc⟩, nbc, fo, fa, fb, fc, hl, hr⟩ := hS
  have noa : o ≠ a := ne_oi fo fa
  have nob : o ≠ b := ne_oi fo fb
  have noc : o ≠ c := ne_oi fo fc
  have nab : a ≠ b := ne_qi fa fb
  have nac : a ≠ c := ne_qi fa fc
  show RR G MX7_add 0 [(0, .ref o), (1, .ref (K.2.2.1 k)), (2, .int (iI x)), (3, .int (iI y))] [] h (xm_R MX7_add).cells (xm_R MX7_add).slots (fun o' h' => o' = .inl none ∧ SCR G h' K o a b c (cs ++ [(k, x, y)]) ∧ FRp [o, a, b, c] h h')
  refine r_aload_n dX7_add_0 0 rfl ?_
  refine r_get cl_X7 3 (by decide) kf_X7_24 dX7_add_1 mo fo rfl ?_
  refine i_bipush (20) (by decide) dX7_add_4 ?_
  refine i_icmpge dX7_add_6 (tgt := 49) (by decide) (by unfold in32; omega) ⟨by decide, by decide⟩ (fun c6 => ?_) (fun c6 => ?_)
  · refine r_return rfl dX7_add_49 ?_
    exfalso
    omega
  · refine r_aload_n dX7_add_9 0 rfl ?_
    refine r_get cl_X7 0 (by decide) kf_X7_11 dX7_add_10 mo fo rfl ?_
    refine r_aload_n dX7_add_13 0 rfl ?_
    refine r_get cl_X7 3 (by decide) kf_X7_24 dX7_add_14 mo fo rfl ?_
    refine r_aload_n dX7_add_17 1 rfl ?_
    refine i_aastc rfl (gk_CO hGC.1 k hk9) cs.length rfl dX7_add_18 ma fa (by omega) (by decide) (fun h1 e0_1 e1_1 e2_1 => ?_)
    have mo_1 : o ∈ h1.1 := by rw [e0_1]; exact mo
    have fo_1 := (e2_1 _ noa).trans fo
    have ma_1 : a ∈ h1.1 := by rw [e0_1]; exact ma
    have mb_1 : b ∈ h1.1 := by rw [e0_1]; exact mb
    have fb_1 := (e2_1 _ (Ne.symm nab)).trans fb
    have mc_1 : c ∈ h1.1 := by rw [e0_1]; exact mc
    have fc_1 := (e2_1 _ (Ne.symm nac)).trans fc
    refine r_aload_n dX7_add_19 0 rfl ?_
    refine r_get cl_X7 1 (by decide) kf_X7_17 dX7_add_20 mo_1 fo_1 rfl ?_
    refine r_aload_n dX7_add_23 0 rfl ?_
    refine r_get cl_X7 3 (by decide) kf_X7_24 dX7_add_24 mo_1 fo_1 rfl ?_
    refine r_iload_n dX7_add_27 2 rfl ?_
    refine i_iast cs.length rfl dX7_add_28 mb_1 fb_1 (by omega) (by decide) (fun h2 e0_2 e1_2 e2_2 => ?_)
    have mo_2 : o ∈ h2.1 := by rw [e0_2]; exact mo_1
    have fo_2 := (e2_2 _ nob).trans fo_1
    have ma_2 : a ∈ h2.1 := by rw [e0_2]; exact ma_1
    have fa_2 := (e2_2 _ nab).trans e1_1
    have mb_2 : b ∈ h2.1 := by rw [e0_2]; exact mb_1
    have mc_2 : c ∈ h2.1 := by rw [e0_2]; exact mc_1
    have fc_2 := (e2_2 _ (Ne.symm nbc)).trans fc_1
    refine r_aload_n dX7_add_29 0 rfl ?_
    refine r_get cl_X7 2 (by decide) kf_X7_21 dX7_add_30 mo_2 fo_2 rfl ?_
    refine r_aload_n dX7_add_33 0 rfl ?_
    refine r_get cl_X7 3 (by decide) kf_X7_24 dX7_add_34 mo_2 fo_2 rfl ?_
    refine r_iload_n dX7_add_37 3 rfl ?_
    refine i_iast cs.length rfl dX7_add_38 mc_2 fc_2 (by omega) (by decide) (fun h3 e0_3 e1_3 e2_3 => ?_)
    have mo_3 : o ∈ h3.1 := by rw [e0_3]; exact mo_2
    have fo_3 := (e2_3 _ noc).trans fo_2
    have ma_3 : a ∈ h3.1 := by rw [e0_3]; exact ma_2
    have fa_3 := (e2_3 _ nac).trans fa_2
    have mb_3 : b ∈ h3.1 := by rw [e0_3]; exact mb_2
    have fb_3 := (e2_3 _ nbc).trans e1_2
    have mc_3 : c ∈ h3.1 := by rw [e0_3]; exact mc_2
    refine r_aload_n dX7_add_39 0 rfl ?_
    refine r_dup dX7_add_40 rfl ?_
    refine r_get cl_X7 3 (by decide) kf_X7_24 dX7_add_41 mo_3 fo_3 rfl ?_
    refine i_const (1) dX7_add_44 ?_
    refine i_add dX7_add_45 ?_
    refine i_put [.ref a, .ref b, .ref c, .int (iI ((cs.length : Int) + 1))] cl_X7 3 (by decide) kf_X7_24 rfl dX7_add_46 mo_3 fo_3 rfl rfl (by simp) rfl (fun h4 e0_4 e1_4 e2_4 => ?_)
    have mo_4 : o ∈ h4.1 := by rw [e0_4]; exact mo_3
    have ma_4 : a ∈ h4.1 := by rw [e0_4]; exact ma_3
    have fa_4 := (e2_4 _ (Ne.symm noa)).trans fa_3
    have mb_4 : b ∈ h4.1 := by rw [e0_4]; exact mb_3
    have fb_4 := (e2_4 _ (Ne.symm nob)).trans fb_3
    have mc_4 : c ∈ h4.1 := by rw [e0_4]; exact mc_3
    have fc_4 := (e2_4 _ (Ne.symm noc)).trans e1_3
    refine r_return rfl dX7_add_49 ?_
    have fz : h4.2 o = .inr (4, [.ref a, .ref b, .ref c, .int (iI ((cs ++ [(k, x, y)]).length : Int))]) := by rw [e1_4, List.length_append, List.length_singleton]; rfl
    refine ⟨rfl, ⟨_, _, _, ⟨mo_4, ma_4, mb_4, mc_4⟩, nbc, fz, fa_4, fb_4, fc_4, by rw [List.length_append, List.length_singleton]; omega, fun i hi => ?_⟩, (FRp.tr (FRp.tr (FRp.tr (FRp.w (by simp) e0_1 e2_1) (FRp.w (by simp) e0_2 e2_2)) (FRp.w (by simp) e0_3 e2_3)) (FRp.w (by simp) e0_4 e2_4))⟩
    rw [List.length_append, List.length_singleton] at hi
    by_cases e : i = cs.length
    · subst e
      have eg : (cs ++ [(k, x, y)]).getD cs.length dC = (k, x, y) := by simp
      rw [eg]
      exact ⟨va_up_self _ _ _, by simp [upd], by simp [upd], hk9, hx, hy⟩
    · have eg : (cs ++ [(k, x, y)]).getD i dC = cs.getD i dC := by rw [List.getD_eq_getElem?_getD, List.getD_eq_getElem?_getD, List.getElem?_append_left (by omega)]
      rw [eg]
      obtain ⟨r1, r2, r3, r4⟩ := hr i (by omega)
      exact ⟨by rw [va_up_ne _ _ e]; exact r1, by simp only [upd, if_neg e]; exact r2, by simp only [upd, if_neg e]; exact r3, r4⟩
set_option maxRecDepth 20000 in
set_option maxHeartbeats 1000000 in
theorem c_X7_refusalOf {G : xG} {h : xH} {K : xK} {sa : Nat → Nat} (hGC : GC G K sa) {o A : Nat} {fp : List Nat} {B : AB} (hB : BN G h o A fp B) (hWB : WB B) {k : Nat} (hk9 : k < 9) {x y : Int} (hx : in32 x) (hy : in32 y) : CC G MX7_refusalOf [.ref o, .ref (K.2.2.1 k), .int (iI x), .int (iI y)] h (fun o' h' => o' = .inl (some (.ref (K.1 (rCmd k B x y)))) ∧ h' = h) := by
  obtain ⟨mb, ⟨vb, fb⟩, -⟩ := hB.mem
  show RR G MX7_refusalOf 0 [(0, .ref o), (1, .ref (K.2.2.1 k)), (2, .int (iI x)), (3, .int (iI y))] [] h (xm_R MX7_refusalOf).cells (xm_R MX7_refusalOf).slots (fun o' h' => o' = .inl (some (.ref (K.1 (rCmd k B x y)))) ∧ h' = h)
  refine r_aload_n dX7_refusalOf_0 1 rfl ?_
  refine r_ifnonnull dX7_refusalOf_1 (tgt := 8) (by decide) ?_
  refine r_gets hGC.2.2.2.2.1 kg_X7_45 dX7_refusalOf_8 ?_
  refine r_aload_n dX7_refusalOf_11 1 rfl ?_
  refine r_ord hGC hk9 rfl ⟨Nat.le_of_ble_eq_true rfl, Nat.le_of_ble_eq_true rfl⟩ dX7_refusalOf_12 (Nat.le_of_ble_eq_true rfl) ?_
  refine i_ti hGC.2.2.2.2.2.1 k rfl dX7_refusalOf_15 (by omega) (by omega) rfl ?_
  rcases (show k = 0 ∨ k = 1 ∨ k = 2 ∨ k = 3 ∨ k = 4 ∨ k = 5 ∨ k = 6 ∨ k = 7 ∨ k = 8 by omega) with e | e | e | e | e | e | e | e | e <;> subst e
  · refine r_tableIn dX7_refusalOf_16 (by decide) (by decide) (off := 48) (by decide) (tgt := 64) (by decide) ?_
    refine r_aload_n dX7_refusalOf_64 0 rfl ?_
    refine r_iload_n dX7_refusalOf_65 2 rfl ?_
    refine r_iload_n dX7_refusalOf_66 3 rfl ?_
    refine p_callV (As := [.int (iI x), .int (iI y)]) (b := o) (rest := []) (w := (some (.ref (K.1 (rFold B x y))))) (st' := [.ref (K.1 (rFold B x y))]) kv_X7_refusalOf_54 dX7_refusalOf_67 rfl rfl (Nat.le_of_ble_eq_true rfl) (Nat.le_of_ble_eq_true rfl) (x_rv mb fb rfl) rfl rfl (c_X1_refusalOfFold hB hWB hGC.1 hx hy) rfl (fun h9 e9 => ?_)
    rw [show h9 = h from e9]
    refine r_areturn rfl dX7_refusalOf_70 ?_
    exact ⟨rfl, rfl⟩
  · refine r_tableIn dX7_refusalOf_16 (by decide) (by decide) (off := 55) (by decide) (tgt := 71) (by decide) ?_
    refine r_aload_n dX7_refusalOf_71 0 rfl ?_
    refine r_iload_n dX7_refusalOf_72 2 rfl ?_
    refine r_iload_n dX7_refusalOf_73 3 rfl ?_
    refine p_callV (As := [.int (iI x), .int (iI y)]) (b := o) (rest := []) (w := (some (.ref (K.1 (rRoll B x y))))) (st' := [.ref (K.1 (rRoll B x y))]) kv_X7_refusalOf_60 dX7_refusalOf_74 rfl rfl (Nat.le_of_ble_eq_true rfl) (Nat.le_of_ble_eq_true rfl) (x_rv mb fb rfl) rfl rfl (c_X1_refusalOfRoll hB hWB hGC.1 hx hy) rfl (fun h9 e9 => ?_)
    rw [show h9 = h from e9]
    refine r_areturn rfl dX7_refusalOf_77 ?_
    exact ⟨rfl, rfl⟩
  · refine r_tableIn dX7_refusalOf_16 (by decide) (by decide) (off := 62) (by decide) (tgt := 78) (by decide) ?_
    refine r_aload_n dX7_refusalOf_78 0 rfl ?_
    refine r_iload_n dX7_refusalOf_79 2 rfl ?_
    refine p_callV (As := [.int (iI x)]) (b := o) (rest := []) (w := (some (.ref (K.1 (rDust B x))))) (st' := [.ref (K.1 (rDust B x))]) kv_X7_refusalOf_63 dX7_refusalOf_80 rfl rfl (Nat.le_of_ble_eq_true rfl) (Nat.le_of_ble_eq_true rfl) (x_rv mb fb rfl) rfl rfl (c_X1_refusalOfDust hB hWB hGC.1 hx) rfl (fun h9 e9 => ?_)
    rw [show h9 = h from e9]
    refine r_areturn rfl dX7_refusalOf_83 ?_
    exact ⟨rfl, rfl⟩
  · refine r_tableIn dX7_refusalOf_16 (by decide) (by decide) (off := 68) (by decide) (tgt := 84) (by decide) ?_
    refine r_aload_n dX7_refusalOf_84 0 rfl ?_
    refine r_iload_n dX7_refusalOf_85 2 rfl ?_
    refine p_callV (As := [.int (iI x)]) (b := o) (rest := []) (w := (some (.ref (K.1 (rSeal B x))))) (st' := [.ref (K.1 (rSeal B x))]) kv_X7_refusalOf_67 dX7_refusalOf_86 rfl rfl (Nat.le_of_ble_eq_true rfl) (Nat.le_of_ble_eq_true rfl) (x_rv mb fb rfl) rfl rfl (c_X1_refusalOfSeal hB hWB hGC.1 hx) rfl (fun h9 e9 => ?_)
    rw [show h9 = h from e9]
    refine r_areturn rfl dX7_refusalOf_89 ?_
    exact ⟨rfl, rfl⟩
  · refine r_tableIn dX7_refusalOf_16 (by decide) (by decide) (off := 74) (by decide) (tgt := 90) (by decide) ?_
    refine r_aload_n dX7_refusalOf_90 0 rfl ?_
    refine r_iload_n dX7_refusalOf_91 2 rfl ?_
    refine p_callV (As := [.int (iI x)]) (b := o) (rest := []) (w := (some (.ref (K.1 (rCool B x))))) (st' := [.ref (K.1 (rCool B x))]) kv_X7_refusalOf_70 dX7_refusalOf_92 rfl rfl (Nat.le_of_ble_eq_true rfl) (Nat.le_of_ble_eq_true rfl) (x_rv mb fb rfl) rfl rfl (c_X1_refusalOfCool hB hWB hGC.1 hx) rfl (fun h9 e9 => ?_)
    rw [show h9 = h from e9]
    refine r_areturn rfl dX7_refusalOf_95 ?_
    exact ⟨rfl, rfl⟩
  · refine r_tableIn dX7_refusalOf_16 (by decide) (by decide) (off := 80) (by decide) (tgt := 96) (by decide) ?_
    refine r_aload_n dX7_refusalOf_96 0 rfl ?_
    refine r_iload_n dX7_refusalOf_97 2 rfl ?_
    refine p_callV (As := [.int (iI x)]) (b := o) (rest := []) (w := (some (.ref (K.1 (rTake B x))))) (st' := [.ref (K.1 (rTake B x))]) kv_X7_refusalOf_73 dX7_refusalOf_98 rfl rfl (Nat.le_of_ble_eq_true rfl) (Nat.le_of_ble_eq_true rfl) (x_rv mb fb rfl) rfl rfl (c_X1_refusalOfTakeOut hB hWB hGC.1 hx) rfl (fun h9 e9 => ?_)
    rw [show h9 = h from e9]
    refine r_areturn rfl dX7_refusalOf_101 ?_
    exact ⟨rfl, rfl⟩
  · refine r_tableIn dX7_refusalOf_16 (by decide) (by decide) (off := 86) (by decide) (tgt := 102) (by decide) ?_
    refine r_aload_n dX7_refusalOf_102 0 rfl ?_
    refine r_iload_n dX7_refusalOf_103 2 rfl ?_
    refine p_callV (As := [.int (iI x)]) (b := o) (rest := []) (w := (some (.ref (K.1 (rHours B x))))) (st' := [.ref (K.1 (rHours B x))]) kv_X7_refusalOf_76 dX7_refusalOf_104 rfl rfl (Nat.le_of_ble_eq_true rfl) (Nat.le_of_ble_eq_true rfl) (x_rv mb fb rfl) rfl rfl (c_X1_refusalOfHours hB hWB hGC.1 hx) rfl (fun h9 e9 => ?_)
    rw [show h9 = h from e9]
    refine r_areturn rfl dX7_refusalOf_107 ?_
    exact ⟨rfl, rfl⟩
  · refine r_tableIn dX7_refusalOf_16 (by decide) (by decide) (off := 92) (by decide) (tgt := 108) (by decide) ?_
    refine r_aload_n dX7_refusalOf_108 0 rfl ?_
    refine r_iload_n dX7_refusalOf_109 2 rfl ?_
    refine p_callV (As := [.int (iI x)]) (b := o) (rest := []) (w := (some (.ref (K.1 (rCut B x))))) (st' := [.ref (K.1 (rCut B x))]) kv_X7_refusalOf_79 dX7_refusalOf_110 rfl rfl (Nat.le_of_ble_eq_true rfl) (Nat.le_of_ble_eq_true rfl) (x_rv mb fb rfl) rfl rfl (c_X1_refusalOfCut hB hWB hGC.1 hx) rfl (fun h9 e9 => ?_)
    rw [show h9 = h from e9]
    refine r_areturn rfl dX7_refusalOf_113 ?_
    exact ⟨rfl, rfl⟩
  · refine r_tableOut dX7_refusalOf_16 (by decide) (tgt := 114) (by decide) ?_
    refine r_aload_n dX7_refusalOf_114 0 rfl ?_
    refine r_iload_n dX7_refusalOf_115 2 rfl ?_
    refine r_iload_n dX7_refusalOf_116 3 rfl ?_
    refine p_callV (As := [.int (iI x), .int (iI y)]) (b := o) (rest := []) (w := (some (.ref (K.1 (rStack B x y))))) (st' := [.ref (K.1 (rStack B x y))]) kv_X7_refusalOf_82 dX7_refusalOf_117 rfl rfl (Nat.le_of_ble_eq_true rfl) (Nat.le_of_ble_eq_true rfl) (x_rv mb fb rfl) rfl rfl (c_X1_refusalOfStack hB hWB hGC.1 hx hy) rfl (fun h9 e9 => ?_)
    rw [show h9 = h from e9]
    refine r_areturn rfl dX7_refusalOf_120 ?_
    exact ⟨rfl, rfl⟩
set_option maxRecDepth 20000 in
set_option maxHeartbeats 1000000 in
theorem c_X7_execute {G : xG} {h : xH} {K : xK} {sa : Nat → Nat} (hGC : GC G K sa) {o A : Nat} {fp : List Nat} {B : AB} (hB : BN G h o A fp B) (hWB : WB B) {k : Nat} (hk9 : k < 9) {x y : Int} (h0 : rCmd k B x y = 0) : CC G MX7_execute [.ref o, .ref (K.2.2.1 k), .int (iI x), .int (iI y)] h (fun o' h' => o' = .inl (some (.int (iI (vCmd k B x y)))) ∧ BN G h' o A fp (aCmd k B x y) ∧ FRp fp h h') := by
  obtain ⟨mb, ⟨vb, fb⟩, -⟩ := hB.mem
  show RR G MX7_execute 0 [(0, .ref o), (1, .ref (K.2.2.1 k)), (2, .int (iI x)), (3, .int (iI y))] [] h (xm_R MX7_execute).cells (xm_R MX7_execute).slots (fun o' h' => o' = .inl (some (.int (iI (vCmd k B x y)))) ∧ BN G h' o A fp (aCmd k B x y) ∧ FRp fp h h')
  refine r_aload_n dX7_execute_0 1 rfl ?_
  refine r_ifnonnull dX7_execute_1 (tgt := 6) (by decide) ?_
  refine r_gets hGC.2.2.2.2.1 kg_X7_45 dX7_execute_6 ?_
  refine r_aload_n dX7_execute_9 1 rfl ?_
  refine r_ord hGC hk9 rfl ⟨Nat.le_of_ble_eq_true rfl, Nat.le_of_ble_eq_true rfl⟩ dX7_execute_10 (Nat.le_of_ble_eq_true rfl) ?_
  refine i_ti hGC.2.2.2.2.2.1 k rfl dX7_execute_13 (by omega) (by omega) rfl ?_
  rcases (show k = 0 ∨ k = 1 ∨ k = 2 ∨ k = 3 ∨ k = 4 ∨ k = 5 ∨ k = 6 ∨ k = 7 ∨ k = 8 by omega) with e | e | e | e | e | e | e | e | e <;> subst e
  · refine r_tableIn dX7_execute_14 (by decide) (by decide) (off := 46) (by decide) (tgt := 60) (by decide) ?_
    obtain ⟨z1, z2, z3⟩ := rF0 h0
    obtain ⟨z4, z5⟩ := hasS_n z1
    have z6 := fac_t z2
    have z7 := fold_ok (WS.get hWB.1 z4) z6 z3
    have cP := c_X1_applyFold hB hWB z4 hGC.1 (np := y.toNat) (by omega) z7.1
    rw [z5, show (y.toNat : Int) = y by omega] at cP
    refine r_aload_n dX7_execute_60 0 rfl ?_
    refine r_iload_n dX7_execute_61 2 rfl ?_
    refine r_iload_n dX7_execute_62 3 rfl ?_
    refine p_callV (As := [.int (iI x), .int (iI y)]) (b := o) (rest := []) (w := (some (.int (iI (vCmd 0 B x y))))) (st' := [.int (iI (vCmd 0 B x y))]) kv_X7_execute_85 dX7_execute_63 rfl rfl (Nat.le_of_ble_eq_true rfl) (Nat.le_of_ble_eq_true rfl) (x_rv mb fb rfl) rfl rfl (cP) rfl (fun h9 e9 => ?_)
    refine r_ireturn rfl rfl dX7_execute_66 ?_
    exact ⟨rfl, e9⟩
  · refine r_tableIn dX7_execute_14 (by decide) (by decide) (off := 53) (by decide) (tgt := 67) (by decide) ?_
    obtain ⟨z1, z2, z3⟩ := rR0 h0
    obtain ⟨z4, z5⟩ := hasS_n z1
    have cP := c_X1_applyRoll hB hWB z4 hGC.1 (fac_t z2)
    rw [z5] at cP
    refine r_aload_n dX7_execute_67 0 rfl ?_
    refine r_iload_n dX7_execute_68 2 rfl ?_
    refine r_iload_n dX7_execute_69 3 rfl ?_
    refine p_callV (As := [.int (iI x), .int (iI y)]) (b := o) (rest := []) (w := (some (.int (iI (vCmd 1 B x y))))) (st' := [.int (iI (vCmd 1 B x y))]) kv_X7_execute_89 dX7_execute_70 rfl rfl (Nat.le_of_ble_eq_true rfl) (Nat.le_of_ble_eq_true rfl) (x_rv mb fb rfl) rfl rfl (cP) rfl (fun h9 e9 => ?_)
    refine r_ireturn rfl rfl dX7_execute_73 ?_
    exact ⟨rfl, e9⟩
  · refine r_tableIn dX7_execute_14 (by decide) (by decide) (off := 60) (by decide) (tgt := 74) (by decide) ?_
    obtain ⟨z1, z2⟩ := rD0 h0
    obtain ⟨z4, z5⟩ := hasS_n z1
    have cP := c_X1_applyDust hB hWB z4
    rw [z5] at cP
    refine r_aload_n dX7_execute_74 0 rfl ?_
    refine r_iload_n dX7_execute_75 2 rfl ?_
    refine p_callV (As := [.int (iI x)]) (b := o) (rest := []) (w := (some (.int (iI (vCmd 2 B x y))))) (st' := [.int (iI (vCmd 2 B x y))]) kv_X7_execute_92 dX7_execute_76 rfl rfl (Nat.le_of_ble_eq_true rfl) (Nat.le_of_ble_eq_true rfl) (x_rv mb fb rfl) rfl rfl (cP) rfl (fun h9 e9 => ?_)
    refine r_ireturn rfl rfl dX7_execute_79 ?_
    exact ⟨rfl, e9⟩
  · refine r_tableIn dX7_execute_14 (by decide) (by decide) (off := 66) (by decide) (tgt := 80) (by decide) ?_
    obtain ⟨z4, z5⟩ := hasS_n (rSe0 h0)
    have cP := c_X1_applySeal hB hWB z4
    rw [z5] at cP
    refine r_aload_n dX7_execute_80 0 rfl ?_
    refine r_iload_n dX7_execute_81 2 rfl ?_
    refine p_callV (As := [.int (iI x)]) (b := o) (rest := []) (w := (some (.int (iI (vCmd 3 B x y))))) (st' := [.int (iI (vCmd 3 B x y))]) kv_X7_execute_96 dX7_execute_82 rfl rfl (Nat.le_of_ble_eq_true rfl) (Nat.le_of_ble_eq_true rfl) (x_rv mb fb rfl) rfl rfl (cP) rfl (fun h9 e9 => ?_)
    refine r_ireturn rfl rfl dX7_execute_85 ?_
    exact ⟨rfl, e9⟩
  · refine r_tableIn dX7_execute_14 (by decide) (by decide) (off := 72) (by decide) (tgt := 86) (by decide) ?_
    obtain ⟨z4, z5⟩ := hasS_n (rCo0 h0)
    have cP := c_X1_applyCool hB hWB z4
    rw [z5] at cP
    refine r_aload_n dX7_execute_86 0 rfl ?_
    refine r_iload_n dX7_execute_87 2 rfl ?_
    refine p_callV (As := [.int (iI x)]) (b := o) (rest := []) (w := (some (.int (iI (vCmd 4 B x y))))) (st' := [.int (iI (vCmd 4 B x y))]) kv_X7_execute_99 dX7_execute_88 rfl rfl (Nat.le_of_ble_eq_true rfl) (Nat.le_of_ble_eq_true rfl) (x_rv mb fb rfl) rfl rfl (cP) rfl (fun h9 e9 => ?_)
    refine r_ireturn rfl rfl dX7_execute_91 ?_
    exact ⟨rfl, e9⟩
  · refine r_tableIn dX7_execute_14 (by decide) (by decide) (off := 78) (by decide) (tgt := 92) (by decide) ?_
    obtain ⟨z4, z5⟩ := hasS_n (rTa0 h0)
    have cP := c_X1_applyTakeOut hB hWB z4
    rw [z5] at cP
    refine r_aload_n dX7_execute_92 0 rfl ?_
    refine r_iload_n dX7_execute_93 2 rfl ?_
    refine p_callV (As := [.int (iI x)]) (b := o) (rest := []) (w := (some (.int (iI (vCmd 5 B x y))))) (st' := [.int (iI (vCmd 5 B x y))]) kv_X7_execute_102 dX7_execute_94 rfl rfl (Nat.le_of_ble_eq_true rfl) (Nat.le_of_ble_eq_true rfl) (x_rv mb fb rfl) rfl rfl (cP) rfl (fun h9 e9 => ?_)
    refine r_ireturn rfl rfl dX7_execute_97 ?_
    exact ⟨rfl, e9⟩
  · refine r_tableIn dX7_execute_14 (by decide) (by decide) (off := 84) (by decide) (tgt := 98) (by decide) ?_
    obtain ⟨z1, z2, z3⟩ := rH0 h0
    have z5 : (x.toNat : Int) = x := by omega
    have cP := c_X1_applyHours hB hWB hGC.1 (n := x.toNat) (by omega) (by omega)
    rw [z5] at cP
    refine r_aload_n dX7_execute_98 0 rfl ?_
    refine r_iload_n dX7_execute_99 2 rfl ?_
    refine p_callV (As := [.int (iI x)]) (b := o) (rest := []) (w := (some (.int (iI (vCmd 6 B x y))))) (st' := [.int (iI (vCmd 6 B x y))]) kv_X7_execute_105 dX7_execute_100 rfl rfl (Nat.le_of_ble_eq_true rfl) (Nat.le_of_ble_eq_true rfl) (x_rv mb fb rfl) rfl rfl (cP) rfl (fun h9 e9 => ?_)
    refine r_ireturn rfl rfl dX7_execute_103 ?_
    exact ⟨rfl, e9⟩
  · refine r_tableIn dX7_execute_14 (by decide) (by decide) (off := 90) (by decide) (tgt := 104) (by decide) ?_
    obtain ⟨z1, z2⟩ := rCu0 h0
    obtain ⟨z4, z5⟩ := hasS_n z1
    have cP := c_X1_applyCut hB z4 z2
    rw [z5] at cP
    refine r_aload_n dX7_execute_104 0 rfl ?_
    refine r_iload_n dX7_execute_105 2 rfl ?_
    refine p_callV (As := [.int (iI x)]) (b := o) (rest := []) (w := (some (.int (iI (vCmd 7 B x y))))) (st' := [.int (iI (vCmd 7 B x y))]) kv_X7_execute_108 dX7_execute_106 rfl rfl (Nat.le_of_ble_eq_true rfl) (Nat.le_of_ble_eq_true rfl) (x_rv mb fb rfl) rfl rfl (cP) rfl (fun h9 e9 => ?_)
    refine r_ireturn rfl rfl dX7_execute_109 ?_
    exact ⟨rfl, e9⟩
  · refine r_tableOut dX7_execute_14 (by decide) (tgt := 110) (by decide) ?_
    obtain ⟨z1, z2, z3, z8⟩ := rSt0 h0
    obtain ⟨z4, z5⟩ := hasS_n z1
    obtain ⟨z6, z7⟩ := hasS_n z2
    have cP := c_X1_applyStack hB hWB z4 z6 (by omega) (stack_ok (WS.get hWB.1 z4) (WS.get hWB.1 z6) z8).1
    rw [z5, z7] at cP
    refine r_aload_n dX7_execute_110 0 rfl ?_
    refine r_iload_n dX7_execute_111 2 rfl ?_
    refine r_iload_n dX7_execute_112 3 rfl ?_
    refine p_callV (As := [.int (iI x), .int (iI y)]) (b := o) (rest := []) (w := (some (.int (iI (vCmd 8 B x y))))) (st' := [.int (iI (vCmd 8 B x y))]) kv_X7_execute_111 dX7_execute_113 rfl rfl (Nat.le_of_ble_eq_true rfl) (Nat.le_of_ble_eq_true rfl) (x_rv mb fb rfl) rfl rfl (cP) rfl (fun h9 e9 => ?_)
    refine r_ireturn rfl rfl dX7_execute_116 ?_
    exact ⟨rfl, e9⟩
theorem rCmd_lt {k : Nat} {B : AB} {a b : Int} : rCmd k B a b < 4 := by
  have e : ∀ (c : Bool) (x y : Nat), x < 4 → y < 4 → (if c = true then x else y) < 4 := fun c x y h1 h2 => by split <;> assumption
  have e2 : ∀ (c : Prop) [Decidable c] (x y : Nat), x < 4 → y < 4 → (if c then x else y) < 4 := fun c _ x y h1 h2 => by split <;> assumption
  match k with
  | 0 => unfold rCmd rFold; exact e _ _ _ (e _ _ _ (e2 _ _ _ (by decide) (by decide)) (by decide)) (by decide)
  | 1 => unfold rCmd rRoll rRollS; exact e _ _ _ (e _ _ _ (e _ _ _ (by decide) (e2 _ _ _ (by decide) (by decide))) (by decide)) (by decide)
  | 2 => unfold rCmd rDust rDustS; exact e _ _ _ (e _ _ _ (by decide) (e _ _ _ (by decide) (e2 _ _ _ (by decide) (by decide)))) (by decide)
  | 3 => unfold rCmd rSeal rSealS; exact e _ _ _ (e _ _ _ (by decide) (e _ _ _ (by decide) (by decide))) (by decide)
  | 4 => unfold rCmd rCool rCoolS; exact e _ _ _ (e _ _ _ (by decide) (e2 _ _ _ (by decide) (by decide))) (by decide)
  | 5 => unfold rCmd rTake rTakeS; exact e _ _ _ (e _ _ _ (by decide) (by decide)) (by decide)
  | 6 => unfold rCmd rHours; exact e2 _ _ _ (by decide) (e2 _ _ _ (by decide) (e2 _ _ _ (by decide) (by decide)))
  | 7 => unfold rCmd rCut rCutS; exact e _ _ _ (e _ _ _ (by decide) (e2 _ _ _ (by decide) (by decide))) (by decide)
  | n + 8 => unfold rCmd rStack rStackS; exact e _ _ _ (e _ _ _ (e2 _ _ _ (by decide) (e _ _ _ (by decide) (e _ _ _ (by decide) (e2 _ _ _ (by decide) (e2 _ _ _ (by decide) (by decide)))))) (by decide)) (by decide)
theorem rCmd_inj {G : xG} {K : xK} (hG : GK G K) {k : Nat} {B : AB} {a b : Int} (h : K.1 (rCmd k B a b) = K.1 0) : rCmd k B a b = 0 := hG.2.1.2 _ _ rCmd_lt (by decide) h
set_option maxRecDepth 20000 in
set_option maxHeartbeats 1000000 in
theorem c_X7_executeOn {G : xG} {h : xH} {K : xK} {sa : Nat → Nat} (hGC : GC G K sa) {o a b c : Nat} {cs : List CM} (hS : SCR G h K o a b c cs) {bo A : Nat} {fp : List Nat} {B : AB} (hB : BN G h bo A fp B) (hWB : WB B) (hd : o ∉ fp ∧ a ∉ fp ∧ b ∉ fp ∧ c ∉ fp) : CC G MX7_executeOn [.ref o, .ref bo] h (fun o' h' => o' = .inl (some (.int (iI ((exeL cs B).1 : Int)))) ∧ BN G h' bo A fp (exeL cs B).2 ∧ FRp fp h h') := by
  have hGK := hGC.1
  have hS9 := hS
  have L : ∀ i, i ≤ cs.length → ∀ (hh : xH) (B1 : AB), BN G hh bo A fp B1 → WB B1 → FRp fp h hh → RR G MX7_executeOn 2 [(0, .ref o), (1, .ref bo), (2, .int (iI ((i : Int))))] [] hh (xm_R MX7_executeOn).cells (xm_R MX7_executeOn).slots (fun o' h' => o' = .inl (some (.int (iI ((i : Int) + ((exeL (cs.drop i) B1).1 : Int))))) ∧ BN G h' bo A fp (exeL (cs.drop i) B1).2 ∧ FRp fp h h') := by
    refine down (fun i hi ih => ?_)
    intro hh B1 hB1 hW1 hF
    have hS := hS9.fr hF hd.1 hd.2.1 hd.2.2.1 hd.2.2.2
    have hS0 := hS
    obtain ⟨g, f, s, ⟨mo, ma, mb, mc⟩, nbc, fo, fa, fb, fc, hl, hr⟩ := hS
    have noa : o ≠ a := ne_oi fo fa
    have nob : o ≠ b := ne_oi fo fb
    have noc : o ≠ c := ne_oi fo fc
    have nab : a ≠ b := ne_qi fa fb
    have nac : a ≠ c := ne_qi fa fc
    refine r_iload_n dX7_executeOn_2 2 rfl ?_
    refine r_aload_n dX7_executeOn_3 0 rfl ?_
    refine r_get cl_X7 3 (by decide) kf_X7_24 dX7_executeOn_4 mo fo rfl ?_
    refine i_icmpge dX7_executeOn_7 (tgt := 69) (by decide) (by unfold in32; omega) (by unfold in32; omega) (fun c7 => ?_) (fun c7 => ?_)
    · refine r_aload_n dX7_executeOn_69 0 rfl ?_
      refine r_get cl_X7 3 (by decide) kf_X7_24 dX7_executeOn_70 mo fo rfl ?_
      refine r_ireturn rfl rfl dX7_executeOn_73 ?_
      have ei : cs.drop i = [] := by rw [List.drop_eq_nil_iff]; omega
      rw [ei]
      exact ⟨by rw [show (cs.length : Int) = (i : Int) + 0 by omega]; rfl, hB1, hF⟩
    · have hi9 : i < cs.length := by omega
      obtain ⟨r1, r2, r3, r4, r5, r6⟩ := hr i hi9
      have hdc := drop_c hi9
      refine r_aload_n dX7_executeOn_10 1 rfl ?_
      refine r_aload_n dX7_executeOn_11 0 rfl ?_
      refine r_get cl_X7 0 (by decide) kf_X7_11 dX7_executeOn_12 mo fo rfl ?_
      refine r_iload_n dX7_executeOn_15 2 rfl ?_
      refine i_aald rfl i rfl dX7_executeOn_16 ma fa (by omega) (by decide) (hr i (by omega)).1 ?_
      refine r_aload_n dX7_executeOn_17 0 rfl ?_
      refine r_get cl_X7 1 (by decide) kf_X7_17 dX7_executeOn_18 mo fo rfl ?_
      refine r_iload_n dX7_executeOn_21 2 rfl ?_
      refine i_iald i rfl dX7_executeOn_22 mb fb (by omega) (by decide) (hr i (by omega)).2.1 ?_
      refine r_aload_n dX7_executeOn_23 0 rfl ?_
      refine r_get cl_X7 2 (by decide) kf_X7_21 dX7_executeOn_24 mo fo rfl ?_
      refine r_iload_n dX7_executeOn_27 2 rfl ?_
      refine i_iald i rfl dX7_executeOn_28 mc fc (by omega) (by decide) (hr i (by omega)).2.2.1 ?_
      refine p_callS (As := [.ref bo, .ref (K.2.2.1 (cs.getD i dC).1), .int (iI ((cs.getD i dC).2.1)), .int (iI ((cs.getD i dC).2.2))]) (rest := []) (w := (some (.ref (K.1 (rCmd (cs.getD i dC).1 B1 (cs.getD i dC).2.1 (cs.getD i dC).2.2))))) (st' := [.ref (K.1 (rCmd (cs.getD i dC).1 B1 (cs.getD i dC).2.1 (cs.getD i dC).2.2))]) kv_X7_executeOn_28 dX7_executeOn_29 rfl rfl (Nat.le_of_ble_eq_true rfl) (Nat.le_of_ble_eq_true rfl) rfl rfl (c_X7_refusalOf hGC hB1 hW1 r4 r5 r6) rfl (fun h9 e9 => ?_)
      rw [show h9 = hh from e9]
      refine r_gets (gk_R hGK 0 (by decide)) kg_X7_32 dX7_executeOn_32 ?_
      refine r_acmpeq dX7_executeOn_35 (tgt := 40) (by decide) (fun c35 => ?_) (fun c35 => ?_)
      · have h0 : rCmd (cs.getD i dC).1 B1 (cs.getD i dC).2.1 (cs.getD i dC).2.2 = 0 := rCmd_inj hGC.1 c35
        refine r_aload_n dX7_executeOn_40 1 rfl ?_
        refine r_aload_n dX7_executeOn_41 0 rfl ?_
        refine r_get cl_X7 0 (by decide) kf_X7_11 dX7_executeOn_42 mo fo rfl ?_
        refine r_iload_n dX7_executeOn_45 2 rfl ?_
        refine i_aald rfl i rfl dX7_executeOn_46 ma fa (by omega) (by decide) (hr i (by omega)).1 ?_
        refine r_aload_n dX7_executeOn_47 0 rfl ?_
        refine r_get cl_X7 1 (by decide) kf_X7_17 dX7_executeOn_48 mo fo rfl ?_
        refine r_iload_n dX7_executeOn_51 2 rfl ?_
        refine i_iald i rfl dX7_executeOn_52 mb fb (by omega) (by decide) (hr i (by omega)).2.1 ?_
        refine r_aload_n dX7_executeOn_53 0 rfl ?_
        refine r_get cl_X7 2 (by decide) kf_X7_21 dX7_executeOn_54 mo fo rfl ?_
        refine r_iload_n dX7_executeOn_57 2 rfl ?_
        refine i_iald i rfl dX7_executeOn_58 mc fc (by omega) (by decide) (hr i (by omega)).2.2.1 ?_
        refine p_callS (As := [.ref bo, .ref (K.2.2.1 (cs.getD i dC).1), .int (iI ((cs.getD i dC).2.1)), .int (iI ((cs.getD i dC).2.2))]) (rest := []) (w := (some (.int (iI (vCmd (cs.getD i dC).1 B1 (cs.getD i dC).2.1 (cs.getD i dC).2.2))))) (st' := [.int (iI (vCmd (cs.getD i dC).1 B1 (cs.getD i dC).2.1 (cs.getD i dC).2.2))]) kv_X7_executeOn_38 dX7_executeOn_59 rfl rfl (Nat.le_of_ble_eq_true rfl) (Nat.le_of_ble_eq_true rfl) rfl rfl (c_X7_execute hGC hB1 hW1 r4 h0) rfl (fun hX eX => ?_)
        refine r_pop dX7_executeOn_62 rfl ?_
        refine i_iinc (ls' := [(0, .ref o), (1, .ref bo), (2, .int (iI ((i : Int) + 1)))]) (1) (v := (i : Int) + 1) dX7_executeOn_63 2 rfl (by omega) (by decide) rfl ?_
        refine r_goto dX7_executeOn_66 (tgt := 2) (by decide) ?_
        have ex : exeL (cs.drop i) B1 = ((exeL (cs.drop (i + 1)) (aCmd (cs.getD i dC).1 B1 (cs.getD i dC).2.1 (cs.getD i dC).2.2)).1 + 1, (exeL (cs.drop (i + 1)) (aCmd (cs.getD i dC).1 B1 (cs.getD i dC).2.1 (cs.getD i dC).2.2)).2) := by rw [hdc, exeL, if_pos h0]
        rw [ex]
        refine rr_mono (ih (i + 1) (by omega) (by omega) _ _ eX.1 (hW1.cmd h0) (FRp.tr hF eX.2)) (fun o8 h8 q => ⟨?_, q.2⟩)
        rw [q.1]
        rw [show ((i + 1 : Nat) : Int) + ((exeL (cs.drop (i + 1)) (aCmd (cs.getD i dC).1 B1 (cs.getD i dC).2.1 (cs.getD i dC).2.2)).1 : Int) = (i : Int) + (((exeL (cs.drop (i + 1)) (aCmd (cs.getD i dC).1 B1 (cs.getD i dC).2.1 (cs.getD i dC).2.2)).1 + 1 : Nat) : Int) by omega]
      · refine r_iload_n dX7_executeOn_38 2 rfl ?_
        refine r_ireturn rfl rfl dX7_executeOn_39 ?_
        have hne : rCmd (cs.getD i dC).1 B1 (cs.getD i dC).2.1 (cs.getD i dC).2.2 ≠ 0 := fun z => c35 (by rw [z])
        have ex : exeL (cs.drop i) B1 = (0, B1) := by rw [hdc, exeL, if_neg hne]
        rw [ex]
        exact ⟨by rw [show (i : Int) = (i : Int) + 0 by omega]; rfl, hB1, hF⟩
  show RR G MX7_executeOn 0 [(0, .ref o), (1, .ref bo)] [] h (xm_R MX7_executeOn).cells (xm_R MX7_executeOn).slots (fun o' h' => o' = .inl (some (.int (iI ((exeL cs B).1 : Int)))) ∧ BN G h' bo A fp (exeL cs B).2 ∧ FRp fp h h')
  refine i_const (0) dX7_executeOn_0 ?_
  refine r_istore_n (ls' := [(0, .ref o), (1, .ref bo), (2, .int (iI 0))]) dX7_executeOn_1 (by decide) rfl ?_
  have q := L 0 (by omega) h B hB hWB FRp.rf
  refine rr_mono q (fun o8 h8 q => ⟨?_, q.2⟩)
  rw [q.1]; rw [List.drop_zero, show ((0 : Nat) : Int) + ((exeL cs B).1 : Int) = ((exeL cs B).1 : Int) by omega]
