/-! ===== the law's own methods: text that is added ===== -/
theorem iZ_shl {z : Int} (hz : 0 ≤ z ∧ z < 128) (n : Nat) : iI z <<< (iI (24 - 8 * ((n : Int) % 4)) &&& 31) = iI ((z.toNat * 2 ^ sh4 n : Nat) : Int) := by
  obtain ⟨b, rfl⟩ : ∃ b : Nat, z = (b : Int) := ⟨z.toNat, by omega⟩
  rw [Int.toNat_natCast]
  exact iN_shl n b (by omega)
theorem add_or {U : List Int} {z : Int} (hU : B7 U) (hz : 0 ≤ z ∧ z < 128) : iI ((pkN (resU U) (U.length % 20 / 4) : Nat) : Int) ||| iI ((z.toNat * 2 ^ sh4 U.length : Nat) : Int) = iI ((pkN (resU U ++ [z]) (U.length % 20 / 4) : Nat) : Int) := by
  have e := pkN_eq (l := resU U) (hU.drop _) hz
  rw [resU_len] at e
  rw [iN_or, show sh4 U.length = sh4 (U.length % 20) by unfold sh4; omega, e]
set_option maxRecDepth 20000 in
set_option maxHeartbeats 1000000 in
theorem c_L_add {G : xG} {h : xH} {K : xK} {sa : Nat → Nat} (hGC : GC G K sa) (hGT : GT G sa) (hGE : GE G) {x : Nat} {ad : XA} {S : XS} (hX : XB G h K x ad S) (hW : WX S) {w : Nat} {U : List Int} (hS : S.1 = inpU U) (hw : WAR G h w U) (hU : B7 U) (hUl : U.length ≤ 470) {z : Int} (hz : 0 ≤ z ∧ z < 128) (hwx : w ∉ fpX x ad) : CC G ML_add [.ref x, .ref w, .int (iI z)] h (fun o' h' => o' = .inl none ∧ XB G h' K x ad (inpU (U ++ [z]), S.2) ∧ WAR G h' w (U ++ [z]) ∧ FRp (w :: fpX x ad) h h') := by
  obtain ⟨g, mw, fw, hg5, hgj⟩ := hw
  have hVl := resU_len U
  have hSl : S.1.length ≤ 470 := by rw [hS]; unfold inpU; rw [List.length_take]; omega
  show RR G ML_add 0 [(0, .ref x), (1, .ref w), (2, .int (iI z))] [] h (xm_R ML_add).cells (xm_R ML_add).slots (fun o' h' => o' = .inl none ∧ XB G h' K x ad (inpU (U ++ [z]), S.2) ∧ WAR G h' w (U ++ [z]) ∧ FRp (w :: fpX x ad) h h')
  refine r_aload_n dL_add_0 1 rfl ?_
  refine r_aload_n dL_add_1 1 rfl ?_
  refine i_const (5) dL_add_2 ?_
  refine i_iald 5 rfl dL_add_3 mw fw (by omega) (by decide) hg5 ?_
  refine i_bipush (20) (by decide) dL_add_4 ?_
  refine i_rem dL_add_6 (by unfold in32; omega) ⟨by decide, by decide⟩ (by omega) (by omega) ?_
  refine i_const (4) dL_add_7 ?_
  refine i_div dL_add_8 (by unfold in32; omega) ⟨by decide, by decide⟩ (by omega) (by omega) ?_
  refine r_dup2 dL_add_9 rfl rfl ?_
  refine i_iald (U.length % 20 / 4) (by omega) dL_add_10 mw fw (by omega) (by decide) (hgj _ (by omega)) ?_
  refine r_iload_n dL_add_11 2 rfl ?_
  refine i_bipush (24) (by decide) dL_add_12 ?_
  refine i_bipush (8) (by decide) dL_add_14 ?_
  refine r_aload_n dL_add_16 1 rfl ?_
  refine i_const (5) dL_add_17 ?_
  refine i_iald 5 rfl dL_add_18 mw fw (by omega) (by decide) hg5 ?_
  refine i_const (4) dL_add_19 ?_
  refine i_rem dL_add_20 (by unfold in32; omega) ⟨by decide, by decide⟩ (by omega) (by omega) ?_
  refine i_mul dL_add_21 ?_
  refine i_sub dL_add_22 ?_
  refine r_ishl dL_add_23 ?_
  rw [iZ_shl hz]
  refine r_ior dL_add_24 ?_
  rw [add_or hU hz]
  refine i_iast (U.length % 20 / 4) (by omega) dL_add_25 mw fw (by omega) (by decide) (fun h1 e0_1 e1_1 e2_1 => ?_)
  have mw_1 : w ∈ h1.1 := by rw [e0_1]; exact mw
  refine r_aload_n dL_add_26 1 rfl ?_
  refine i_const (5) dL_add_27 ?_
  refine r_dup2 dL_add_28 rfl rfl ?_
  refine i_iald 5 rfl dL_add_29 mw_1 e1_1 (by omega) (by decide) (show _ = iI (U.length : Int) by unfold upd; rw [if_neg (by omega)]; exact hg5) ?_
  refine i_const (1) dL_add_30 ?_
  refine i_add dL_add_31 ?_
  refine i_iast 5 rfl dL_add_32 mw_1 e1_1 (by omega) (by decide) (fun h2 e0_2 e1_2 e2_2 => ?_)
  have mw_2 : w ∈ h2.1 := by rw [e0_2]; exact mw_1
  have hnew : ∀ j, j < 5 → (upd (upd g (U.length % 20 / 4) (iI (((pkN (resU U ++ [z]) (U.length % 20 / 4) : Nat) : Int)))) 5 (iI ((U.length : Int) + 1))) j = iI ((pkN (resU U ++ [z]) j : Nat) : Int) := by
    intro j hj
    unfold upd
    rw [if_neg (by omega)]
    by_cases c : j = U.length % 20 / 4
    · rw [if_pos c, c]
    · rw [if_neg c, hgj j hj, pk_ne (by rw [hVl]; exact c)]
  have hF1 : FRp [w] h h2 := ((FRp.w (fp := [w]) (by simp) e0_1 e2_1).tr (FRp.w (fp := [w]) (by simp) e0_2 e2_2))
  have hX1 : XB G h2 K x ad S := hX.fr hF1 (fun q hq z => hwx (by rw [← List.mem_singleton.mp z]; exact hq))
  refine r_aload_n dL_add_33 1 rfl ?_
  refine i_const (5) dL_add_34 ?_
  refine i_iald 5 rfl dL_add_35 mw_2 e1_2 (by omega) (by decide) (show _ = iI ((U.length : Int) + 1) by unfold upd; rw [if_pos rfl]) ?_
  refine i_bipush (20) (by decide) dL_add_36 ?_
  refine i_rem dL_add_38 (by unfold in32; omega) ⟨by decide, by decide⟩ (by omega) (by omega) ?_
  refine i_ifeq dL_add_39 (tgt := 43) (by decide) (by unfold in32; omega) (fun c39 => ?_) (fun c39 => ?_)
  · refine r_aload_n dL_add_43 0 rfl ?_
    refine r_aload_n dL_add_44 1 rfl ?_
    refine i_const (0) dL_add_45 ?_
    refine i_iald 0 rfl dL_add_46 mw_2 e1_2 (by omega) (by decide) (hnew 0 (by decide)) ?_
    refine r_aload_n dL_add_47 1 rfl ?_
    refine i_const (1) dL_add_48 ?_
    refine i_iald 1 rfl dL_add_49 mw_2 e1_2 (by omega) (by decide) (hnew 1 (by decide)) ?_
    refine r_aload_n dL_add_50 1 rfl ?_
    refine i_const (2) dL_add_51 ?_
    refine i_iald 2 rfl dL_add_52 mw_2 e1_2 (by omega) (by decide) (hnew 2 (by decide)) ?_
    refine r_aload_n dL_add_53 1 rfl ?_
    refine i_const (3) dL_add_54 ?_
    refine i_iald 3 rfl dL_add_55 mw_2 e1_2 (by omega) (by decide) (hnew 3 (by decide)) ?_
    refine r_aload_n dL_add_56 1 rfl ?_
    refine i_const (4) dL_add_57 ?_
    refine i_iald 4 rfl dL_add_58 mw_2 e1_2 (by omega) (by decide) (hnew 4 (by decide)) ?_
    refine p_callV (As := [.int (iI (((pkN (resU U ++ [z]) 0 : Nat) : Int))), .int (iI (((pkN (resU U ++ [z]) 1 : Nat) : Int))), .int (iI (((pkN (resU U ++ [z]) 2 : Nat) : Int))), .int (iI (((pkN (resU U ++ [z]) 3 : Nat) : Int))), .int (iI (((pkN (resU U ++ [z]) 4 : Nat) : Int)))]) (b := x) (rest := []) (w := (some (.int (iI (((S.1 ++ words4 (iI ((pkN (resU U ++ [z]) 0 : Nat) : Int)) ++ words4 (iI ((pkN (resU U ++ [z]) 1 : Nat) : Int)) ++ words4 (iI ((pkN (resU U ++ [z]) 2 : Nat) : Int)) ++ words4 (iI ((pkN (resU U ++ [z]) 3 : Nat) : Int)) ++ words4 (iI ((pkN (resU U ++ [z]) 4 : Nat) : Int))).length : Int)))))) (st' := [.int (iI (((S.1 ++ words4 (iI ((pkN (resU U ++ [z]) 0 : Nat) : Int)) ++ words4 (iI ((pkN (resU U ++ [z]) 1 : Nat) : Int)) ++ words4 (iI ((pkN (resU U ++ [z]) 2 : Nat) : Int)) ++ words4 (iI ((pkN (resU U ++ [z]) 3 : Nat) : Int)) ++ words4 (iI ((pkN (resU U ++ [z]) 4 : Nat) : Int))).length : Int)))]) kv_L_add_8 dL_add_59 rfl rfl (Nat.le_of_ble_eq_true rfl) (Nat.le_of_ble_eq_true rfl) (xb_rv hX1) rfl rfl (c_X11_appendText_ok hGC hGT hGE hX1 hW (by omega)) rfl (fun hk3 e9k3 => ?_)
    obtain ⟨hX2, hF2⟩ := e9k3
    have mw9 : w ∈ hk3.1 := by rw [hF2.1]; exact mw_2
    have fw9 := (hF2.2 w hwx).trans e1_2
    refine r_pop dL_add_62 rfl ?_
    refine i_const (0) dL_add_63 ?_
    refine r_istore_n (ls' := [(0, .ref x), (1, .ref w), (2, .int (iI z)), (3, .int (iI 0))]) dL_add_64 (by decide) rfl ?_
    refine r_iload_n dL_add_65 3 rfl ?_
    refine i_const (5) dL_add_66 ?_
    refine i_icmpge dL_add_67 (tgt := 80) (by decide) ⟨by decide, by decide⟩ ⟨by decide, by decide⟩ (fun c => absurd c (by decide)) (fun _ => ?_)
    refine r_aload_n dL_add_70 1 rfl ?_
    refine r_iload_n dL_add_71 3 rfl ?_
    refine i_const (0) dL_add_72 ?_
    refine i_iast 0 rfl dL_add_73 mw9 fw9 (by omega) (by decide) (fun h4 e0_4 e1_4 e2_4 => ?_)
    have mw_4 : w ∈ h4.1 := by rw [e0_4]; exact mw9
    refine i_iinc (ls' := [(0, .ref x), (1, .ref w), (2, .int (iI z)), (3, .int (iI 1))]) (1) (v := 1) dL_add_74 3 rfl (by decide) (by decide) rfl ?_
    refine r_goto dL_add_77 (tgt := 65) (by decide) ?_
    refine r_iload_n dL_add_65 3 rfl ?_
    refine i_const (5) dL_add_66 ?_
    refine i_icmpge dL_add_67 (tgt := 80) (by decide) ⟨by decide, by decide⟩ ⟨by decide, by decide⟩ (fun c => absurd c (by decide)) (fun _ => ?_)
    refine r_aload_n dL_add_70 1 rfl ?_
    refine r_iload_n dL_add_71 3 rfl ?_
    refine i_const (0) dL_add_72 ?_
    refine i_iast 1 rfl dL_add_73 mw_4 e1_4 (by omega) (by decide) (fun h5 e0_5 e1_5 e2_5 => ?_)
    have mw_5 : w ∈ h5.1 := by rw [e0_5]; exact mw_4
    refine i_iinc (ls' := [(0, .ref x), (1, .ref w), (2, .int (iI z)), (3, .int (iI 2))]) (1) (v := 2) dL_add_74 3 rfl (by decide) (by decide) rfl ?_
    refine r_goto dL_add_77 (tgt := 65) (by decide) ?_
    refine r_iload_n dL_add_65 3 rfl ?_
    refine i_const (5) dL_add_66 ?_
    refine i_icmpge dL_add_67 (tgt := 80) (by decide) ⟨by decide, by decide⟩ ⟨by decide, by decide⟩ (fun c => absurd c (by decide)) (fun _ => ?_)
    refine r_aload_n dL_add_70 1 rfl ?_
    refine r_iload_n dL_add_71 3 rfl ?_
    refine i_const (0) dL_add_72 ?_
    refine i_iast 2 rfl dL_add_73 mw_5 e1_5 (by omega) (by decide) (fun h6 e0_6 e1_6 e2_6 => ?_)
    have mw_6 : w ∈ h6.1 := by rw [e0_6]; exact mw_5
    refine i_iinc (ls' := [(0, .ref x), (1, .ref w), (2, .int (iI z)), (3, .int (iI 3))]) (1) (v := 3) dL_add_74 3 rfl (by decide) (by decide) rfl ?_
    refine r_goto dL_add_77 (tgt := 65) (by decide) ?_
    refine r_iload_n dL_add_65 3 rfl ?_
    refine i_const (5) dL_add_66 ?_
    refine i_icmpge dL_add_67 (tgt := 80) (by decide) ⟨by decide, by decide⟩ ⟨by decide, by decide⟩ (fun c => absurd c (by decide)) (fun _ => ?_)
    refine r_aload_n dL_add_70 1 rfl ?_
    refine r_iload_n dL_add_71 3 rfl ?_
    refine i_const (0) dL_add_72 ?_
    refine i_iast 3 rfl dL_add_73 mw_6 e1_6 (by omega) (by decide) (fun h7 e0_7 e1_7 e2_7 => ?_)
    have mw_7 : w ∈ h7.1 := by rw [e0_7]; exact mw_6
    refine i_iinc (ls' := [(0, .ref x), (1, .ref w), (2, .int (iI z)), (3, .int (iI 4))]) (1) (v := 4) dL_add_74 3 rfl (by decide) (by decide) rfl ?_
    refine r_goto dL_add_77 (tgt := 65) (by decide) ?_
    refine r_iload_n dL_add_65 3 rfl ?_
    refine i_const (5) dL_add_66 ?_
    refine i_icmpge dL_add_67 (tgt := 80) (by decide) ⟨by decide, by decide⟩ ⟨by decide, by decide⟩ (fun c => absurd c (by decide)) (fun _ => ?_)
    refine r_aload_n dL_add_70 1 rfl ?_
    refine r_iload_n dL_add_71 3 rfl ?_
    refine i_const (0) dL_add_72 ?_
    refine i_iast 4 rfl dL_add_73 mw_7 e1_7 (by omega) (by decide) (fun h8 e0_8 e1_8 e2_8 => ?_)
    have mw_8 : w ∈ h8.1 := by rw [e0_8]; exact mw_7
    refine i_iinc (ls' := [(0, .ref x), (1, .ref w), (2, .int (iI z)), (3, .int (iI 5))]) (1) (v := 5) dL_add_74 3 rfl (by decide) (by decide) rfl ?_
    refine r_goto dL_add_77 (tgt := 65) (by decide) ?_
    refine r_iload_n dL_add_65 3 rfl ?_
    refine i_const (5) dL_add_66 ?_
    refine i_icmpge dL_add_67 (tgt := 80) (by decide) ⟨by decide, by decide⟩ ⟨by decide, by decide⟩ (fun _ => ?_) (fun c => absurd c (by decide))
    refine r_return rfl dL_add_80 ?_
    have e := resU_f (U := U) (z := z) (by omega)
    have hF3 : FRp [w] hk3 h8 := (((((FRp.w (fp := [w]) (by simp) e0_4 e2_4).tr (FRp.w (fp := [w]) (by simp) e0_5 e2_5)).tr (FRp.w (fp := [w]) (by simp) e0_6 e2_6)).tr (FRp.w (fp := [w]) (by simp) e0_7 e2_7)).tr (FRp.w (fp := [w]) (by simp) e0_8 e2_8))
    have hw9 := w20 e.2.2 ((hU.drop _ : B7 (resU U)).app hz)
    refine ⟨rfl, ?_, ⟨_, mw_8, e1_8, ?_, ?_⟩, ?_⟩
    · rw [e.2.1, ← hS, ← hw9]
      have hX3 := hX2.fr hF3 (fun q hq z => hwx (by rw [← List.mem_singleton.mp z]; exact hq))
      simpa only [List.append_assoc] using hX3
    · have e5 : ((U ++ [z]).length : Int) = (U.length : Int) + 1 := by rw [List.length_append]; push_cast; rfl
      rw [e5]
      unfold upd
      rw [if_neg (by decide), if_neg (by decide), if_neg (by decide), if_neg (by decide), if_neg (by decide), if_pos rfl]
    · intro j hj
      rw [e.1, pk_nil]
      rcases (show j = 0 ∨ j = 1 ∨ j = 2 ∨ j = 3 ∨ j = 4 by omega) with rfl | rfl | rfl | rfl | rfl <;> rfl
    · exact ((hF1.mono (by simp)).tr (hF2.mono (by intro q hq; simp [hq]))).tr (hF3.mono (by simp))
  · refine r_return rfl dL_add_42 ?_
    have e := resU_s (U := U) (z := z) (by omega)
    refine ⟨rfl, ?_, ⟨_, mw_2, e1_2, ?_, ?_⟩, hF1.mono (by simp)⟩
    · rw [e.2, ← hS]; exact hX1
    · have e5 : ((U ++ [z]).length : Int) = (U.length : Int) + 1 := by rw [List.length_append]; push_cast; rfl
      rw [e5]
      unfold upd
      rw [if_pos rfl]
    · rw [e.1]; exact hnew
theorem STO.fr {G : xG} {h h' : xH} {s q : Nat} {T : List Int} {g : Nat → Int32} {fp : List Nat} (hT : STO G h s q T g) (hF : FRp fp h h') (n1 : s ∉ fp) (n2 : q ∉ fp) : STO G h' s q T g := by
  obtain ⟨⟨m1, m2⟩, f1, f2, r⟩ := hT
  exact ⟨⟨by rw [hF.1]; exact m1, by rw [hF.1]; exact m2⟩, (hF.2 s n1).trans f1, (hF.2 q n2).trans f2, r⟩
theorem B7.app2 {U T : List Int} (hU : B7 U) (hT : ∀ k, k < T.length → 0 ≤ T.getD k 0 ∧ T.getD k 0 < 128) : B7 (U ++ T) := fun i => by
  rw [List.getD_eq_getElem?_getD]
  by_cases c : i < U.length
  · rw [List.getElem?_append_left c, ← List.getD_eq_getElem?_getD]; exact hU i
  · rw [List.getElem?_append_right (by omega), ← List.getD_eq_getElem?_getD]
    by_cases c2 : i - U.length < T.length
    · exact hT _ c2
    · rw [getD_out (by omega)]; omega
set_option maxRecDepth 20000 in
set_option maxHeartbeats 1000000 in
theorem c_L_say {G : xG} {h : xH} {K : xK} {sa : Nat → Nat} (hGC : GC G K sa) (hGT : GT G sa) (hGE : GE G) {x : Nat} {ad : XA} {S : XS} (hX : XB G h K x ad S) (hW : WX S) {w : Nat} {U : List Int} (hS : S.1 = inpU U) (hw : WAR G h w U) (hU : B7 U) {s q : Nat} {T : List Int} {g : Nat → Int32} (hT : STO G h s q T g) (hGS : GS G) (hUl : U.length + T.length ≤ 470) (hwx : w ∉ fpX x ad) (hsw : s ≠ w ∧ q ≠ w ∧ s ∉ fpX x ad ∧ q ∉ fpX x ad) : CC G ML_say [.ref x, .ref w, .ref s] h (fun o' h' => o' = .inl none ∧ XB G h' K x ad (inpU (U ++ T), S.2) ∧ WAR G h' w (U ++ T) ∧ FRp (w :: fpX x ad) h h') := by
  have hT0 := hT
  have hl : T.length ≤ 320 := hT.2.2.2.1
  have hs1 : s ∉ w :: fpX x ad := fun z => by rcases List.mem_cons.mp z with z | z; exact hsw.1 z; exact hsw.2.2.1 z
  have hs2 : q ∉ w :: fpX x ad := fun z => by rcases List.mem_cons.mp z with z | z; exact hsw.2.1 z; exact hsw.2.2.2 z
  have L : ∀ i, i ≤ T.length → ∀ h2 : xH, XB G h2 K x ad (inpU (U ++ T.take i), S.2) → WAR G h2 w (U ++ T.take i) → FRp (w :: fpX x ad) h h2 → STO G h2 s q T g → RR G ML_say 2 [(0, .ref x), (1, .ref w), (2, .ref s), (3, .int (iI ((i : Int))))] [] h2 (xm_R ML_say).cells (xm_R ML_say).slots (fun o' h' => o' = .inl none ∧ XB G h' K x ad (inpU (U ++ T), S.2) ∧ WAR G h' w (U ++ T) ∧ FRp (w :: fpX x ad) h h') := by
    refine down (fun i hi ih => ?_)
    intro h2 hX2 hw2 hF hT2
    have hTb : ∀ k, k < (T.take i).length → 0 ≤ (T.take i).getD k 0 ∧ (T.take i).getD k 0 < 128 := fun k hk => by
      rw [List.length_take] at hk
      rw [List.getD_eq_getElem?_getD, List.getElem?_take, if_pos (by omega), ← List.getD_eq_getElem?_getD]; exact hT0.2.2.2.2.2 k (by omega)
    refine r_iload_n dL_say_2 3 rfl ?_
    refine r_aload_n dL_say_3 2 rfl ?_
    refine p_callV (As := []) (b := s) (rest := [.int (iI ((i : Int)))]) (w := (some (.int (iI ((T.length : Int)))))) (st' := [.int (iI ((T.length : Int))), .int (iI ((i : Int)))]) kv_L_say_14 dL_say_4 rfl rfl (Nat.le_of_ble_eq_true rfl) (Nat.le_of_ble_eq_true rfl) (x_rv hT2.1.1 hT2.2.1 rfl) rfl rfl (c_J0_length_o hGS hT2) rfl (fun hk1 e9k1 => ?_)
    rw [show hk1 = h2 from e9k1]
    refine i_icmpge dL_say_7 (tgt := 26) (by decide) (by unfold in32; omega) (by unfold in32; omega) (fun c7 => ?_) (fun c7 => ?_)
    · refine r_return rfl dL_say_26 ?_
      have ei : i = T.length := by omega
      subst ei
      rw [List.take_length] at hX2 hw2
      exact ⟨rfl, hX2, hw2, hF⟩
    · refine r_aload_n dL_say_10 0 rfl ?_
      refine r_aload_n dL_say_11 1 rfl ?_
      refine r_aload_n dL_say_12 2 rfl ?_
      refine r_iload_n dL_say_13 3 rfl ?_
      refine p_callV (As := [.int (iI ((i : Int)))]) (b := s) (rest := [.ref w, .ref x]) (w := (some (.int (iI (T.getD i 0))))) (st' := [.int (iI (T.getD i 0)), .ref w, .ref x]) kv_L_say_20 dL_say_14 rfl rfl (Nat.le_of_ble_eq_true rfl) (Nat.le_of_ble_eq_true rfl) (x_rv hT2.1.1 hT2.2.1 rfl) rfl rfl (c_J0_charAt_o hGS hT2 (by omega)) rfl (fun hk2 e9k2 => ?_)
      rw [show hk2 = h2 from e9k2]
      refine p_callS (As := [.ref x, .ref w, .int (iI (T.getD i 0))]) (rest := []) (w := none) (st' := []) kv_L_say_24 dL_say_17 rfl rfl (Nat.le_of_ble_eq_true rfl) (Nat.le_of_ble_eq_true rfl) rfl rfl (c_L_add hGC hGT hGE hX2 (S := (inpU (U ++ T.take i), S.2)) hW.inp2 rfl hw2 (hU.app2 hTb) (by rw [List.length_append, List.length_take]; omega) (hT0.2.2.2.2.2 i (by omega)) hwx) rfl (fun hk3 e9k3 => ?_)
      obtain ⟨hX3, hw3, hF3⟩ := e9k3
      have hT3 := hT2.fr hF3 hs1 hs2
      refine i_iinc (ls' := [(0, .ref x), (1, .ref w), (2, .ref s), (3, .int (iI ((i : Int) + 1)))]) (1) (v := (i : Int) + 1) dL_say_20 3 rfl (by omega) (by decide) rfl ?_
      refine r_goto dL_say_23 (tgt := 2) (by decide) ?_
      refine ih (i + 1) (by omega) (by omega) hk3 ?_ ?_ ?_ hT3
      · rw [take_s (by omega), ← List.append_assoc]; exact hX3
      · rw [take_s (by omega), ← List.append_assoc]; exact hw3
      · exact hF.tr hF3
  show RR G ML_say 0 [(0, .ref x), (1, .ref w), (2, .ref s)] [] h (xm_R ML_say).cells (xm_R ML_say).slots (fun o' h' => o' = .inl none ∧ XB G h' K x ad (inpU (U ++ T), S.2) ∧ WAR G h' w (U ++ T) ∧ FRp (w :: fpX x ad) h h')
  refine i_const (0) dL_say_0 ?_
  refine r_istore_n (ls' := [(0, .ref x), (1, .ref w), (2, .ref s), (3, .int (iI 0))]) dL_say_1 (by decide) rfl ?_
  exact L 0 (Nat.zero_le _) h (by rw [List.take_zero, List.append_nil, ← hS]; exact hX) (by rw [List.take_zero, List.append_nil]; exact hw) FRp.rf hT
/-- spaces that fill the last block -/
def padU (U : List Int) : Nat := (20 - U.length % 20) % 20
def padS (U : List Int) (i : Nat) : List Int := U ++ List.replicate i 32
theorem padS_s (U : List Int) (i : Nat) : padS U (i + 1) = padS U i ++ [32] := by unfold padS; rw [List.replicate_succ', List.append_assoc]
theorem padS_len (U : List Int) (i : Nat) : (padS U i).length = U.length + i := by unfold padS; rw [List.length_append, List.length_replicate]
theorem B7.pad {U : List Int} (hU : B7 U) (i : Nat) : B7 (padS U i) := by
  induction i with
  | zero => unfold padS; rw [List.replicate_zero, List.append_nil]; exact hU
  | succ i ih => rw [padS_s]; exact ih.app (by omega)
theorem inpU_full {U : List Int} (h : U.length % 20 = 0) : inpU U = U := by unfold inpU; rw [show 20 * (U.length / 20) = U.length by omega, List.take_length]
set_option maxRecDepth 20000 in
set_option maxHeartbeats 1000000 in
theorem c_L_end {G : xG} {h : xH} {K : xK} {sa : Nat → Nat} (hGC : GC G K sa) (hGT : GT G sa) (hGE : GE G) {x : Nat} {ad : XA} {S : XS} (hX : XB G h K x ad S) (hW : WX S) {w : Nat} {U : List Int} (hS : S.1 = inpU U) (hw : WAR G h w U) (hU : B7 U) (hUl : U.length ≤ 440) (hwx : w ∉ fpX x ad) : CC G ML_end [.ref x, .ref w] h (fun o' h' => o' = .inl (some (.int (iI (U.length : Int)))) ∧ XB G h' K x ad (U ++ List.replicate (padU U) 32, S.2) ∧ (∃ g : Nat → Int32, w ∈ h'.1 ∧ h'.2 w = .inl (G.2.1 0, 6, .inl g)) ∧ FRp (w :: fpX x ad) h h') := by
  have L : ∀ i, i ≤ padU U → ∀ h2 : xH, XB G h2 K x ad (inpU (padS U i), S.2) → WAR G h2 w (padS U i) → FRp (w :: fpX x ad) h h2 → RR G ML_end 4 [(0, .ref x), (1, .ref w), (2, .int (iI ((U.length : Int))))] [] h2 (xm_R ML_end).cells (xm_R ML_end).slots (fun o' h' => o' = .inl (some (.int (iI (U.length : Int)))) ∧ XB G h' K x ad (U ++ List.replicate (padU U) 32, S.2) ∧ (∃ g : Nat → Int32, w ∈ h'.1 ∧ h'.2 w = .inl (G.2.1 0, 6, .inl g)) ∧ FRp (w :: fpX x ad) h h') := by
    refine down (fun i hi ih => ?_)
    intro h2 hX2 hw2 hF
    have hpl := padS_len U i
    have hpu : padU U = (20 - U.length % 20) % 20 := rfl
    obtain ⟨g, mw, fw, hg5, hgj⟩ := hw2
    refine r_aload_n dL_end_4 1 rfl ?_
    refine i_const (5) dL_end_5 ?_
    refine i_iald 5 rfl dL_end_6 mw fw (by omega) (by decide) hg5 ?_
    refine i_bipush (20) (by decide) dL_end_7 ?_
    refine i_rem dL_end_9 (by unfold in32; omega) ⟨by decide, by decide⟩ (by omega) (by omega) ?_
    refine i_ifeq dL_end_10 (tgt := 23) (by decide) (by unfold in32; omega) (fun c10 => ?_) (fun c10 => ?_)
    · refine r_aload_n dL_end_23 1 rfl ?_
      refine i_const (5) dL_end_24 ?_
      refine i_const (0) dL_end_25 ?_
      refine i_iast 5 rfl dL_end_26 mw fw (by omega) (by decide) (fun h1 e0_1 e1_1 e2_1 => ?_)
      have mw_1 : w ∈ h1.1 := by rw [e0_1]; exact mw
      refine r_iload_n dL_end_27 2 rfl ?_
      refine r_ireturn rfl rfl dL_end_28 ?_
      have ei : i = padU U := by unfold padU; omega
      subst ei
      refine ⟨rfl, ?_, ⟨_, mw_1, e1_1⟩, hF.tr (FRp.w (by simp) e0_1 e2_1)⟩
      have hX4 := hX2.fr (FRp.w (fp := [w]) (List.mem_singleton.mpr rfl) e0_1 e2_1) (fun q hq z => hwx (by rw [← List.mem_singleton.mp z]; exact hq))
      rw [inpU_full (by omega)] at hX4
      exact hX4
    · refine r_aload_n dL_end_13 0 rfl ?_
      refine r_aload_n dL_end_14 1 rfl ?_
      refine i_bipush (32) (by decide) dL_end_15 ?_
      refine p_callS (As := [.ref x, .ref w, .int (iI 32)]) (rest := []) (w := none) (st' := []) kv_L_end_24 dL_end_17 rfl rfl (Nat.le_of_ble_eq_true rfl) (Nat.le_of_ble_eq_true rfl) rfl rfl (c_L_add hGC hGT hGE hX2 (S := (inpU (padS U i), S.2)) hW.inp2 rfl ⟨g, mw, fw, hg5, hgj⟩ (hU.pad i) (by omega) (by omega) hwx) rfl (fun hk2 e9k2 => ?_)
      obtain ⟨hX3, hw3, hF3⟩ := e9k2
      refine r_goto dL_end_20 (tgt := 4) (by decide) ?_
      refine ih (i + 1) (by omega) (by omega) hk2 ?_ ?_ ?_
      · rw [padS_s]; exact hX3
      · rw [padS_s]; exact hw3
      · exact hF.tr hF3
  obtain ⟨g, mw, fw, hg5, hgj⟩ := hw
  show RR G ML_end 0 [(0, .ref x), (1, .ref w)] [] h (xm_R ML_end).cells (xm_R ML_end).slots (fun o' h' => o' = .inl (some (.int (iI (U.length : Int)))) ∧ XB G h' K x ad (U ++ List.replicate (padU U) 32, S.2) ∧ (∃ g : Nat → Int32, w ∈ h'.1 ∧ h'.2 w = .inl (G.2.1 0, 6, .inl g)) ∧ FRp (w :: fpX x ad) h h')
  refine r_aload_n dL_end_0 1 rfl ?_
  refine i_const (5) dL_end_1 ?_
  refine i_iald 5 rfl dL_end_2 mw fw (by omega) (by decide) hg5 ?_
  refine r_istore_n (ls' := [(0, .ref x), (1, .ref w), (2, .int (iI ((U.length : Int))))]) dL_end_3 (by decide) rfl ?_
  exact L 0 (Nat.zero_le _) h (by unfold padS; rw [List.replicate_zero, List.append_nil, ← hS]; exact hX) (by unfold padS; rw [List.replicate_zero, List.append_nil]; exact ⟨g, mw, fw, hg5, hgj⟩) FRp.rf
