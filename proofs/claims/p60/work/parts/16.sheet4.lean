/-! ===== the sheet's changes ===== -/
theorem rr_take {G : xG} {M : xM} {pc : Nat} {ls ls1 : List (Nat × Value)} {st : List Value} {h : xH} {kc ks : Nat} {Q : xR → xH → Prop} (n : Nat) (e : ls.take n = ls1) (k : RR G M pc ls1 st h kc ks Q) : RR G M pc ls st h kc ks Q := by
  intro p l e' R s m args below meth c E H locs cells slots lsA S
  exact k p l e' R s m args below meth c E H locs cells slots lsA ⟨⟨S.1.1, S.1.2.1, fun q hq => S.1.2.2 q (List.mem_of_mem_take (by rw [e]; exact hq))⟩, S.2⟩
def SHR (G : xG) (h : xH) (a t b : Nat) (s : AS) (gt gb : Nat → Int32) : Prop := (a ∈ h.1 ∧ t ∈ h.1 ∧ b ∈ h.1) ∧ (t ≠ a ∧ b ≠ a ∧ t ≠ b) ∧ h.2 a = .inr (5, sf t b s) ∧ h.2 t = .inl (G.2.1 0, 200, .inl gt) ∧ h.2 b = .inl (G.2.1 1, 200, .inl gb) ∧ s.1.length ≤ 200 ∧ sr gt gb s.1
theorem SHR.sh {G : xG} {h : xH} {a t b : Nat} {s : AS} {gt gb : Nat → Int32} (x : SHR G h a t b s gt gb) : SH G h a t b s := ⟨gt, gb, x⟩
def DJ (a t b a' t' b' : Nat) : Prop := (a ≠ a' ∧ a ≠ t' ∧ a ≠ b') ∧ (t ≠ a' ∧ t ≠ t' ∧ t ≠ b') ∧ (b ≠ a' ∧ b ≠ t' ∧ b ≠ b')
theorem SH.fr2 {G : xG} {h h' : xH} {a t b a2 t2 b2 : Nat} {s : AS} (hS : SH G h a t b s) (hF : FR a2 t2 b2 h h') (n : DJ a2 t2 b2 a t b) : SH G h' a t b s := hS.fr hF ⟨n.1.1.symm, n.2.1.1.symm, n.2.2.1.symm⟩ ⟨n.1.2.1.symm, n.2.1.2.1.symm, n.2.2.2.1.symm⟩ ⟨n.1.2.2.symm, n.2.1.2.2.symm, n.2.2.2.2.symm⟩
def jW (s s' : AS) : Bool := !s.2.2.2.2.1 && (decide (0 < s'.1.length) && joinsL s.1 (s'.1.getD 0 0))
theorem putN_room2 {l : List Int} {x : Int} {ap : Bool} (h : (putN l x (!ap)).1.length ≤ 200) : l.length < 200 ∨ (ap = false ∧ joinsL l x = true) := by
  by_cases e : l.length < 200
  · exact Or.inl e
  · refine Or.inr ?_
    unfold putN at h
    split at h
    · rename_i z
      rw [Bool.and_eq_true] at z
      exact ⟨by cases ap; rfl; exact absurd z.1 (by decide), z.2⟩
    · simp at h; omega
theorem putA_tk (acc xs : List Int) (m : Bool) (i : Nat) : (putA acc (xs.take i) m).1.length ≤ (putA acc xs m).1.length := by
  cases xs with
  | nil => simp
  | cons x r =>
    cases i with
    | zero => exact putA_len_ge _ _ _
    | succ i =>
      rw [List.take_succ_cons, putA_cons, putA_cons]
      split <;> simp <;> omega
theorem foldP_mono (l : List Int) (m : Bool) {p q : Nat} (h : p ≤ q) : (foldP l m p).1.length ≤ (foldP l m q).1.length := by
  induction h with
  | refl => exact Nat.le_refl _
  | step _ ih => exact Nat.le_trans ih (putA_len_ge _ _ _)
def foldS (s : AS) (n : Nat) : AS := ((foldP s.1 (!s.2.2.2.2.1) n).1, s.2.1 * (n : Int) - (foldP s.1 (!s.2.2.2.2.1) n).2, warmed s.2.2.1, s.2.2.2.1 + iI 1, false, s.2.2.2.2.2.1, s.2.2.2.2.2.2)
def rollS (s : AS) (f m : Int) : AS := ((rollR f (loss s m) s.1 s.1.length).1, s.2.1 - ((rollR f (loss s m) s.1 s.1.length).2.1 + (rollR f (loss s m) s.1 s.1.length).2.2.1), warmed s.2.2.1, s.2.2.2.1, s.2.2.2.2.1, false, s.2.2.2.2.2.2)
def carryS (s s' : AS) : AS := ((putA s.1 s'.1 (!s.2.2.2.2.1)).1, s.2.1 + (s'.2.1 - (putA s.1 s'.1 (!s.2.2.2.2.1)).2), max s.2.2.1 s'.2.2.1, (if s.2.2.2.1 < s'.2.2.2.1 then s'.2.2.2.1 else s.2.2.2.1), s'.2.2.2.2.1, false, s.2.2.2.2.2.2)
def butS (s : AS) (T : Int) : AS := ((putN s.1 (-T) (!s.2.2.2.2.1)).1, s.2.1 + (if (putN s.1 (-T) (!s.2.2.2.2.1)).2 then 0 else 1), s.2.2.1, s.2.2.2.1, s.2.2.2.2.1, false, s.2.2.2.2.2.2)
set_option maxRecDepth 20000 in
set_option maxHeartbeats 1000000 in
theorem c_X8_putLayerR {G : xG} {h : xH} {a t b : Nat} {s : AS} {gt gb : Nat → Int32} (hS : SHR G h a t b s gt gb) {x : Int} {ap : Bool} (hroom : s.1.length < 200 ∨ (ap = false ∧ joinsL s.1 x = true)) : CC G MX8_putLayer [.ref a, .int (iI (b2 (isB x))), .int (iI (sz x)), .int (iI (b2 ap))] h (fun o h' => o = .inl (some (.int (iI (b2 (putN s.1 x (!ap)).2)))) ∧ ∃ gt' gb', SHR G h' a t b ((putN s.1 x (!ap)).1, s.2.1, s.2.2.1, s.2.2.2.1, s.2.2.2.2.1, s.2.2.2.2.2.1, s.2.2.2.2.2.2) gt' gb' ∧ (∀ k, (putN s.1 x (!ap)).1.length ≤ k → gt' k = gt k ∧ gb' k = gb k) ∧ FR a t b h h') := by
  obtain ⟨l, ex, wa, fo, du, se, co⟩ := s
  have hS0 : SH G h a t b (l, ex, wa, fo, du, se, co) := ⟨gt, gb, hS⟩
  obtain ⟨⟨ma, mt, mb⟩, ⟨nta, nba, ntb⟩, fa, ft, fb, hl, hr⟩ := hS
  have hl : l.length ≤ 200 := hl
  have hr : sr gt gb l := hr
  have fa : h.2 a = .inr (5, [.ref t, .ref b, .int (iI (l.length : Int)), .int (iI ex), .int fo, .int (iI wa), .int (iI (b2 du)), .int (iI (b2 se)), .int (iI (b2 co))]) := fa
  show RR G MX8_putLayer 0 [(0, .ref a), (1, .int (iI (b2 (isB x)))), (2, .int (iI (sz x))), (3, .int (iI (b2 ap)))] [] h (xm_R MX8_putLayer).cells (xm_R MX8_putLayer).slots (fun o h' => o = .inl (some (.int (iI (b2 (putN l x (!ap)).2)))) ∧ ∃ gt' gb', SHR G h' a t b ((putN l x (!ap)).1, ex, wa, fo, du, se, co) gt' gb' ∧ (∀ k, (putN l x (!ap)).1.length ≤ k → gt' k = gt k ∧ gb' k = gb k) ∧ FR a t b h h')
  refine r_iload_n dX8_putLayer_0 3 rfl ?_
  refine i_ifneb dX8_putLayer_1 (tgt := 29) (by decide) (fun c1 => ?_) (fun c1 => ?_)
  · refine r_aload_n dX8_putLayer_29 0 rfl ?_
    refine r_get cl_X8 2 (by decide) kf_X8_19 dX8_putLayer_30 ma fa rfl ?_
    refine i_sipush (200) (by decide) dX8_putLayer_33 ?_
    refine i_icmpge dX8_putLayer_36 (tgt := 69) (by decide) (by unfold in32; omega) ⟨by decide, by decide⟩ (fun c36 => ?_) (fun c36 => ?_)
    · refine i_const (0) dX8_putLayer_69 ?_
      refine r_ireturn rfl (b2_nar false) dX8_putLayer_70 ?_
      exfalso
      rcases hroom with r | ⟨r1, r2⟩
      · have r : l.length < 200 := r
        omega
      · simp_all
    · refine r_aload_n dX8_putLayer_39 0 rfl ?_
      refine r_get cl_X8 0 (by decide) kf_X8_9 dX8_putLayer_40 ma fa rfl ?_
      refine r_aload_n dX8_putLayer_43 0 rfl ?_
      refine r_get cl_X8 2 (by decide) kf_X8_19 dX8_putLayer_44 ma fa rfl ?_
      refine r_iload_n dX8_putLayer_47 2 rfl ?_
      refine i_iast l.length rfl dX8_putLayer_48 mt ft (by omega) (by decide) (fun h1 e0_1 e1_1 e2_1 => ?_)
      have ma_1 : a ∈ h1.1 := by rw [e0_1]; exact ma
      have fa_1 := (e2_1 _ (Ne.symm nta)).trans fa
      have mt_1 : t ∈ h1.1 := by rw [e0_1]; exact mt
      have mb_1 : b ∈ h1.1 := by rw [e0_1]; exact mb
      have fb_1 := (e2_1 _ (Ne.symm ntb)).trans fb
      refine r_aload_n dX8_putLayer_49 0 rfl ?_
      refine r_get cl_X8 1 (by decide) kf_X8_15 dX8_putLayer_50 ma_1 fa_1 rfl ?_
      refine r_aload_n dX8_putLayer_53 0 rfl ?_
      refine r_get cl_X8 2 (by decide) kf_X8_19 dX8_putLayer_54 ma_1 fa_1 rfl ?_
      refine r_iload_n dX8_putLayer_57 1 rfl ?_
      refine i_zast l.length rfl dX8_putLayer_58 mb_1 fb_1 (by omega) (by decide) (b2_vp _) (fun h2 e0_2 e1_2 e2_2 => ?_)
      have ma_2 : a ∈ h2.1 := by rw [e0_2]; exact ma_1
      have fa_2 := (e2_2 _ (Ne.symm nba)).trans fa_1
      have mt_2 : t ∈ h2.1 := by rw [e0_2]; exact mt_1
      have ft_2 := (e2_2 _ ntb).trans e1_1
      have mb_2 : b ∈ h2.1 := by rw [e0_2]; exact mb_1
      refine r_aload_n dX8_putLayer_59 0 rfl ?_
      refine r_dup dX8_putLayer_60 rfl ?_
      refine r_get cl_X8 2 (by decide) kf_X8_19 dX8_putLayer_61 ma_2 fa_2 rfl ?_
      refine i_const (1) dX8_putLayer_64 ?_
      refine i_add dX8_putLayer_65 ?_
      refine i_put [.ref t, .ref b, .int (iI ((l.length : Int) + 1)), .int (iI ex), .int fo, .int (iI wa), .int (iI (b2 du)), .int (iI (b2 se)), .int (iI (b2 co))] cl_X8 2 (by decide) kf_X8_19 rfl dX8_putLayer_66 ma_2 fa_2 rfl rfl (by simp) rfl (fun h3 e0_3 e1_3 e2_3 => ?_)
      have ma_3 : a ∈ h3.1 := by rw [e0_3]; exact ma_2
      have mt_3 : t ∈ h3.1 := by rw [e0_3]; exact mt_2
      have ft_3 := (e2_3 _ nta).trans ft_2
      have mb_3 : b ∈ h3.1 := by rw [e0_3]; exact mb_2
      have fb_3 := (e2_3 _ nba).trans e1_2
      refine i_const (0) dX8_putLayer_69 ?_
      refine r_ireturn rfl (b2_nar false) dX8_putLayer_70 ?_
      have e : putN l x (!ap) = (l ++ [x], false) := by simp [putN, *]
      rw [e]
      have fz : h3.2 a = .inr (5, sf t b (l ++ [x], ex, wa, fo, du, se, co)) := by rw [e1_3]; simp only [sf, List.length_append, List.length_singleton, Int.natCast_add]; rfl
      refine ⟨rfl, ⟨_, _, ⟨⟨ma_3, mt_3, mb_3⟩, ⟨nta, nba, ntb⟩, fz, ft_3, fb_3, by rw [List.length_append, List.length_singleton]; omega, sr_push hr⟩, ?_, (FR.tr (FR.tr (FR.wt e0_1 e2_1) (FR.wb e0_2 e2_2)) (FR.wa e0_3 e2_3))⟩⟩
      intro k hk
      have hk : (l ++ [x]).length ≤ k := hk
      rw [List.length_append, List.length_singleton] at hk
      exact ⟨by simp [upd]; intro z; omega, by simp [upd]; intro z; omega⟩
  · refine r_aload_n dX8_putLayer_4 0 rfl ?_
    refine r_iload_n dX8_putLayer_5 1 rfl ?_
    refine p_callV (As := [.int (iI (b2 (isB x)))]) (b := a) (rest := []) (w := (some (.int (iI (b2 (joinsL l x)))))) (st' := [.int (iI (b2 (joinsL l x)))]) kv_X8_putLayer_46 dX8_putLayer_6 rfl rfl (Nat.le_of_ble_eq_true rfl) (Nat.le_of_ble_eq_true rfl) (x_rv ma fa rfl) rfl rfl (c_X8_wouldJoin (x := x) hS0) rfl (fun h9 e9 => ?_)
    subst e9
    refine i_ifeqb dX8_putLayer_9 (tgt := 29) (by decide) (fun c9 => ?_) (fun c9 => ?_)
    · refine r_aload_n dX8_putLayer_29 0 rfl ?_
      refine r_get cl_X8 2 (by decide) kf_X8_19 dX8_putLayer_30 ma fa rfl ?_
      refine i_sipush (200) (by decide) dX8_putLayer_33 ?_
      refine i_icmpge dX8_putLayer_36 (tgt := 69) (by decide) (by unfold in32; omega) ⟨by decide, by decide⟩ (fun c36 => ?_) (fun c36 => ?_)
      · refine i_const (0) dX8_putLayer_69 ?_
        refine r_ireturn rfl (b2_nar false) dX8_putLayer_70 ?_
        exfalso
        rcases hroom with r | ⟨r1, r2⟩
        · have r : l.length < 200 := r
          omega
        · simp_all
      · refine r_aload_n dX8_putLayer_39 0 rfl ?_
        refine r_get cl_X8 0 (by decide) kf_X8_9 dX8_putLayer_40 ma fa rfl ?_
        refine r_aload_n dX8_putLayer_43 0 rfl ?_
        refine r_get cl_X8 2 (by decide) kf_X8_19 dX8_putLayer_44 ma fa rfl ?_
        refine r_iload_n dX8_putLayer_47 2 rfl ?_
        refine i_iast l.length rfl dX8_putLayer_48 mt ft (by omega) (by decide) (fun h4 e0_4 e1_4 e2_4 => ?_)
        have ma_4 : a ∈ h4.1 := by rw [e0_4]; exact ma
        have fa_4 := (e2_4 _ (Ne.symm nta)).trans fa
        have mt_4 : t ∈ h4.1 := by rw [e0_4]; exact mt
        have mb_4 : b ∈ h4.1 := by rw [e0_4]; exact mb
        have fb_4 := (e2_4 _ (Ne.symm ntb)).trans fb
        refine r_aload_n dX8_putLayer_49 0 rfl ?_
        refine r_get cl_X8 1 (by decide) kf_X8_15 dX8_putLayer_50 ma_4 fa_4 rfl ?_
        refine r_aload_n dX8_putLayer_53 0 rfl ?_
        refine r_get cl_X8 2 (by decide) kf_X8_19 dX8_putLayer_54 ma_4 fa_4 rfl ?_
        refine r_iload_n dX8_putLayer_57 1 rfl ?_
        refine i_zast l.length rfl dX8_putLayer_58 mb_4 fb_4 (by omega) (by decide) (b2_vp _) (fun h5 e0_5 e1_5 e2_5 => ?_)
        have ma_5 : a ∈ h5.1 := by rw [e0_5]; exact ma_4
        have fa_5 := (e2_5 _ (Ne.symm nba)).trans fa_4
        have mt_5 : t ∈ h5.1 := by rw [e0_5]; exact mt_4
        have ft_5 := (e2_5 _ ntb).trans e1_4
        have mb_5 : b ∈ h5.1 := by rw [e0_5]; exact mb_4
        refine r_aload_n dX8_putLayer_59 0 rfl ?_
        refine r_dup dX8_putLayer_60 rfl ?_
        refine r_get cl_X8 2 (by decide) kf_X8_19 dX8_putLayer_61 ma_5 fa_5 rfl ?_
        refine i_const (1) dX8_putLayer_64 ?_
        refine i_add dX8_putLayer_65 ?_
        refine i_put [.ref t, .ref b, .int (iI ((l.length : Int) + 1)), .int (iI ex), .int fo, .int (iI wa), .int (iI (b2 du)), .int (iI (b2 se)), .int (iI (b2 co))] cl_X8 2 (by decide) kf_X8_19 rfl dX8_putLayer_66 ma_5 fa_5 rfl rfl (by simp) rfl (fun h6 e0_6 e1_6 e2_6 => ?_)
        have ma_6 : a ∈ h6.1 := by rw [e0_6]; exact ma_5
        have mt_6 : t ∈ h6.1 := by rw [e0_6]; exact mt_5
        have ft_6 := (e2_6 _ nta).trans ft_5
        have mb_6 : b ∈ h6.1 := by rw [e0_6]; exact mb_5
        have fb_6 := (e2_6 _ nba).trans e1_5
        refine i_const (0) dX8_putLayer_69 ?_
        refine r_ireturn rfl (b2_nar false) dX8_putLayer_70 ?_
        have e : putN l x (!ap) = (l ++ [x], false) := by simp [putN, *]
        rw [e]
        have fz : h6.2 a = .inr (5, sf t b (l ++ [x], ex, wa, fo, du, se, co)) := by rw [e1_6]; simp only [sf, List.length_append, List.length_singleton, Int.natCast_add]; rfl
        refine ⟨rfl, ⟨_, _, ⟨⟨ma_6, mt_6, mb_6⟩, ⟨nta, nba, ntb⟩, fz, ft_6, fb_6, by rw [List.length_append, List.length_singleton]; omega, sr_push hr⟩, ?_, (FR.tr (FR.tr (FR.wt e0_4 e2_4) (FR.wb e0_5 e2_5)) (FR.wa e0_6 e2_6))⟩⟩
        intro k hk
        have hk : (l ++ [x]).length ≤ k := hk
        rw [List.length_append, List.length_singleton] at hk
        exact ⟨by simp [upd]; intro z; omega, by simp [upd]; intro z; omega⟩
    · obtain ⟨j1, j2⟩ := joins_t c9
      refine r_aload_n dX8_putLayer_12 0 rfl ?_
      refine r_get cl_X8 0 (by decide) kf_X8_9 dX8_putLayer_13 ma fa rfl ?_
      refine r_aload_n dX8_putLayer_16 0 rfl ?_
      refine r_get cl_X8 2 (by decide) kf_X8_19 dX8_putLayer_17 ma fa rfl ?_
      refine i_const (1) dX8_putLayer_20 ?_
      refine i_sub dX8_putLayer_21 ?_
      refine r_dup2 dX8_putLayer_22 rfl rfl ?_
      refine i_iald (l.length - 1) (by omega) dX8_putLayer_23 mt ft (by omega) (by decide) (hr (l.length - 1) (by omega)).1 ?_
      refine r_iload_n dX8_putLayer_24 2 rfl ?_
      refine i_add dX8_putLayer_25 ?_
      refine i_iast (l.length - 1) (by omega) dX8_putLayer_26 mt ft (by omega) (by decide) (fun h7 e0_7 e1_7 e2_7 => ?_)
      have ma_7 : a ∈ h7.1 := by rw [e0_7]; exact ma
      have fa_7 := (e2_7 _ (Ne.symm nta)).trans fa
      have mt_7 : t ∈ h7.1 := by rw [e0_7]; exact mt
      have mb_7 : b ∈ h7.1 := by rw [e0_7]; exact mb
      have fb_7 := (e2_7 _ (Ne.symm ntb)).trans fb
      refine i_const (1) dX8_putLayer_27 ?_
      refine r_ireturn rfl (b2_nar true) dX8_putLayer_28 ?_
      have e : putN l x (!ap) = (l.set (l.length - 1) (lastL l + x), true) := by simp [putN, c1, c9]
      rw [e]
      have e2 : sz (lastL l + x) = sz (l.getD (l.length - 1) 0) + sz x := sz_add j2
      rw [← e2] at e1_7
      have fz : h7.2 a = .inr (5, sf t b (l.set (l.length - 1) (lastL l + x), ex, wa, fo, du, se, co)) := by simp only [sf, List.length_set]; exact fa_7
      refine ⟨rfl, ⟨_, gb, ⟨⟨ma_7, mt_7, mb_7⟩, ⟨nta, nba, ntb⟩, fz, e1_7, fb_7, by rw [List.length_set]; exact hl, sr_top hr j1 (isB_add j2)⟩, ?_, (FR.wt e0_7 e2_7)⟩⟩
      intro k hk
      have hk : (l.set (l.length - 1) (lastL l + x)).length ≤ k := hk
      rw [List.length_set] at hk
      exact ⟨by simp [upd]; intro z; omega, rfl⟩
set_option maxRecDepth 20000 in
set_option maxHeartbeats 1000000 in
theorem c_X8_load {G : xG} {h : xH} {a t b : Nat} {s : AS} (hS : SH G h a t b s) {x : Int} (hroom : s.1.length < 200) : CC G MX8_load [.ref a, .int (iI (b2 (isB x))), .int (iI (sz x))] h (fun o h' => o = .inl none ∧ SH G h' a t b (s.1 ++ [x], s.2.1 + 1, s.2.2.1, s.2.2.2.1, s.2.2.2.2.1, s.2.2.2.2.2.1, s.2.2.2.2.2.2) ∧ FR a t b h h') := by
  obtain ⟨l, ex, wa, fo, du, se, co⟩ := s
  have hS0 := hS
  obtain ⟨gt, gb, ⟨ma, mt, mb⟩, ⟨nta, nba, ntb⟩, fa, ft, fb, hl, hr⟩ := hS
  have hl : l.length ≤ 200 := hl
  have hr : sr gt gb l := hr
  have fa : h.2 a = .inr (5, [.ref t, .ref b, .int (iI (l.length : Int)), .int (iI ex), .int fo, .int (iI wa), .int (iI (b2 du)), .int (iI (b2 se)), .int (iI (b2 co))]) := fa
  have cP := c_X8_putLayer (x := x) (ap := true) hS0 (Or.inl hroom)
  rw [show putN l x (!true) = (l ++ [x], false) from putN_app l x] at cP
  show RR G MX8_load 0 [(0, .ref a), (1, .int (iI (b2 (isB x)))), (2, .int (iI (sz x)))] [] h (xm_R MX8_load).cells (xm_R MX8_load).slots (fun o h' => o = .inl none ∧ SH G h' a t b (l ++ [x], ex + 1, wa, fo, du, se, co) ∧ FR a t b h h')
  refine r_aload_n dX8_load_0 0 rfl ?_
  refine r_iload_n dX8_load_1 1 rfl ?_
  refine r_iload_n dX8_load_2 2 rfl ?_
  refine i_const (1) dX8_load_3 ?_
  refine p_callV (As := [.int (iI (b2 (isB x))), .int (iI (sz x)), .int (iI 1)]) (b := a) (rest := []) (w := (some (.int (iI (b2 false))))) (st' := [.int (iI (b2 false))]) kv_X8_load_42 dX8_load_4 rfl rfl (Nat.le_of_ble_eq_true rfl) (Nat.le_of_ble_eq_true rfl) (x_rv ma fa rfl) rfl rfl (cP) rfl (fun h9 e9 => ?_)
  obtain ⟨hS9, hF9⟩ := e9
  obtain ⟨gt9, gb9, ⟨ma9, mt9, mb9⟩, -, fa9, ft9, fb9, hl9, hr9⟩ := hS9
  have fa9 : h9.2 a = .inr (5, [.ref t, .ref b, .int (iI ((l ++ [x]).length : Int)), .int (iI ex), .int fo, .int (iI wa), .int (iI (b2 du)), .int (iI (b2 se)), .int (iI (b2 co))]) := fa9
  have hl9 : (l ++ [x]).length ≤ 200 := hl9
  have hr9 : sr gt9 gb9 (l ++ [x]) := hr9
  refine r_pop dX8_load_7 rfl ?_
  refine r_aload_n dX8_load_8 0 rfl ?_
  refine r_dup dX8_load_9 rfl ?_
  refine r_get cl_X8 3 (by decide) kf_X8_23 dX8_load_10 ma9 fa9 rfl ?_
  refine i_const (1) dX8_load_13 ?_
  refine i_add dX8_load_14 ?_
  refine i_put [.ref t, .ref b, .int (iI (((l ++ [x]).length : Int))), .int (iI (ex + 1)), .int fo, .int (iI wa), .int (iI (b2 du)), .int (iI (b2 se)), .int (iI (b2 co))] cl_X8 3 (by decide) kf_X8_23 rfl dX8_load_15 ma9 fa9 rfl rfl (by simp) rfl (fun h1 e0_1 e1_1 e2_1 => ?_)
  have ma_1 : a ∈ h1.1 := by rw [e0_1]; exact ma9
  have mt_1 : t ∈ h1.1 := by rw [e0_1]; exact mt9
  have ft_1 := (e2_1 _ nta).trans ft9
  have mb_1 : b ∈ h1.1 := by rw [e0_1]; exact mb9
  have fb_1 := (e2_1 _ nba).trans fb9
  refine r_return rfl dX8_load_18 ?_
  exact ⟨rfl, ⟨gt9, gb9, ⟨ma_1, mt_1, mb_1⟩, ⟨nta, nba, ntb⟩, e1_1, ft_1, fb_1, hl9, hr9⟩, (FR.tr hF9 (FR.wa e0_1 e2_1))⟩
set_option maxRecDepth 20000 in
set_option maxHeartbeats 1000000 in
theorem c_X8_joinsWith {G : xG} {h : xH} {a t b : Nat} {s : AS} (hS : SH G h a t b s) {a' t' b' : Nat} {s' : AS} (hS' : SH G h a' t' b' s') : CC G MX8_joinsWith [.ref a, .ref a'] h (qI (b2 (jW s s')) h) := by
  obtain ⟨l, ex, wa, fo, du, se, co⟩ := s
  have hS0 := hS
  obtain ⟨gt, gb, ⟨ma, mt, mb⟩, ⟨nta, nba, ntb⟩, fa, ft, fb, hl, hr⟩ := hS
  have hl : l.length ≤ 200 := hl
  have hr : sr gt gb l := hr
  have fa : h.2 a = .inr (5, [.ref t, .ref b, .int (iI (l.length : Int)), .int (iI ex), .int fo, .int (iI wa), .int (iI (b2 du)), .int (iI (b2 se)), .int (iI (b2 co))]) := fa
  obtain ⟨l', ex', wa', fo', du', se', co'⟩ := s'
  have hS0' := hS'
  obtain ⟨gt', gb', ⟨ma', mt', mb'⟩, ⟨nta', nba', ntb'⟩, fa', ft', fb', hl', hr'⟩ := hS'
  have hl' : l'.length ≤ 200 := hl'
  have hr' : sr gt' gb' l' := hr'
  have fa' : h.2 a' = .inr (5, [.ref t', .ref b', .int (iI (l'.length : Int)), .int (iI ex'), .int fo', .int (iI wa'), .int (iI (b2 du')), .int (iI (b2 se')), .int (iI (b2 co'))]) := fa'
  show RR G MX8_joinsWith 0 [(0, .ref a), (1, .ref a')] [] h (xm_R MX8_joinsWith).cells (xm_R MX8_joinsWith).slots (qI (b2 (jW (l, ex, wa, fo, du, se, co) (l', ex', wa', fo', du', se', co'))) h)
  refine r_aload_n dX8_joinsWith_0 0 rfl ?_
  refine r_get cl_X8 6 (by decide) kf_X8_32 dX8_joinsWith_1 ma fa rfl ?_
  refine i_ifneb dX8_joinsWith_4 (tgt := 31) (by decide) (fun c4 => ?_) (fun c4 => ?_)
  · refine i_const (0) dX8_joinsWith_31 ?_
    refine r_ireturn rfl (b2_nar false) dX8_joinsWith_32 ?_
    have e : jW (l, ex, wa, fo, du, se, co) (l', ex', wa', fo', du', se', co') = false := by simp only [jW]; rw [c4]; rfl
    rw [e]
    exact ⟨rfl, rfl⟩
  · refine r_aload_n dX8_joinsWith_7 1 rfl ?_
    refine r_get cl_X8 2 (by decide) kf_X8_19 dX8_joinsWith_8 ma' fa' rfl ?_
    refine i_ifle dX8_joinsWith_11 (tgt := 31) (by decide) (by unfold in32; omega) (fun c11 => ?_) (fun c11 => ?_)
    · refine i_const (0) dX8_joinsWith_31 ?_
      refine r_ireturn rfl (b2_nar false) dX8_joinsWith_32 ?_
      have e : jW (l, ex, wa, fo, du, se, co) (l', ex', wa', fo', du', se', co') = false := by simp only [jW]; rw [decide_eq_false (show ¬ 0 < l'.length by omega)]; simp
      rw [e]
      exact ⟨rfl, rfl⟩
    · refine r_aload_n dX8_joinsWith_14 0 rfl ?_
      refine r_aload_n dX8_joinsWith_15 1 rfl ?_
      refine r_get cl_X8 1 (by decide) kf_X8_15 dX8_joinsWith_16 ma' fa' rfl ?_
      refine i_const (0) dX8_joinsWith_19 ?_
      refine i_zald 0 rfl dX8_joinsWith_20 mb' fb' (by omega) (by decide) (hr' 0 (by omega)).2 ?_
      refine p_callV (As := [.int (iI (b2 (isB (l'.getD 0 0))))]) (b := a) (rest := []) (w := (some (.int (iI (b2 (joinsL l (l'.getD 0 0))))))) (st' := [.int (iI (b2 (joinsL l (l'.getD 0 0))))]) kv_X8_joinsWith_46 dX8_joinsWith_21 rfl rfl (Nat.le_of_ble_eq_true rfl) (Nat.le_of_ble_eq_true rfl) (x_rv ma fa rfl) rfl rfl (c_X8_wouldJoin (x := l'.getD 0 0) hS0) rfl (fun h9 e9 => ?_)
      subst e9
      refine i_ifeqb dX8_joinsWith_24 (tgt := 31) (by decide) (fun c24 => ?_) (fun c24 => ?_)
      · refine i_const (0) dX8_joinsWith_31 ?_
        refine r_ireturn rfl (b2_nar false) dX8_joinsWith_32 ?_
        have e : jW (l, ex, wa, fo, du, se, co) (l', ex', wa', fo', du', se', co') = false := by simp only [jW]; rw [c24]; simp
        rw [e]
        exact ⟨rfl, rfl⟩
      · refine i_const (1) dX8_joinsWith_27 ?_
        refine r_goto dX8_joinsWith_28 (tgt := 32) (by decide) ?_
        refine r_ireturn rfl (b2_nar true) dX8_joinsWith_32 ?_
        have e : jW (l, ex, wa, fo, du, se, co) (l', ex', wa', fo', du', se', co') = true := by simp only [jW]; rw [c4, decide_eq_true (show 0 < l'.length by omega), c24]; rfl
        rw [e]
        exact ⟨rfl, rfl⟩
set_option maxRecDepth 20000 in
set_option maxHeartbeats 1000000 in
theorem c_X8_layersWith {G : xG} {h : xH} {a t b : Nat} {s : AS} (hS : SH G h a t b s) {a' t' b' : Nat} {s' : AS} (hS' : SH G h a' t' b' s') : CC G MX8_layersWith [.ref a, .ref a'] h (qI ((s.1.length : Int) + (s'.1.length : Int) - (if jW s s' then 1 else 0)) h) := by
  obtain ⟨l, ex, wa, fo, du, se, co⟩ := s
  have hS0 := hS
  obtain ⟨gt, gb, ⟨ma, mt, mb⟩, ⟨nta, nba, ntb⟩, fa, ft, fb, hl, hr⟩ := hS
  have hl : l.length ≤ 200 := hl
  have hr : sr gt gb l := hr
  have fa : h.2 a = .inr (5, [.ref t, .ref b, .int (iI (l.length : Int)), .int (iI ex), .int fo, .int (iI wa), .int (iI (b2 du)), .int (iI (b2 se)), .int (iI (b2 co))]) := fa
  obtain ⟨l', ex', wa', fo', du', se', co'⟩ := s'
  have hS0' := hS'
  obtain ⟨gt', gb', ⟨ma', mt', mb'⟩, ⟨nta', nba', ntb'⟩, fa', ft', fb', hl', hr'⟩ := hS'
  have hl' : l'.length ≤ 200 := hl'
  have hr' : sr gt' gb' l' := hr'
  have fa' : h.2 a' = .inr (5, [.ref t', .ref b', .int (iI (l'.length : Int)), .int (iI ex'), .int fo', .int (iI wa'), .int (iI (b2 du')), .int (iI (b2 se')), .int (iI (b2 co'))]) := fa'
  show RR G MX8_layersWith 0 [(0, .ref a), (1, .ref a')] [] h (xm_R MX8_layersWith).cells (xm_R MX8_layersWith).slots (qI ((l.length : Int) + (l'.length : Int) - (if jW (l, ex, wa, fo, du, se, co) (l', ex', wa', fo', du', se', co') then 1 else 0)) h)
  refine r_aload_n dX8_layersWith_0 0 rfl ?_
  refine r_get cl_X8 2 (by decide) kf_X8_19 dX8_layersWith_1 ma fa rfl ?_
  refine r_aload_n dX8_layersWith_4 1 rfl ?_
  refine r_get cl_X8 2 (by decide) kf_X8_19 dX8_layersWith_5 ma' fa' rfl ?_
  refine i_add dX8_layersWith_8 ?_
  refine r_aload_n dX8_layersWith_9 0 rfl ?_
  refine r_aload_n dX8_layersWith_10 1 rfl ?_
  refine p_callV (As := [.ref a']) (b := a) (rest := [.int (iI ((l.length : Int) + (l'.length : Int)))]) (w := (some (.int (iI (b2 (jW (l, ex, wa, fo, du, se, co) (l', ex', wa', fo', du', se', co'))))))) (st' := [.int (iI (b2 (jW (l, ex, wa, fo, du, se, co) (l', ex', wa', fo', du', se', co')))), .int (iI ((l.length : Int) + (l'.length : Int)))]) kv_X8_layersWith_84 dX8_layersWith_11 rfl rfl (Nat.le_of_ble_eq_true rfl) (Nat.le_of_ble_eq_true rfl) (x_rv ma fa rfl) rfl rfl (c_X8_joinsWith hS0 hS0') rfl (fun h9 e9 => ?_)
  subst e9
  refine i_ifeqb dX8_layersWith_14 (tgt := 21) (by decide) (fun c14 => ?_) (fun c14 => ?_)
  · refine i_const (0) dX8_layersWith_21 ?_
    refine i_sub dX8_layersWith_22 ?_
    refine r_ireturn rfl rfl dX8_layersWith_23 ?_
    rw [c14]
    exact ⟨rfl, rfl⟩
  · refine i_const (1) dX8_layersWith_17 ?_
    refine r_goto dX8_layersWith_18 (tgt := 22) (by decide) ?_
    refine i_sub dX8_layersWith_22 ?_
    refine r_ireturn rfl rfl dX8_layersWith_23 ?_
    rw [c14]
    exact ⟨rfl, rfl⟩
set_option maxRecDepth 20000 in
set_option maxHeartbeats 1000000 in
theorem c_X8_butterTop {G : xG} {h : xH} {a t b : Nat} {s : AS} (hS : SH G h a t b s) {T : Int} (hT : 1 ≤ T) (hroom : s.1.length < 200) : CC G MX8_butterTop [.ref a, .int (iI T)] h (fun o h' => o = .inl none ∧ SH G h' a t b (butS s T) ∧ FR a t b h h') := by
  obtain ⟨l, ex, wa, fo, du, se, co⟩ := s
  have hS0 := hS
  obtain ⟨gt, gb, ⟨ma, mt, mb⟩, ⟨nta, nba, ntb⟩, fa, ft, fb, hl, hr⟩ := hS
  have hl : l.length ≤ 200 := hl
  have hr : sr gt gb l := hr
  have fa : h.2 a = .inr (5, [.ref t, .ref b, .int (iI (l.length : Int)), .int (iI ex), .int fo, .int (iI wa), .int (iI (b2 du)), .int (iI (b2 se)), .int (iI (b2 co))]) := fa
  have cP := c_X8_putLayer (x := -T) (ap := du) hS0 (Or.inl hroom)
  rw [show isB (-T) = true from decide_eq_true (by omega), show sz (-T) = T by unfold sz; rw [if_pos (by omega)]; omega] at cP
  show RR G MX8_butterTop 0 [(0, .ref a), (1, .int (iI T))] [] h (xm_R MX8_butterTop).cells (xm_R MX8_butterTop).slots (fun o h' => o = .inl none ∧ SH G h' a t b (butS (l, ex, wa, fo, du, se, co) T) ∧ FR a t b h h')
  refine r_aload_n dX8_butterTop_0 0 rfl ?_
  refine i_const (1) dX8_butterTop_1 ?_
  refine r_iload_n dX8_butterTop_2 1 rfl ?_
  refine r_aload_n dX8_butterTop_3 0 rfl ?_
  refine r_get cl_X8 6 (by decide) kf_X8_32 dX8_butterTop_4 ma fa rfl ?_
  refine p_callV (As := [.int (iI 1), .int (iI T), .int (iI (b2 du))]) (b := a) (rest := []) (w := (some (.int (iI (b2 (putN l (-T) (!du)).2))))) (st' := [.int (iI (b2 (putN l (-T) (!du)).2))]) kv_X8_butterTop_42 dX8_butterTop_7 rfl rfl (Nat.le_of_ble_eq_true rfl) (Nat.le_of_ble_eq_true rfl) (x_rv ma fa rfl) rfl rfl (cP) rfl (fun h9 e9 => ?_)
  obtain ⟨hS9, hF9⟩ := e9
  obtain ⟨gt9, gb9, ⟨ma9, mt9, mb9⟩, -, fa9, ft9, fb9, hl9, hr9⟩ := hS9
  have fa9 : h9.2 a = .inr (5, [.ref t, .ref b, .int (iI (((putN l (-T) (!du)).1).length : Int)), .int (iI ex), .int fo, .int (iI wa), .int (iI (b2 du)), .int (iI (b2 se)), .int (iI (b2 co))]) := fa9
  have hl9 : ((putN l (-T) (!du)).1).length ≤ 200 := hl9
  have hr9 : sr gt9 gb9 ((putN l (-T) (!du)).1) := hr9
  refine r_istore_n (ls' := [(0, .ref a), (1, .int (iI T)), (2, .int (iI (b2 (putN l (-T) (!du)).2)))]) dX8_butterTop_10 (by decide) rfl ?_
  refine r_aload_n dX8_butterTop_11 0 rfl ?_
  refine r_dup dX8_butterTop_12 rfl ?_
  refine r_get cl_X8 3 (by decide) kf_X8_23 dX8_butterTop_13 ma9 fa9 rfl ?_
  refine r_iload_n dX8_butterTop_16 2 rfl ?_
  refine i_ifeqb dX8_butterTop_17 (tgt := 24) (by decide) (fun c17 => ?_) (fun c17 => ?_)
  · refine i_const (1) dX8_butterTop_24 ?_
    refine i_add dX8_butterTop_25 ?_
    refine i_put [.ref t, .ref b, .int (iI ((((putN l (-T) (!du)).1).length : Int))), .int (iI (ex + 1)), .int fo, .int (iI wa), .int (iI (b2 du)), .int (iI (b2 se)), .int (iI (b2 co))] cl_X8 3 (by decide) kf_X8_23 rfl dX8_butterTop_26 ma9 fa9 rfl rfl (by simp) rfl (fun h1 e0_1 e1_1 e2_1 => ?_)
    have ma_1 : a ∈ h1.1 := by rw [e0_1]; exact ma9
    have mt_1 : t ∈ h1.1 := by rw [e0_1]; exact mt9
    have ft_1 := (e2_1 _ nta).trans ft9
    have mb_1 : b ∈ h1.1 := by rw [e0_1]; exact mb9
    have fb_1 := (e2_1 _ nba).trans fb9
    refine r_aload_n dX8_butterTop_29 0 rfl ?_
    refine i_const (0) dX8_butterTop_30 ?_
    refine i_put [.ref t, .ref b, .int (iI ((((putN l (-T) (!du)).1).length : Int))), .int (iI (ex + 1)), .int fo, .int (iI wa), .int (iI (b2 du)), .int (iI 0), .int (iI (b2 co))] cl_X8 7 (by decide) kf_X8_36 rfl dX8_butterTop_31 ma_1 e1_1 (b2_nar false) (b2_fit false) (by simp) rfl (fun h2 e0_2 e1_2 e2_2 => ?_)
    have ma_2 : a ∈ h2.1 := by rw [e0_2]; exact ma_1
    have mt_2 : t ∈ h2.1 := by rw [e0_2]; exact mt_1
    have ft_2 := (e2_2 _ nta).trans ft_1
    have mb_2 : b ∈ h2.1 := by rw [e0_2]; exact mb_1
    have fb_2 := (e2_2 _ nba).trans fb_1
    refine r_return rfl dX8_butterTop_34 ?_
    simp only [butS, c17, if_true, Bool.false_eq_true, if_false]
    exact ⟨True.intro, ⟨gt9, gb9, ⟨ma_2, mt_2, mb_2⟩, ⟨nta, nba, ntb⟩, e1_2, ft_2, fb_2, hl9, hr9⟩, (FR.tr (FR.tr hF9 (FR.wa e0_1 e2_1)) (FR.wa e0_2 e2_2))⟩
  · refine i_const (0) dX8_butterTop_20 ?_
    refine r_goto dX8_butterTop_21 (tgt := 25) (by decide) ?_
    refine i_add dX8_butterTop_25 ?_
    refine i_put [.ref t, .ref b, .int (iI ((((putN l (-T) (!du)).1).length : Int))), .int (iI (ex + 0)), .int fo, .int (iI wa), .int (iI (b2 du)), .int (iI (b2 se)), .int (iI (b2 co))] cl_X8 3 (by decide) kf_X8_23 rfl dX8_butterTop_26 ma9 fa9 rfl rfl (by simp) rfl (fun h3 e0_3 e1_3 e2_3 => ?_)
    have ma_3 : a ∈ h3.1 := by rw [e0_3]; exact ma9
    have mt_3 : t ∈ h3.1 := by rw [e0_3]; exact mt9
    have ft_3 := (e2_3 _ nta).trans ft9
    have mb_3 : b ∈ h3.1 := by rw [e0_3]; exact mb9
    have fb_3 := (e2_3 _ nba).trans fb9
    refine r_aload_n dX8_butterTop_29 0 rfl ?_
    refine i_const (0) dX8_butterTop_30 ?_
    refine i_put [.ref t, .ref b, .int (iI ((((putN l (-T) (!du)).1).length : Int))), .int (iI (ex + 0)), .int fo, .int (iI wa), .int (iI (b2 du)), .int (iI 0), .int (iI (b2 co))] cl_X8 7 (by decide) kf_X8_36 rfl dX8_butterTop_31 ma_3 e1_3 (b2_nar false) (b2_fit false) (by simp) rfl (fun h4 e0_4 e1_4 e2_4 => ?_)
    have ma_4 : a ∈ h4.1 := by rw [e0_4]; exact ma_3
    have mt_4 : t ∈ h4.1 := by rw [e0_4]; exact mt_3
    have ft_4 := (e2_4 _ nta).trans ft_3
    have mb_4 : b ∈ h4.1 := by rw [e0_4]; exact mb_3
    have fb_4 := (e2_4 _ nba).trans fb_3
    refine r_return rfl dX8_butterTop_34 ?_
    simp only [butS, c17, if_true, Bool.false_eq_true, if_false]
    exact ⟨True.intro, ⟨gt9, gb9, ⟨ma_4, mt_4, mb_4⟩, ⟨nta, nba, ntb⟩, e1_4, ft_4, fb_4, hl9, hr9⟩, (FR.tr (FR.tr hF9 (FR.wa e0_3 e2_3)) (FR.wa e0_4 e2_4))⟩
set_option maxRecDepth 20000 in
set_option maxHeartbeats 1000000 in
theorem c_X8_copyFrom {G : xG} {h : xH} {a t b : Nat} {s : AS} (hS : SH G h a t b s) {a' t' b' : Nat} {s' : AS} (hS' : SH G h a' t' b' s') (hN : DJ a t b a' t' b') : CC G MX8_copyFrom [.ref a, .ref a'] h (fun o h' => o = .inl none ∧ SH G h' a t b s' ∧ FR a t b h h') := by
  obtain ⟨l, ex, wa, fo, du, se, co⟩ := s
  have hS0 := hS
  obtain ⟨gt, gb, ⟨ma, mt, mb⟩, ⟨nta, nba, ntb⟩, fa, ft, fb, hl, hr⟩ := hS
  have hl : l.length ≤ 200 := hl
  have hr : sr gt gb l := hr
  have fa : h.2 a = .inr (5, [.ref t, .ref b, .int (iI (l.length : Int)), .int (iI ex), .int fo, .int (iI wa), .int (iI (b2 du)), .int (iI (b2 se)), .int (iI (b2 co))]) := fa
  obtain ⟨l', ex', wa', fo', du', se', co'⟩ := s'
  have hS0' := hS'
  obtain ⟨gt', gb', ⟨ma', mt', mb'⟩, ⟨nta', nba', ntb'⟩, fa', ft', fb', hl', hr'⟩ := hS'
  have hl' : l'.length ≤ 200 := hl'
  have hr' : sr gt' gb' l' := hr'
  have fa' : h.2 a' = .inr (5, [.ref t', .ref b', .int (iI (l'.length : Int)), .int (iI ex'), .int fo', .int (iI wa'), .int (iI (b2 du')), .int (iI (b2 se')), .int (iI (b2 co'))]) := fa'
  have L : ∀ i, i ≤ l'.length → ∀ (hh : xH) (g g' : Nat → Int32), hh.2 a = .inr (5, [.ref t, .ref b, .int (iI (l'.length : Int)), .int (iI ex), .int fo, .int (iI wa), .int (iI (b2 du)), .int (iI (b2 se)), .int (iI (b2 co))]) → hh.2 t = .inl (G.2.1 0, 200, .inl g) → hh.2 b = .inl (G.2.1 1, 200, .inl g') → (∀ k, k < i → g k = iI (sz (l'.getD k 0)) ∧ g' k = iI (b2 (isB (l'.getD k 0)))) → FR a t b h hh → RR G MX8_copyFrom 10 [(0, .ref a), (1, .ref a'), (2, .int (iI ((i : Int))))] [] hh (xm_R MX8_copyFrom).cells (xm_R MX8_copyFrom).slots (fun o h' => o = .inl none ∧ SH G h' a t b (l', ex', wa', fo', du', se', co') ∧ FR a t b h h') := by
    refine down (fun i hi ih => ?_)
    intro hh g g' fa9 ft9 fb9 hg hF
    have ma9 : a ∈ hh.1 := by rw [hF.1]; exact ma
    have mt9 : t ∈ hh.1 := by rw [hF.1]; exact mt
    have mb9 : b ∈ hh.1 := by rw [hF.1]; exact mb
    have ma'9 : a' ∈ hh.1 := by rw [hF.1]; exact ma'
    have mt'9 : t' ∈ hh.1 := by rw [hF.1]; exact mt'
    have mb'9 : b' ∈ hh.1 := by rw [hF.1]; exact mb'
    have fa'9 := (hF.2 a' hN.1.1.symm hN.2.1.1.symm hN.2.2.1.symm).trans fa'
    have ft'9 := (hF.2 t' hN.1.2.1.symm hN.2.1.2.1.symm hN.2.2.2.1.symm).trans ft'
    have fb'9 := (hF.2 b' hN.1.2.2.symm hN.2.1.2.2.symm hN.2.2.2.2.symm).trans fb'
    refine r_iload_n dX8_copyFrom_10 2 rfl ?_
    refine r_aload_n dX8_copyFrom_11 0 rfl ?_
    refine r_get cl_X8 2 (by decide) kf_X8_19 dX8_copyFrom_12 ma9 fa9 rfl ?_
    refine i_icmpge dX8_copyFrom_15 (tgt := 48) (by decide) (by unfold in32; omega) (by unfold in32; omega) (fun c15 => ?_) (fun c15 => ?_)
    · refine r_aload_n dX8_copyFrom_48 0 rfl ?_
      refine r_aload_n dX8_copyFrom_49 1 rfl ?_
      refine r_get cl_X8 3 (by decide) kf_X8_23 dX8_copyFrom_50 ma'9 fa'9 rfl ?_
      refine i_put [.ref t, .ref b, .int (iI ((l'.length : Int))), .int (iI ex'), .int fo, .int (iI wa), .int (iI (b2 du)), .int (iI (b2 se)), .int (iI (b2 co))] cl_X8 3 (by decide) kf_X8_23 rfl dX8_copyFrom_53 ma9 fa9 rfl rfl (by simp) rfl (fun h1 e0_1 e1_1 e2_1 => ?_)
      have ma_1 : a ∈ h1.1 := by rw [e0_1]; exact ma9
      have mt_1 : t ∈ h1.1 := by rw [e0_1]; exact mt9
      have ft_1 := (e2_1 _ nta).trans ft9
      have mb_1 : b ∈ h1.1 := by rw [e0_1]; exact mb9
      have fb_1 := (e2_1 _ nba).trans fb9
      have ma'_1 : a' ∈ h1.1 := by rw [e0_1]; exact ma'9
      have fa'_1 := (e2_1 _ (Ne.symm hN.1.1)).trans fa'9
      have mt'_1 : t' ∈ h1.1 := by rw [e0_1]; exact mt'9
      have ft'_1 := (e2_1 _ (Ne.symm hN.1.2.1)).trans ft'9
      have mb'_1 : b' ∈ h1.1 := by rw [e0_1]; exact mb'9
      have fb'_1 := (e2_1 _ (Ne.symm hN.1.2.2)).trans fb'9
      refine r_aload_n dX8_copyFrom_56 0 rfl ?_
      refine r_aload_n dX8_copyFrom_57 1 rfl ?_
      refine r_get cl_X8 4 (by decide) kf_X8_26 dX8_copyFrom_58 ma'_1 fa'_1 rfl ?_
      refine i_put [.ref t, .ref b, .int (iI ((l'.length : Int))), .int (iI ex'), .int fo', .int (iI wa), .int (iI (b2 du)), .int (iI (b2 se)), .int (iI (b2 co))] cl_X8 4 (by decide) kf_X8_26 rfl dX8_copyFrom_61 ma_1 e1_1 rfl rfl (by simp) rfl (fun h2 e0_2 e1_2 e2_2 => ?_)
      have ma_2 : a ∈ h2.1 := by rw [e0_2]; exact ma_1
      have mt_2 : t ∈ h2.1 := by rw [e0_2]; exact mt_1
      have ft_2 := (e2_2 _ nta).trans ft_1
      have mb_2 : b ∈ h2.1 := by rw [e0_2]; exact mb_1
      have fb_2 := (e2_2 _ nba).trans fb_1
      have ma'_2 : a' ∈ h2.1 := by rw [e0_2]; exact ma'_1
      have fa'_2 := (e2_2 _ (Ne.symm hN.1.1)).trans fa'_1
      have mt'_2 : t' ∈ h2.1 := by rw [e0_2]; exact mt'_1
      have ft'_2 := (e2_2 _ (Ne.symm hN.1.2.1)).trans ft'_1
      have mb'_2 : b' ∈ h2.1 := by rw [e0_2]; exact mb'_1
      have fb'_2 := (e2_2 _ (Ne.symm hN.1.2.2)).trans fb'_1
      refine r_aload_n dX8_copyFrom_64 0 rfl ?_
      refine r_aload_n dX8_copyFrom_65 1 rfl ?_
      refine r_get cl_X8 5 (by decide) kf_X8_29 dX8_copyFrom_66 ma'_2 fa'_2 rfl ?_
      refine i_put [.ref t, .ref b, .int (iI ((l'.length : Int))), .int (iI ex'), .int fo', .int (iI wa'), .int (iI (b2 du)), .int (iI (b2 se)), .int (iI (b2 co))] cl_X8 5 (by decide) kf_X8_29 rfl dX8_copyFrom_69 ma_2 e1_2 rfl rfl (by simp) rfl (fun h3 e0_3 e1_3 e2_3 => ?_)
      have ma_3 : a ∈ h3.1 := by rw [e0_3]; exact ma_2
      have mt_3 : t ∈ h3.1 := by rw [e0_3]; exact mt_2
      have ft_3 := (e2_3 _ nta).trans ft_2
      have mb_3 : b ∈ h3.1 := by rw [e0_3]; exact mb_2
      have fb_3 := (e2_3 _ nba).trans fb_2
      have ma'_3 : a' ∈ h3.1 := by rw [e0_3]; exact ma'_2
      have fa'_3 := (e2_3 _ (Ne.symm hN.1.1)).trans fa'_2
      have mt'_3 : t' ∈ h3.1 := by rw [e0_3]; exact mt'_2
      have ft'_3 := (e2_3 _ (Ne.symm hN.1.2.1)).trans ft'_2
      have mb'_3 : b' ∈ h3.1 := by rw [e0_3]; exact mb'_2
      have fb'_3 := (e2_3 _ (Ne.symm hN.1.2.2)).trans fb'_2
      refine r_aload_n dX8_copyFrom_72 0 rfl ?_
      refine r_aload_n dX8_copyFrom_73 1 rfl ?_
      refine r_get cl_X8 6 (by decide) kf_X8_32 dX8_copyFrom_74 ma'_3 fa'_3 rfl ?_
      refine i_put [.ref t, .ref b, .int (iI ((l'.length : Int))), .int (iI ex'), .int fo', .int (iI wa'), .int (iI (b2 du')), .int (iI (b2 se)), .int (iI (b2 co))] cl_X8 6 (by decide) kf_X8_32 rfl dX8_copyFrom_77 ma_3 e1_3 (b2_nar _) (b2_fit _) (by simp) rfl (fun h4 e0_4 e1_4 e2_4 => ?_)
      have ma_4 : a ∈ h4.1 := by rw [e0_4]; exact ma_3
      have mt_4 : t ∈ h4.1 := by rw [e0_4]; exact mt_3
      have ft_4 := (e2_4 _ nta).trans ft_3
      have mb_4 : b ∈ h4.1 := by rw [e0_4]; exact mb_3
      have fb_4 := (e2_4 _ nba).trans fb_3
      have ma'_4 : a' ∈ h4.1 := by rw [e0_4]; exact ma'_3
      have fa'_4 := (e2_4 _ (Ne.symm hN.1.1)).trans fa'_3
      have mt'_4 : t' ∈ h4.1 := by rw [e0_4]; exact mt'_3
      have ft'_4 := (e2_4 _ (Ne.symm hN.1.2.1)).trans ft'_3
      have mb'_4 : b' ∈ h4.1 := by rw [e0_4]; exact mb'_3
      have fb'_4 := (e2_4 _ (Ne.symm hN.1.2.2)).trans fb'_3
      refine r_aload_n dX8_copyFrom_80 0 rfl ?_
      refine r_aload_n dX8_copyFrom_81 1 rfl ?_
      refine r_get cl_X8 7 (by decide) kf_X8_36 dX8_copyFrom_82 ma'_4 fa'_4 rfl ?_
      refine i_put [.ref t, .ref b, .int (iI ((l'.length : Int))), .int (iI ex'), .int fo', .int (iI wa'), .int (iI (b2 du')), .int (iI (b2 se')), .int (iI (b2 co))] cl_X8 7 (by decide) kf_X8_36 rfl dX8_copyFrom_85 ma_4 e1_4 (b2_nar _) (b2_fit _) (by simp) rfl (fun h5 e0_5 e1_5 e2_5 => ?_)
      have ma_5 : a ∈ h5.1 := by rw [e0_5]; exact ma_4
      have mt_5 : t ∈ h5.1 := by rw [e0_5]; exact mt_4
      have ft_5 := (e2_5 _ nta).trans ft_4
      have mb_5 : b ∈ h5.1 := by rw [e0_5]; exact mb_4
      have fb_5 := (e2_5 _ nba).trans fb_4
      have ma'_5 : a' ∈ h5.1 := by rw [e0_5]; exact ma'_4
      have fa'_5 := (e2_5 _ (Ne.symm hN.1.1)).trans fa'_4
      have mt'_5 : t' ∈ h5.1 := by rw [e0_5]; exact mt'_4
      have ft'_5 := (e2_5 _ (Ne.symm hN.1.2.1)).trans ft'_4
      have mb'_5 : b' ∈ h5.1 := by rw [e0_5]; exact mb'_4
      have fb'_5 := (e2_5 _ (Ne.symm hN.1.2.2)).trans fb'_4
      refine r_aload_n dX8_copyFrom_88 0 rfl ?_
      refine r_aload_n dX8_copyFrom_89 1 rfl ?_
      refine r_get cl_X8 8 (by decide) kf_X8_39 dX8_copyFrom_90 ma'_5 fa'_5 rfl ?_
      refine i_put [.ref t, .ref b, .int (iI ((l'.length : Int))), .int (iI ex'), .int fo', .int (iI wa'), .int (iI (b2 du')), .int (iI (b2 se')), .int (iI (b2 co'))] cl_X8 8 (by decide) kf_X8_39 rfl dX8_copyFrom_93 ma_5 e1_5 (b2_nar _) (b2_fit _) (by simp) rfl (fun h6 e0_6 e1_6 e2_6 => ?_)
      have ma_6 : a ∈ h6.1 := by rw [e0_6]; exact ma_5
      have mt_6 : t ∈ h6.1 := by rw [e0_6]; exact mt_5
      have ft_6 := (e2_6 _ nta).trans ft_5
      have mb_6 : b ∈ h6.1 := by rw [e0_6]; exact mb_5
      have fb_6 := (e2_6 _ nba).trans fb_5
      have ma'_6 : a' ∈ h6.1 := by rw [e0_6]; exact ma'_5
      have fa'_6 := (e2_6 _ (Ne.symm hN.1.1)).trans fa'_5
      have mt'_6 : t' ∈ h6.1 := by rw [e0_6]; exact mt'_5
      have ft'_6 := (e2_6 _ (Ne.symm hN.1.2.1)).trans ft'_5
      have mb'_6 : b' ∈ h6.1 := by rw [e0_6]; exact mb'_5
      have fb'_6 := (e2_6 _ (Ne.symm hN.1.2.2)).trans fb'_5
      refine r_return rfl dX8_copyFrom_96 ?_
      exact ⟨rfl, ⟨g, g', ⟨ma_6, mt_6, mb_6⟩, ⟨nta, nba, ntb⟩, e1_6, ft_6, fb_6, hl', fun k hk => hg k (Nat.lt_of_lt_of_le hk (show l'.length ≤ i by omega))⟩, FR.tr hF (FR.tr (FR.tr (FR.tr (FR.tr (FR.tr (FR.wa e0_1 e2_1) (FR.wa e0_2 e2_2)) (FR.wa e0_3 e2_3)) (FR.wa e0_4 e2_4)) (FR.wa e0_5 e2_5)) (FR.wa e0_6 e2_6))⟩
    · refine r_aload_n dX8_copyFrom_18 0 rfl ?_
      refine r_get cl_X8 0 (by decide) kf_X8_9 dX8_copyFrom_19 ma9 fa9 rfl ?_
      refine r_iload_n dX8_copyFrom_22 2 rfl ?_
      refine r_aload_n dX8_copyFrom_23 1 rfl ?_
      refine r_get cl_X8 0 (by decide) kf_X8_9 dX8_copyFrom_24 ma'9 fa'9 rfl ?_
      refine r_iload_n dX8_copyFrom_27 2 rfl ?_
      refine i_iald i rfl dX8_copyFrom_28 mt'9 ft'9 (by omega) (by decide) (hr' i (by omega)).1 ?_
      refine i_iast i rfl dX8_copyFrom_29 mt9 ft9 (by omega) (by decide) (fun h7 e0_7 e1_7 e2_7 => ?_)
      have ma_7 : a ∈ h7.1 := by rw [e0_7]; exact ma9
      have fa_7 := (e2_7 _ (Ne.symm nta)).trans fa9
      have mt_7 : t ∈ h7.1 := by rw [e0_7]; exact mt9
      have mb_7 : b ∈ h7.1 := by rw [e0_7]; exact mb9
      have fb_7 := (e2_7 _ (Ne.symm ntb)).trans fb9
      have ma'_7 : a' ∈ h7.1 := by rw [e0_7]; exact ma'9
      have fa'_7 := (e2_7 _ (Ne.symm hN.2.1.1)).trans fa'9
      have mt'_7 : t' ∈ h7.1 := by rw [e0_7]; exact mt'9
      have ft'_7 := (e2_7 _ (Ne.symm hN.2.1.2.1)).trans ft'9
      have mb'_7 : b' ∈ h7.1 := by rw [e0_7]; exact mb'9
      have fb'_7 := (e2_7 _ (Ne.symm hN.2.1.2.2)).trans fb'9
      refine r_aload_n dX8_copyFrom_30 0 rfl ?_
      refine r_get cl_X8 1 (by decide) kf_X8_15 dX8_copyFrom_31 ma_7 fa_7 rfl ?_
      refine r_iload_n dX8_copyFrom_34 2 rfl ?_
      refine r_aload_n dX8_copyFrom_35 1 rfl ?_
      refine r_get cl_X8 1 (by decide) kf_X8_15 dX8_copyFrom_36 ma'_7 fa'_7 rfl ?_
      refine r_iload_n dX8_copyFrom_39 2 rfl ?_
      refine i_zald i rfl dX8_copyFrom_40 mb'_7 fb'_7 (by omega) (by decide) (hr' i (by omega)).2 ?_
      refine i_zast i rfl dX8_copyFrom_41 mb_7 fb_7 (by omega) (by decide) (b2_vp _) (fun h8 e0_8 e1_8 e2_8 => ?_)
      have ma_8 : a ∈ h8.1 := by rw [e0_8]; exact ma_7
      have fa_8 := (e2_8 _ (Ne.symm nba)).trans fa_7
      have mt_8 : t ∈ h8.1 := by rw [e0_8]; exact mt_7
      have ft_8 := (e2_8 _ ntb).trans e1_7
      have mb_8 : b ∈ h8.1 := by rw [e0_8]; exact mb_7
      have ma'_8 : a' ∈ h8.1 := by rw [e0_8]; exact ma'_7
      have fa'_8 := (e2_8 _ (Ne.symm hN.2.2.1)).trans fa'_7
      have mt'_8 : t' ∈ h8.1 := by rw [e0_8]; exact mt'_7
      have ft'_8 := (e2_8 _ (Ne.symm hN.2.2.2.1)).trans ft'_7
      have mb'_8 : b' ∈ h8.1 := by rw [e0_8]; exact mb'_7
      have fb'_8 := (e2_8 _ (Ne.symm hN.2.2.2.2)).trans fb'_7
      refine i_iinc (ls' := [(0, .ref a), (1, .ref a'), (2, .int (iI ((i : Int) + 1)))]) (1) (v := (i : Int) + 1) dX8_copyFrom_42 2 rfl (by omega) (by decide) rfl ?_
      refine r_goto dX8_copyFrom_45 (tgt := 10) (by decide) ?_
      refine ih (i + 1) (by omega) (by omega) _ _ _ fa_8 ft_8 e1_8 (fun k hk => ?_) (FR.tr hF (FR.tr (FR.wt e0_7 e2_7) (FR.wb e0_8 e2_8)))
      by_cases z : k = i
      · subst z; exact ⟨by simp [upd], by simp [upd]⟩
      · have y := hg k (by omega)
        exact ⟨by simp only [upd, if_neg z]; exact y.1, by simp only [upd, if_neg z]; exact y.2⟩
  show RR G MX8_copyFrom 0 [(0, .ref a), (1, .ref a')] [] h (xm_R MX8_copyFrom).cells (xm_R MX8_copyFrom).slots (fun o h' => o = .inl none ∧ SH G h' a t b (l', ex', wa', fo', du', se', co') ∧ FR a t b h h')
  refine r_aload_n dX8_copyFrom_0 0 rfl ?_
  refine r_aload_n dX8_copyFrom_1 1 rfl ?_
  refine r_get cl_X8 2 (by decide) kf_X8_19 dX8_copyFrom_2 ma' fa' rfl ?_
  refine i_put [.ref t, .ref b, .int (iI ((l'.length : Int))), .int (iI ex), .int fo, .int (iI wa), .int (iI (b2 du)), .int (iI (b2 se)), .int (iI (b2 co))] cl_X8 2 (by decide) kf_X8_19 rfl dX8_copyFrom_5 ma fa rfl rfl (by simp) rfl (fun h1 e0_1 e1_1 e2_1 => ?_)
  have ma_1 : a ∈ h1.1 := by rw [e0_1]; exact ma
  have mt_1 : t ∈ h1.1 := by rw [e0_1]; exact mt
  have ft_1 := (e2_1 _ nta).trans ft
  have mb_1 : b ∈ h1.1 := by rw [e0_1]; exact mb
  have fb_1 := (e2_1 _ nba).trans fb
  have ma'_1 : a' ∈ h1.1 := by rw [e0_1]; exact ma'
  have fa'_1 := (e2_1 _ (Ne.symm hN.1.1)).trans fa'
  have mt'_1 : t' ∈ h1.1 := by rw [e0_1]; exact mt'
  have ft'_1 := (e2_1 _ (Ne.symm hN.1.2.1)).trans ft'
  have mb'_1 : b' ∈ h1.1 := by rw [e0_1]; exact mb'
  have fb'_1 := (e2_1 _ (Ne.symm hN.1.2.2)).trans fb'
  refine i_const (0) dX8_copyFrom_8 ?_
  refine r_istore_n (ls' := [(0, .ref a), (1, .ref a'), (2, .int (iI 0))]) dX8_copyFrom_9 (by decide) rfl ?_
  exact L 0 (by omega) _ _ _ e1_1 ft_1 fb_1 (fun k hk => absurd hk (Nat.not_lt_zero k)) (FR.wa e0_1 e2_1)
set_option maxRecDepth 20000 in
set_option maxHeartbeats 1000000 in
theorem c_X8_carry {G : xG} {h : xH} {a t b : Nat} {s : AS} (hS : SH G h a t b s) {a' t' b' : Nat} {s' : AS} (hS' : SH G h a' t' b' s') (hN : DJ a t b a' t' b') (hw : 0 ≤ s.2.2.1 ∧ s.2.2.1 ≤ 40) (hw' : 0 ≤ s'.2.2.1 ∧ s'.2.2.1 ≤ 40) (hroom : (putA s.1 s'.1 (!s.2.2.2.2.1)).1.length ≤ 200) : CC G MX8_carry [.ref a, .ref a'] h (fun o h' => o = .inl none ∧ SH G h' a t b (carryS s s') ∧ FR a t b h h') := by
  obtain ⟨l, ex, wa, fo, du, se, co⟩ := s
  have hS0 := hS
  have hw : 0 ≤ wa ∧ wa ≤ 40 := hw
  obtain ⟨gt, gb, ⟨ma, mt, mb⟩, ⟨nta, nba, ntb⟩, fa, ft, fb, hl, hr⟩ := hS
  have hl : l.length ≤ 200 := hl
  have hr : sr gt gb l := hr
  have fa : h.2 a = .inr (5, [.ref t, .ref b, .int (iI (l.length : Int)), .int (iI ex), .int fo, .int (iI wa), .int (iI (b2 du)), .int (iI (b2 se)), .int (iI (b2 co))]) := fa
  obtain ⟨l', ex', wa', fo', du', se', co'⟩ := s'
  have hS0' := hS'
  obtain ⟨gt', gb', ⟨ma', mt', mb'⟩, ⟨nta', nba', ntb'⟩, fa', ft', fb', hl', hr'⟩ := hS'
  have hl' : l'.length ≤ 200 := hl'
  have hr' : sr gt' gb' l' := hr'
  have fa' : h.2 a' = .inr (5, [.ref t', .ref b', .int (iI (l'.length : Int)), .int (iI ex'), .int fo', .int (iI wa'), .int (iI (b2 du')), .int (iI (b2 se')), .int (iI (b2 co'))]) := fa'
  have hw' : 0 ≤ wa' ∧ wa' ≤ 40 := hw'
  have hroom : (putA l l' (!du)).1.length ≤ 200 := hroom
  have L : ∀ i, i ≤ l'.length → ∀ (hh : xH), SH G hh a t b ((putA l (l'.take i) (!du)).1, ex, wa, fo, du, se, co) → FR a t b h hh → RR G MX8_carry 4 [(0, .ref a), (1, .ref a'), (2, .int (iI ((putA l (l'.take i) (!du)).2))), (3, .int (iI ((i : Int))))] [] hh (xm_R MX8_carry).cells (xm_R MX8_carry).slots (fun o h' => o = .inl none ∧ SH G h' a t b (carryS (l, ex, wa, fo, du, se, co) (l', ex', wa', fo', du', se', co')) ∧ FR a t b h h') := by
    refine down (fun i hi ih => ?_)
    intro hh hT hF
    have hT0 := hT
    have ma'9 : a' ∈ hh.1 := by rw [hF.1]; exact ma'
    have mt'9 : t' ∈ hh.1 := by rw [hF.1]; exact mt'
    have mb'9 : b' ∈ hh.1 := by rw [hF.1]; exact mb'
    have fa'9 := (hF.2 a' hN.1.1.symm hN.2.1.1.symm hN.2.2.1.symm).trans fa'
    have ft'9 := (hF.2 t' hN.1.2.1.symm hN.2.1.2.1.symm hN.2.2.2.1.symm).trans ft'
    have fb'9 := (hF.2 b' hN.1.2.2.symm hN.2.1.2.2.symm hN.2.2.2.2.symm).trans fb'
    obtain ⟨gt9, gb9, ⟨ma9, mt9, mb9⟩, -, fa9, ft9, fb9, hl9, hr9⟩ := hT
    have fa9 : hh.2 a = .inr (5, [.ref t, .ref b, .int (iI (((putA l (l'.take i) (!du)).1).length : Int)), .int (iI ex), .int fo, .int (iI wa), .int (iI (b2 du)), .int (iI (b2 se)), .int (iI (b2 co))]) := fa9
    have hl9 : ((putA l (l'.take i) (!du)).1).length ≤ 200 := hl9
    have hr9 : sr gt9 gb9 ((putA l (l'.take i) (!du)).1) := hr9
    refine r_iload_n dX8_carry_4 3 rfl ?_
    refine r_aload_n dX8_carry_5 1 rfl ?_
    refine r_get cl_X8 2 (by decide) kf_X8_19 dX8_carry_6 ma'9 fa'9 rfl ?_
    refine i_icmpge dX8_carry_9 (tgt := 56) (by decide) (by unfold in32; omega) (by unfold in32; omega) (fun c9 => ?_) (fun c9 => ?_)
    · refine r_aload_n dX8_carry_56 0 rfl ?_
      refine r_dup dX8_carry_57 rfl ?_
      refine r_get cl_X8 3 (by decide) kf_X8_23 dX8_carry_58 ma9 fa9 rfl ?_
      refine r_aload_n dX8_carry_61 1 rfl ?_
      refine r_get cl_X8 3 (by decide) kf_X8_23 dX8_carry_62 ma'9 fa'9 rfl ?_
      refine r_iload_n dX8_carry_65 2 rfl ?_
      refine i_sub dX8_carry_66 ?_
      refine i_add dX8_carry_67 ?_
      refine i_put [.ref t, .ref b, .int (iI ((((putA l (l'.take i) (!du)).1).length : Int))), .int (iI (ex + (ex' - ((putA l (l'.take i) (!du)).2)))), .int fo, .int (iI wa), .int (iI (b2 du)), .int (iI (b2 se)), .int (iI (b2 co))] cl_X8 3 (by decide) kf_X8_23 rfl dX8_carry_68 ma9 fa9 rfl rfl (by simp) rfl (fun h1 e0_1 e1_1 e2_1 => ?_)
      have ma_1 : a ∈ h1.1 := by rw [e0_1]; exact ma9
      have mt_1 : t ∈ h1.1 := by rw [e0_1]; exact mt9
      have ft_1 := (e2_1 _ nta).trans ft9
      have mb_1 : b ∈ h1.1 := by rw [e0_1]; exact mb9
      have fb_1 := (e2_1 _ nba).trans fb9
      have ma'_1 : a' ∈ h1.1 := by rw [e0_1]; exact ma'9
      have fa'_1 := (e2_1 _ (Ne.symm hN.1.1)).trans fa'9
      have mt'_1 : t' ∈ h1.1 := by rw [e0_1]; exact mt'9
      have ft'_1 := (e2_1 _ (Ne.symm hN.1.2.1)).trans ft'9
      have mb'_1 : b' ∈ h1.1 := by rw [e0_1]; exact mb'9
      have fb'_1 := (e2_1 _ (Ne.symm hN.1.2.2)).trans fb'9
      refine r_aload_n dX8_carry_71 0 rfl ?_
      refine r_aload_n dX8_carry_72 0 rfl ?_
      refine r_get cl_X8 4 (by decide) kf_X8_26 dX8_carry_73 ma_1 e1_1 rfl ?_
      refine r_aload_n dX8_carry_76 1 rfl ?_
      refine r_get cl_X8 4 (by decide) kf_X8_26 dX8_carry_77 ma'_1 fa'_1 rfl ?_
      refine r_max (kv_X8_carry_62 1 (by decide)) rfl dX8_carry_80 ?_
      refine i_put [.ref t, .ref b, .int (iI ((((putA l (l'.take i) (!du)).1).length : Int))), .int (iI (ex + (ex' - ((putA l (l'.take i) (!du)).2)))), .int (if fo < fo' then fo' else fo), .int (iI wa), .int (iI (b2 du)), .int (iI (b2 se)), .int (iI (b2 co))] cl_X8 4 (by decide) kf_X8_26 rfl dX8_carry_83 ma_1 e1_1 rfl rfl (by simp) rfl (fun h2 e0_2 e1_2 e2_2 => ?_)
      have ma_2 : a ∈ h2.1 := by rw [e0_2]; exact ma_1
      have mt_2 : t ∈ h2.1 := by rw [e0_2]; exact mt_1
      have ft_2 := (e2_2 _ nta).trans ft_1
      have mb_2 : b ∈ h2.1 := by rw [e0_2]; exact mb_1
      have fb_2 := (e2_2 _ nba).trans fb_1
      have ma'_2 : a' ∈ h2.1 := by rw [e0_2]; exact ma'_1
      have fa'_2 := (e2_2 _ (Ne.symm hN.1.1)).trans fa'_1
      have mt'_2 : t' ∈ h2.1 := by rw [e0_2]; exact mt'_1
      have ft'_2 := (e2_2 _ (Ne.symm hN.1.2.1)).trans ft'_1
      have mb'_2 : b' ∈ h2.1 := by rw [e0_2]; exact mb'_1
      have fb'_2 := (e2_2 _ (Ne.symm hN.1.2.2)).trans fb'_1
      refine r_aload_n dX8_carry_86 0 rfl ?_
      refine r_aload_n dX8_carry_87 0 rfl ?_
      refine r_get cl_X8 5 (by decide) kf_X8_29 dX8_carry_88 ma_2 e1_2 rfl ?_
      refine r_aload_n dX8_carry_91 1 rfl ?_
      refine r_get cl_X8 5 (by decide) kf_X8_29 dX8_carry_92 ma'_2 fa'_2 rfl ?_
      refine i_max (kv_X8_carry_62 1 (by decide)) rfl dX8_carry_95 (by unfold in32; omega) (by unfold in32; omega) ?_
      refine i_put [.ref t, .ref b, .int (iI ((((putA l (l'.take i) (!du)).1).length : Int))), .int (iI (ex + (ex' - ((putA l (l'.take i) (!du)).2)))), .int (if fo < fo' then fo' else fo), .int (iI (max wa wa')), .int (iI (b2 du)), .int (iI (b2 se)), .int (iI (b2 co))] cl_X8 5 (by decide) kf_X8_29 rfl dX8_carry_98 ma_2 e1_2 rfl rfl (by simp) rfl (fun h3 e0_3 e1_3 e2_3 => ?_)
      have ma_3 : a ∈ h3.1 := by rw [e0_3]; exact ma_2
      have mt_3 : t ∈ h3.1 := by rw [e0_3]; exact mt_2
      have ft_3 := (e2_3 _ nta).trans ft_2
      have mb_3 : b ∈ h3.1 := by rw [e0_3]; exact mb_2
      have fb_3 := (e2_3 _ nba).trans fb_2
      have ma'_3 : a' ∈ h3.1 := by rw [e0_3]; exact ma'_2
      have fa'_3 := (e2_3 _ (Ne.symm hN.1.1)).trans fa'_2
      have mt'_3 : t' ∈ h3.1 := by rw [e0_3]; exact mt'_2
      have ft'_3 := (e2_3 _ (Ne.symm hN.1.2.1)).trans ft'_2
      have mb'_3 : b' ∈ h3.1 := by rw [e0_3]; exact mb'_2
      have fb'_3 := (e2_3 _ (Ne.symm hN.1.2.2)).trans fb'_2
      refine r_aload_n dX8_carry_101 0 rfl ?_
      refine r_aload_n dX8_carry_102 1 rfl ?_
      refine r_get cl_X8 6 (by decide) kf_X8_32 dX8_carry_103 ma'_3 fa'_3 rfl ?_
      refine i_put [.ref t, .ref b, .int (iI ((((putA l (l'.take i) (!du)).1).length : Int))), .int (iI (ex + (ex' - ((putA l (l'.take i) (!du)).2)))), .int (if fo < fo' then fo' else fo), .int (iI (max wa wa')), .int (iI (b2 du')), .int (iI (b2 se)), .int (iI (b2 co))] cl_X8 6 (by decide) kf_X8_32 rfl dX8_carry_106 ma_3 e1_3 (b2_nar _) (b2_fit _) (by simp) rfl (fun h4 e0_4 e1_4 e2_4 => ?_)
      have ma_4 : a ∈ h4.1 := by rw [e0_4]; exact ma_3
      have mt_4 : t ∈ h4.1 := by rw [e0_4]; exact mt_3
      have ft_4 := (e2_4 _ nta).trans ft_3
      have mb_4 : b ∈ h4.1 := by rw [e0_4]; exact mb_3
      have fb_4 := (e2_4 _ nba).trans fb_3
      have ma'_4 : a' ∈ h4.1 := by rw [e0_4]; exact ma'_3
      have fa'_4 := (e2_4 _ (Ne.symm hN.1.1)).trans fa'_3
      have mt'_4 : t' ∈ h4.1 := by rw [e0_4]; exact mt'_3
      have ft'_4 := (e2_4 _ (Ne.symm hN.1.2.1)).trans ft'_3
      have mb'_4 : b' ∈ h4.1 := by rw [e0_4]; exact mb'_3
      have fb'_4 := (e2_4 _ (Ne.symm hN.1.2.2)).trans fb'_3
      refine r_aload_n dX8_carry_109 0 rfl ?_
      refine i_const (0) dX8_carry_110 ?_
      refine i_put [.ref t, .ref b, .int (iI ((((putA l (l'.take i) (!du)).1).length : Int))), .int (iI (ex + (ex' - ((putA l (l'.take i) (!du)).2)))), .int (if fo < fo' then fo' else fo), .int (iI (max wa wa')), .int (iI (b2 du')), .int (iI 0), .int (iI (b2 co))] cl_X8 7 (by decide) kf_X8_36 rfl dX8_carry_111 ma_4 e1_4 (b2_nar false) (b2_fit false) (by simp) rfl (fun h5 e0_5 e1_5 e2_5 => ?_)
      have ma_5 : a ∈ h5.1 := by rw [e0_5]; exact ma_4
      have mt_5 : t ∈ h5.1 := by rw [e0_5]; exact mt_4
      have ft_5 := (e2_5 _ nta).trans ft_4
      have mb_5 : b ∈ h5.1 := by rw [e0_5]; exact mb_4
      have fb_5 := (e2_5 _ nba).trans fb_4
      have ma'_5 : a' ∈ h5.1 := by rw [e0_5]; exact ma'_4
      have fa'_5 := (e2_5 _ (Ne.symm hN.1.1)).trans fa'_4
      have mt'_5 : t' ∈ h5.1 := by rw [e0_5]; exact mt'_4
      have ft'_5 := (e2_5 _ (Ne.symm hN.1.2.1)).trans ft'_4
      have mb'_5 : b' ∈ h5.1 := by rw [e0_5]; exact mb'_4
      have fb'_5 := (e2_5 _ (Ne.symm hN.1.2.2)).trans fb'_4
      refine r_return rfl dX8_carry_114 ?_
      have ei : l'.take i = l' := by rw [show i = l'.length by omega, take_all]
      have fz : h5.2 a = .inr (5, sf t b (carryS (l, ex, wa, fo, du, se, co) (l', ex', wa', fo', du', se', co'))) := by
        rw [e1_5, ei]
        rfl
      exact ⟨rfl, ⟨gt9, gb9, ⟨ma_5, mt_5, mb_5⟩, ⟨nta, nba, ntb⟩, fz, ft_5, fb_5, hroom, by rw [ei] at hr9; exact hr9⟩, FR.tr hF (FR.tr (FR.tr (FR.tr (FR.tr (FR.wa e0_1 e2_1) (FR.wa e0_2 e2_2)) (FR.wa e0_3 e2_3)) (FR.wa e0_4 e2_4)) (FR.wa e0_5 e2_5))⟩
    · refine r_aload_n dX8_carry_12 0 rfl ?_
      refine r_aload_n dX8_carry_13 1 rfl ?_
      refine r_get cl_X8 1 (by decide) kf_X8_15 dX8_carry_14 ma'9 fa'9 rfl ?_
      refine r_iload_n dX8_carry_17 3 rfl ?_
      refine i_zald i rfl dX8_carry_18 mb'9 fb'9 (by omega) (by decide) (hr' i (by omega)).2 ?_
      refine r_aload_n dX8_carry_19 1 rfl ?_
      refine r_get cl_X8 0 (by decide) kf_X8_9 dX8_carry_20 ma'9 fa'9 rfl ?_
      refine r_iload_n dX8_carry_23 3 rfl ?_
      refine i_iald i rfl dX8_carry_24 mt'9 ft'9 (by omega) (by decide) (hr' i (by omega)).1 ?_
      refine r_iload_n dX8_carry_25 3 rfl ?_
      refine i_ifgt dX8_carry_26 (tgt := 36) (by decide) (by unfold in32; omega) (fun c26 => ?_) (fun c26 => ?_)
      · refine i_const (1) dX8_carry_36 ?_
        refine r_goto dX8_carry_37 (tgt := 41) (by decide) ?_
        have hi9 : i < l'.length := by omega
        have em : (!du && decide (i = 0)) = (!true) := by first | (rw [decide_eq_false (show ¬ i = 0 by omega)]; simp) | (rw [c33]; simp; try omega)
        have es := putA_s (acc := l) (xs := l') (m := !du) hi9
        rw [em] at es
        have er : (putN (putA l (l'.take i) (!du)).1 (l'.getD i 0) (!true)).1.length ≤ 200 := by
          have z := putA_tk l l' (!du) (i + 1)
          rw [es] at z
          exact Nat.le_trans z hroom
        have cP := c_X8_putLayer (x := l'.getD i 0) (ap := true) hT0 (putN_room2 er)
        refine p_callV (As := [.int (iI (b2 (isB (l'.getD i 0)))), .int (iI (sz (l'.getD i 0))), .int (iI 1)]) (b := a) (rest := []) (w := (some (.int (iI (b2 (putN (putA l (l'.take i) (!du)).1 (l'.getD i 0) (!true)).2))))) (st' := [.int (iI (b2 (putN (putA l (l'.take i) (!du)).1 (l'.getD i 0) (!true)).2))]) kv_X8_carry_42 dX8_carry_41 rfl rfl (Nat.le_of_ble_eq_true rfl) (Nat.le_of_ble_eq_true rfl) (x_rv ma9 fa9 rfl) rfl rfl (cP) rfl (fun h9 e9 => ?_)
        obtain ⟨hS9, hF9⟩ := e9
        refine i_ifeqb dX8_carry_44 (tgt := 50) (by decide) (fun c44 => ?_) (fun c44 => ?_)
        · refine i_iinc (ls' := [(0, .ref a), (1, .ref a'), (2, .int (iI ((putA l (l'.take i) (!du)).2))), (3, .int (iI ((i : Int) + 1)))]) (1) (v := (i : Int) + 1) dX8_carry_50 3 rfl (by omega) (by decide) rfl ?_
          refine r_goto dX8_carry_53 (tgt := 4) (by decide) ?_
          have q := ih (i + 1) (by omega) (by omega) h9 (by rw [es]; exact hS9) (FR.tr hF hF9)
          rw [show (putA l (l'.take (i + 1)) (!du)).2 = (putA l (l'.take i) (!du)).2 by rw [es]; show _ + b2 (putN _ _ _).2 = _; rw [c44]; exact Int.add_zero _] at q
          exact q
        · refine i_iinc (ls' := [(0, .ref a), (1, .ref a'), (2, .int (iI (((putA l (l'.take i) (!du)).2) + 1))), (3, .int (iI ((i : Int))))]) (1) (v := ((putA l (l'.take i) (!du)).2) + 1) dX8_carry_47 2 rfl (by omega) (by decide) rfl ?_
          refine i_iinc (ls' := [(0, .ref a), (1, .ref a'), (2, .int (iI (((putA l (l'.take i) (!du)).2) + 1))), (3, .int (iI ((i : Int) + 1)))]) (1) (v := (i : Int) + 1) dX8_carry_50 3 rfl (by omega) (by decide) rfl ?_
          refine r_goto dX8_carry_53 (tgt := 4) (by decide) ?_
          have q := ih (i + 1) (by omega) (by omega) h9 (by rw [es]; exact hS9) (FR.tr hF hF9)
          rw [show (putA l (l'.take (i + 1)) (!du)).2 = (putA l (l'.take i) (!du)).2 + 1 by rw [es]; show _ + b2 (putN _ _ _).2 = _; rw [c44]; rfl] at q
          exact q
      · refine r_aload_n dX8_carry_29 0 rfl ?_
        refine r_get cl_X8 6 (by decide) kf_X8_32 dX8_carry_30 ma9 fa9 rfl ?_
        refine i_ifeqb dX8_carry_33 (tgt := 40) (by decide) (fun c33 => ?_) (fun c33 => ?_)
        · refine i_const (0) dX8_carry_40 ?_
          have hi9 : i < l'.length := by omega
          have em : (!du && decide (i = 0)) = (!false) := by first | (rw [decide_eq_false (show ¬ i = 0 by omega)]; simp) | (rw [c33]; simp; try omega)
          have es := putA_s (acc := l) (xs := l') (m := !du) hi9
          rw [em] at es
          have er : (putN (putA l (l'.take i) (!du)).1 (l'.getD i 0) (!false)).1.length ≤ 200 := by
            have z := putA_tk l l' (!du) (i + 1)
            rw [es] at z
            exact Nat.le_trans z hroom
          have cP := c_X8_putLayer (x := l'.getD i 0) (ap := false) hT0 (putN_room2 er)
          refine p_callV (As := [.int (iI (b2 (isB (l'.getD i 0)))), .int (iI (sz (l'.getD i 0))), .int (iI 0)]) (b := a) (rest := []) (w := (some (.int (iI (b2 (putN (putA l (l'.take i) (!du)).1 (l'.getD i 0) (!false)).2))))) (st' := [.int (iI (b2 (putN (putA l (l'.take i) (!du)).1 (l'.getD i 0) (!false)).2))]) kv_X8_carry_42 dX8_carry_41 rfl rfl (Nat.le_of_ble_eq_true rfl) (Nat.le_of_ble_eq_true rfl) (x_rv ma9 fa9 rfl) rfl rfl (cP) rfl (fun h9 e9 => ?_)
          obtain ⟨hS9, hF9⟩ := e9
          refine i_ifeqb dX8_carry_44 (tgt := 50) (by decide) (fun c44 => ?_) (fun c44 => ?_)
          · refine i_iinc (ls' := [(0, .ref a), (1, .ref a'), (2, .int (iI ((putA l (l'.take i) (!du)).2))), (3, .int (iI ((i : Int) + 1)))]) (1) (v := (i : Int) + 1) dX8_carry_50 3 rfl (by omega) (by decide) rfl ?_
            refine r_goto dX8_carry_53 (tgt := 4) (by decide) ?_
            have q := ih (i + 1) (by omega) (by omega) h9 (by rw [es]; exact hS9) (FR.tr hF hF9)
            rw [show (putA l (l'.take (i + 1)) (!du)).2 = (putA l (l'.take i) (!du)).2 by rw [es]; show _ + b2 (putN _ _ _).2 = _; rw [c44]; exact Int.add_zero _] at q
            exact q
          · refine i_iinc (ls' := [(0, .ref a), (1, .ref a'), (2, .int (iI (((putA l (l'.take i) (!du)).2) + 1))), (3, .int (iI ((i : Int))))]) (1) (v := ((putA l (l'.take i) (!du)).2) + 1) dX8_carry_47 2 rfl (by omega) (by decide) rfl ?_
            refine i_iinc (ls' := [(0, .ref a), (1, .ref a'), (2, .int (iI (((putA l (l'.take i) (!du)).2) + 1))), (3, .int (iI ((i : Int) + 1)))]) (1) (v := (i : Int) + 1) dX8_carry_50 3 rfl (by omega) (by decide) rfl ?_
            refine r_goto dX8_carry_53 (tgt := 4) (by decide) ?_
            have q := ih (i + 1) (by omega) (by omega) h9 (by rw [es]; exact hS9) (FR.tr hF hF9)
            rw [show (putA l (l'.take (i + 1)) (!du)).2 = (putA l (l'.take i) (!du)).2 + 1 by rw [es]; show _ + b2 (putN _ _ _).2 = _; rw [c44]; rfl] at q
            exact q
        · refine i_const (1) dX8_carry_36 ?_
          refine r_goto dX8_carry_37 (tgt := 41) (by decide) ?_
          have hi9 : i < l'.length := by omega
          have em : (!du && decide (i = 0)) = (!true) := by first | (rw [decide_eq_false (show ¬ i = 0 by omega)]; simp) | (rw [c33]; simp; try omega)
          have es := putA_s (acc := l) (xs := l') (m := !du) hi9
          rw [em] at es
          have er : (putN (putA l (l'.take i) (!du)).1 (l'.getD i 0) (!true)).1.length ≤ 200 := by
            have z := putA_tk l l' (!du) (i + 1)
            rw [es] at z
            exact Nat.le_trans z hroom
          have cP := c_X8_putLayer (x := l'.getD i 0) (ap := true) hT0 (putN_room2 er)
          refine p_callV (As := [.int (iI (b2 (isB (l'.getD i 0)))), .int (iI (sz (l'.getD i 0))), .int (iI 1)]) (b := a) (rest := []) (w := (some (.int (iI (b2 (putN (putA l (l'.take i) (!du)).1 (l'.getD i 0) (!true)).2))))) (st' := [.int (iI (b2 (putN (putA l (l'.take i) (!du)).1 (l'.getD i 0) (!true)).2))]) kv_X8_carry_42 dX8_carry_41 rfl rfl (Nat.le_of_ble_eq_true rfl) (Nat.le_of_ble_eq_true rfl) (x_rv ma9 fa9 rfl) rfl rfl (cP) rfl (fun h9 e9 => ?_)
          obtain ⟨hS9, hF9⟩ := e9
          refine i_ifeqb dX8_carry_44 (tgt := 50) (by decide) (fun c44 => ?_) (fun c44 => ?_)
          · refine i_iinc (ls' := [(0, .ref a), (1, .ref a'), (2, .int (iI ((putA l (l'.take i) (!du)).2))), (3, .int (iI ((i : Int) + 1)))]) (1) (v := (i : Int) + 1) dX8_carry_50 3 rfl (by omega) (by decide) rfl ?_
            refine r_goto dX8_carry_53 (tgt := 4) (by decide) ?_
            have q := ih (i + 1) (by omega) (by omega) h9 (by rw [es]; exact hS9) (FR.tr hF hF9)
            rw [show (putA l (l'.take (i + 1)) (!du)).2 = (putA l (l'.take i) (!du)).2 by rw [es]; show _ + b2 (putN _ _ _).2 = _; rw [c44]; exact Int.add_zero _] at q
            exact q
          · refine i_iinc (ls' := [(0, .ref a), (1, .ref a'), (2, .int (iI (((putA l (l'.take i) (!du)).2) + 1))), (3, .int (iI ((i : Int))))]) (1) (v := ((putA l (l'.take i) (!du)).2) + 1) dX8_carry_47 2 rfl (by omega) (by decide) rfl ?_
            refine i_iinc (ls' := [(0, .ref a), (1, .ref a'), (2, .int (iI (((putA l (l'.take i) (!du)).2) + 1))), (3, .int (iI ((i : Int) + 1)))]) (1) (v := (i : Int) + 1) dX8_carry_50 3 rfl (by omega) (by decide) rfl ?_
            refine r_goto dX8_carry_53 (tgt := 4) (by decide) ?_
            have q := ih (i + 1) (by omega) (by omega) h9 (by rw [es]; exact hS9) (FR.tr hF hF9)
            rw [show (putA l (l'.take (i + 1)) (!du)).2 = (putA l (l'.take i) (!du)).2 + 1 by rw [es]; show _ + b2 (putN _ _ _).2 = _; rw [c44]; rfl] at q
            exact q
  show RR G MX8_carry 0 [(0, .ref a), (1, .ref a')] [] h (xm_R MX8_carry).cells (xm_R MX8_carry).slots (fun o h' => o = .inl none ∧ SH G h' a t b (carryS (l, ex, wa, fo, du, se, co) (l', ex', wa', fo', du', se', co')) ∧ FR a t b h h')
  refine i_const (0) dX8_carry_0 ?_
  refine r_istore_n (ls' := [(0, .ref a), (1, .ref a'), (2, .int (iI 0))]) dX8_carry_1 (by decide) rfl ?_
  refine i_const (0) dX8_carry_2 ?_
  refine r_istore_n (ls' := [(0, .ref a), (1, .ref a'), (2, .int (iI 0)), (3, .int (iI 0))]) dX8_carry_3 (by decide) rfl ?_
  have hS1 : SH G h a t b ((putA l (l'.take 0) (!du)).1, ex, wa, fo, du, se, co) := hS0
  exact L 0 (by omega) h hS1 FR.rf
