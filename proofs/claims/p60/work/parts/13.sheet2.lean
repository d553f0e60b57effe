/-! ===== the sheet's changes, and what they rest on ===== -/
/-- nothing but the sheet's three cells has changed -/
def FR (a t b : Nat) (h h' : xH) : Prop := h'.1 = h.1 ∧ ∀ q, q ≠ a → q ≠ t → q ≠ b → h'.2 q = h.2 q
theorem FR.rf {a t b : Nat} {h : xH} : FR a t b h h := ⟨rfl, fun _ _ _ _ => rfl⟩
theorem FR.tr {a t b : Nat} {h h1 h2 : xH} (x : FR a t b h h1) (y : FR a t b h1 h2) : FR a t b h h2 := ⟨y.1.trans x.1, fun q q1 q2 q3 => (y.2 q q1 q2 q3).trans (x.2 q q1 q2 q3)⟩
theorem FR.wa {a t b : Nat} {h h' : xH} (e0 : h'.1 = h.1) (e2 : ∀ q, q ≠ a → h'.2 q = h.2 q) : FR a t b h h' := ⟨e0, fun q q1 _ _ => e2 q q1⟩
theorem FR.wt {a t b : Nat} {h h' : xH} (e0 : h'.1 = h.1) (e2 : ∀ q, q ≠ t → h'.2 q = h.2 q) : FR a t b h h' := ⟨e0, fun q _ q2 _ => e2 q q2⟩
theorem FR.wb {a t b : Nat} {h h' : xH} (e0 : h'.1 = h.1) (e2 : ∀ q, q ≠ b → h'.2 q = h.2 q) : FR a t b h h' := ⟨e0, fun q _ _ q3 => e2 q q3⟩
theorem SH.fr {G : xG} {h h' : xH} {a t b a2 t2 b2 : Nat} {s : AS} (hS : SH G h a t b s) (hF : FR a2 t2 b2 h h') (n1 : a ≠ a2 ∧ a ≠ t2 ∧ a ≠ b2) (n2 : t ≠ a2 ∧ t ≠ t2 ∧ t ≠ b2) (n3 : b ≠ a2 ∧ b ≠ t2 ∧ b ≠ b2) : SH G h' a t b s := by
  obtain ⟨gt, gb, ⟨ma, mt, mb⟩, nn, fa, ft, fb, hl, hr⟩ := hS
  exact ⟨gt, gb, ⟨by rw [hF.1]; exact ma, by rw [hF.1]; exact mt, by rw [hF.1]; exact mb⟩, nn, (hF.2 a n1.1 n1.2.1 n1.2.2).trans fa, (hF.2 t n2.1 n2.2.1 n2.2.2).trans ft, (hF.2 b n3.1 n3.2.1 n3.2.2).trans fb, hl, hr⟩
/-- the last layer, of a stack that has one -/
def lastL (l : List Int) : Int := l.getD (l.length - 1) 0
def joinsL (l : List Int) (x : Int) : Bool := decide (0 < l.length) && (isB (lastL l) == isB x)
/-- a layer is put on: joined with the top one, where they meet and are of one kind -/
def putN (l : List Int) (x : Int) (meets : Bool) : List Int × Bool := if meets && joinsL l x then (l.set (l.length - 1) (lastL l + x), true) else (l ++ [x], false)
theorem joins_t {l : List Int} {x : Int} (h : joinsL l x = true) : 0 < l.length ∧ isB (lastL l) = isB x := by
  simp only [joinsL, Bool.and_eq_true, decide_eq_true_eq, beq_iff_eq] at h
  exact h
theorem b2_eq {x y : Bool} (h : b2 x = b2 y) : x = y := by cases x <;> cases y <;> first | rfl | exact absurd h (by decide)
theorem b2_ne {x y : Bool} (h : b2 x ≠ b2 y) : x ≠ y := fun e => h (by rw [e])
theorem sz_add {x y : Int} (h : isB x = isB y) : sz (x + y) = sz x + sz y := by
  unfold isB at h
  unfold sz
  by_cases a : x < 0 <;> by_cases b : y < 0 <;> simp only [a, b, decide_true, decide_false] at h
  · rw [if_pos a, if_pos b, if_pos (by omega)]; omega
  · cases h
  · cases h
  · rw [if_neg a, if_neg b, if_neg (by omega)]
theorem isB_add {x y : Int} (h : isB x = isB y) : isB (x + y) = isB x := by
  unfold isB at h ⊢
  by_cases a : x < 0 <;> by_cases b : y < 0 <;> simp only [a, b, decide_true, decide_false] at h ⊢
  · exact decide_eq_true (by omega)
  · cases h
  · cases h
  · exact decide_eq_false (by omega)
theorem sr_push {gt gb : Nat → Int32} {l : List Int} {x : Int} (h : sr gt gb l) : sr (upd gt l.length (iI (sz x))) (upd gb l.length (iI (b2 (isB x)))) (l ++ [x]) := by
  intro k hk
  rw [List.length_append, List.length_singleton] at hk
  by_cases e : k = l.length
  · subst e
    simp [upd]
  · have hk2 : k < l.length := by omega
    obtain ⟨h1, h2⟩ := h k hk2
    have e3 : (l ++ [x]).getD k 0 = l.getD k 0 := by rw [List.getD_eq_getElem?_getD, List.getElem?_append_left hk2, ← List.getD_eq_getElem?_getD]
    rw [e3]
    simp only [upd, if_neg e]
    exact ⟨h1, h2⟩
theorem sr_top {gt gb : Nat → Int32} {l : List Int} {y : Int} (h : sr gt gb l) (h0 : 0 < l.length) (hb : isB y = isB (lastL l)) : sr (upd gt (l.length - 1) (iI (sz y))) gb (l.set (l.length - 1) y) := by
  intro k hk
  rw [List.length_set] at hk
  obtain ⟨h1, h2⟩ := h k hk
  by_cases e : k = l.length - 1
  · subst e
    have e3 : (l.set (l.length - 1) y).getD (l.length - 1) 0 = y := by simp [hk]
    rw [e3, hb]
    refine ⟨by simp [upd], ?_⟩
    exact h2
  · have e3 : (l.set (l.length - 1) y).getD k 0 = l.getD k 0 := by simp [List.getElem?_set, Ne.symm e]
    rw [e3]
    simp only [upd, if_neg e]
    exact ⟨h1, h2⟩
set_option maxRecDepth 20000 in
set_option maxHeartbeats 1000000 in
theorem c_X8_wouldJoin {G : xG} {h : xH} {a t b : Nat} {s : AS} (hS : SH G h a t b s) {x : Int} : CC G MX8_wouldJoin [.ref a, .int (iI (b2 (isB x)))] h (qI (b2 (joinsL s.1 x)) h) := by
  obtain ⟨l, ex, wa, fo, du, se, co⟩ := s
  have hS0 := hS
  obtain ⟨gt, gb, ⟨ma, mt, mb⟩, ⟨nta, nba, ntb⟩, fa, ft, fb, hl, hr⟩ := hS
  have hl : l.length ≤ 200 := hl
  have hr : sr gt gb l := hr
  have fa : h.2 a = .inr (5, [.ref t, .ref b, .int (iI (l.length : Int)), .int (iI ex), .int fo, .int (iI wa), .int (iI (b2 du)), .int (iI (b2 se)), .int (iI (b2 co))]) := fa
  show RR G MX8_wouldJoin 0 [(0, .ref a), (1, .int (iI (b2 (isB x))))] [] h (xm_R MX8_wouldJoin).cells (xm_R MX8_wouldJoin).slots (qI (b2 (joinsL l x)) h)
  show RR G MX8_wouldJoin 0 [(0, .ref a), (1, .int (iI (b2 (isB x))))] [] h (xm_R MX8_wouldJoin).cells (xm_R MX8_wouldJoin).slots (qI (b2 (joinsL l x)) h)
  refine r_aload_n dX8_wouldJoin_0 0 rfl ?_
  refine r_get cl_X8 2 (by decide) kf_X8_19 dX8_wouldJoin_1 ma fa rfl ?_
  refine i_ifle dX8_wouldJoin_4 (tgt := 26) (by decide) (by unfold in32; omega) (fun c4 => ?_) (fun c4 => ?_)
  · refine i_const (0) dX8_wouldJoin_26 ?_
    refine r_ireturn rfl (b2_nar false) dX8_wouldJoin_27 ?_
    have e : joinsL l x = false := by simp only [joinsL]; rw [decide_eq_false (show ¬ 0 < l.length by omega)]; rfl
    rw [e]
    exact ⟨rfl, rfl⟩
  · refine r_aload_n dX8_wouldJoin_7 0 rfl ?_
    refine r_get cl_X8 1 (by decide) kf_X8_15 dX8_wouldJoin_8 ma fa rfl ?_
    refine r_aload_n dX8_wouldJoin_11 0 rfl ?_
    refine r_get cl_X8 2 (by decide) kf_X8_19 dX8_wouldJoin_12 ma fa rfl ?_
    refine i_const (1) dX8_wouldJoin_15 ?_
    refine i_sub dX8_wouldJoin_16 ?_
    refine i_zald (l.length - 1) (by omega) dX8_wouldJoin_17 mb fb (by omega) (by decide) (hr (l.length - 1) (by omega)).2 ?_
    refine r_iload_n dX8_wouldJoin_18 1 rfl ?_
    refine i_icmpne dX8_wouldJoin_19 (tgt := 26) (by decide) (in32_b2 _) (in32_b2 _) (fun c19 => ?_) (fun c19 => ?_)
    · refine i_const (0) dX8_wouldJoin_26 ?_
      refine r_ireturn rfl (b2_nar false) dX8_wouldJoin_27 ?_
      have e : joinsL l x = false := by
        have z := b2_ne c19
        simp only [joinsL, lastL]
        rw [decide_eq_true (show 0 < l.length by omega), Bool.true_and]
        exact beq_false_of_ne z
      rw [e]
      exact ⟨rfl, rfl⟩
    · refine i_const (1) dX8_wouldJoin_22 ?_
      refine r_goto dX8_wouldJoin_23 (tgt := 27) (by decide) ?_
      refine r_ireturn rfl (b2_nar true) dX8_wouldJoin_27 ?_
      have e : joinsL l x = true := by simp only [joinsL, lastL]; rw [decide_eq_true (show 0 < l.length by omega), b2_eq c19]; simp
      rw [e]
      exact ⟨rfl, rfl⟩
set_option maxRecDepth 20000 in
set_option maxHeartbeats 1000000 in
theorem c_X8_begin {G : xG} {h : xH} {a t b : Nat} {s : AS} (hS : SH G h a t b s) {T : Int} : CC G MX8_begin [.ref a, .int (iI T)] h (fun o h' => o = .inl none ∧ SH G h' a t b ([], 0, T, iI 0, false, false, false) ∧ FR a t b h h') := by
  obtain ⟨l, ex, wa, fo, du, se, co⟩ := s
  have hS0 := hS
  obtain ⟨gt, gb, ⟨ma, mt, mb⟩, ⟨nta, nba, ntb⟩, fa, ft, fb, hl, hr⟩ := hS
  have hl : l.length ≤ 200 := hl
  have hr : sr gt gb l := hr
  have fa : h.2 a = .inr (5, [.ref t, .ref b, .int (iI (l.length : Int)), .int (iI ex), .int fo, .int (iI wa), .int (iI (b2 du)), .int (iI (b2 se)), .int (iI (b2 co))]) := fa
  show RR G MX8_begin 0 [(0, .ref a), (1, .int (iI T))] [] h (xm_R MX8_begin).cells (xm_R MX8_begin).slots (fun o h' => o = .inl none ∧ SH G h' a t b ([], 0, T, iI 0, false, false, false) ∧ FR a t b h h')
  refine r_aload_n dX8_begin_0 0 rfl ?_
  refine i_const (0) dX8_begin_1 ?_
  refine i_put [.ref t, .ref b, .int (iI 0), .int (iI ex), .int fo, .int (iI wa), .int (iI (b2 du)), .int (iI (b2 se)), .int (iI (b2 co))] cl_X8 2 (by decide) kf_X8_19 rfl dX8_begin_2 ma fa rfl rfl (by simp) rfl (fun h1 e0_1 e1_1 e2_1 => ?_)
  have ma_1 : a ∈ h1.1 := by rw [e0_1]; exact ma
  have mt_1 : t ∈ h1.1 := by rw [e0_1]; exact mt
  have ft_1 := (e2_1 _ nta).trans ft
  have mb_1 : b ∈ h1.1 := by rw [e0_1]; exact mb
  have fb_1 := (e2_1 _ nba).trans fb
  refine r_aload_n dX8_begin_5 0 rfl ?_
  refine i_const (0) dX8_begin_6 ?_
  refine i_put [.ref t, .ref b, .int (iI 0), .int (iI 0), .int fo, .int (iI wa), .int (iI (b2 du)), .int (iI (b2 se)), .int (iI (b2 co))] cl_X8 3 (by decide) kf_X8_23 rfl dX8_begin_7 ma_1 e1_1 rfl rfl (by simp) rfl (fun h2 e0_2 e1_2 e2_2 => ?_)
  have ma_2 : a ∈ h2.1 := by rw [e0_2]; exact ma_1
  have mt_2 : t ∈ h2.1 := by rw [e0_2]; exact mt_1
  have ft_2 := (e2_2 _ nta).trans ft_1
  have mb_2 : b ∈ h2.1 := by rw [e0_2]; exact mb_1
  have fb_2 := (e2_2 _ nba).trans fb_1
  refine r_aload_n dX8_begin_10 0 rfl ?_
  refine i_const (0) dX8_begin_11 ?_
  refine i_put [.ref t, .ref b, .int (iI 0), .int (iI 0), .int (iI 0), .int (iI wa), .int (iI (b2 du)), .int (iI (b2 se)), .int (iI (b2 co))] cl_X8 4 (by decide) kf_X8_26 rfl dX8_begin_12 ma_2 e1_2 rfl rfl (by simp) rfl (fun h3 e0_3 e1_3 e2_3 => ?_)
  have ma_3 : a ∈ h3.1 := by rw [e0_3]; exact ma_2
  have mt_3 : t ∈ h3.1 := by rw [e0_3]; exact mt_2
  have ft_3 := (e2_3 _ nta).trans ft_2
  have mb_3 : b ∈ h3.1 := by rw [e0_3]; exact mb_2
  have fb_3 := (e2_3 _ nba).trans fb_2
  refine r_aload_n dX8_begin_15 0 rfl ?_
  refine r_iload_n dX8_begin_16 1 rfl ?_
  refine i_put [.ref t, .ref b, .int (iI 0), .int (iI 0), .int (iI 0), .int (iI T), .int (iI (b2 du)), .int (iI (b2 se)), .int (iI (b2 co))] cl_X8 5 (by decide) kf_X8_29 rfl dX8_begin_17 ma_3 e1_3 rfl rfl (by simp) rfl (fun h4 e0_4 e1_4 e2_4 => ?_)
  have ma_4 : a ∈ h4.1 := by rw [e0_4]; exact ma_3
  have mt_4 : t ∈ h4.1 := by rw [e0_4]; exact mt_3
  have ft_4 := (e2_4 _ nta).trans ft_3
  have mb_4 : b ∈ h4.1 := by rw [e0_4]; exact mb_3
  have fb_4 := (e2_4 _ nba).trans fb_3
  refine r_aload_n dX8_begin_20 0 rfl ?_
  refine i_const (0) dX8_begin_21 ?_
  refine i_put [.ref t, .ref b, .int (iI 0), .int (iI 0), .int (iI 0), .int (iI T), .int (iI 0), .int (iI (b2 se)), .int (iI (b2 co))] cl_X8 6 (by decide) kf_X8_32 rfl dX8_begin_22 ma_4 e1_4 (b2_nar false) (b2_fit false) (by simp) rfl (fun h5 e0_5 e1_5 e2_5 => ?_)
  have ma_5 : a ∈ h5.1 := by rw [e0_5]; exact ma_4
  have mt_5 : t ∈ h5.1 := by rw [e0_5]; exact mt_4
  have ft_5 := (e2_5 _ nta).trans ft_4
  have mb_5 : b ∈ h5.1 := by rw [e0_5]; exact mb_4
  have fb_5 := (e2_5 _ nba).trans fb_4
  refine r_aload_n dX8_begin_25 0 rfl ?_
  refine i_const (0) dX8_begin_26 ?_
  refine i_put [.ref t, .ref b, .int (iI 0), .int (iI 0), .int (iI 0), .int (iI T), .int (iI 0), .int (iI 0), .int (iI (b2 co))] cl_X8 7 (by decide) kf_X8_36 rfl dX8_begin_27 ma_5 e1_5 (b2_nar false) (b2_fit false) (by simp) rfl (fun h6 e0_6 e1_6 e2_6 => ?_)
  have ma_6 : a ∈ h6.1 := by rw [e0_6]; exact ma_5
  have mt_6 : t ∈ h6.1 := by rw [e0_6]; exact mt_5
  have ft_6 := (e2_6 _ nta).trans ft_5
  have mb_6 : b ∈ h6.1 := by rw [e0_6]; exact mb_5
  have fb_6 := (e2_6 _ nba).trans fb_5
  refine r_aload_n dX8_begin_30 0 rfl ?_
  refine i_const (0) dX8_begin_31 ?_
  refine i_put [.ref t, .ref b, .int (iI 0), .int (iI 0), .int (iI 0), .int (iI T), .int (iI 0), .int (iI 0), .int (iI 0)] cl_X8 8 (by decide) kf_X8_39 rfl dX8_begin_32 ma_6 e1_6 (b2_nar false) (b2_fit false) (by simp) rfl (fun h7 e0_7 e1_7 e2_7 => ?_)
  have ma_7 : a ∈ h7.1 := by rw [e0_7]; exact ma_6
  have mt_7 : t ∈ h7.1 := by rw [e0_7]; exact mt_6
  have ft_7 := (e2_7 _ nta).trans ft_6
  have mb_7 : b ∈ h7.1 := by rw [e0_7]; exact mb_6
  have fb_7 := (e2_7 _ nba).trans fb_6
  refine r_return rfl dX8_begin_35 ?_
  refine ⟨rfl, ⟨gt, gb, ⟨ma_7, mt_7, mb_7⟩, ⟨nta, nba, ntb⟩, e1_7, ft_7, fb_7, Nat.zero_le _, (fun k hk => absurd hk (Nat.not_lt_zero k))⟩, (FR.tr (FR.tr (FR.tr (FR.tr (FR.tr (FR.tr (FR.wa e0_1 e2_1) (FR.wa e0_2 e2_2)) (FR.wa e0_3 e2_3)) (FR.wa e0_4 e2_4)) (FR.wa e0_5 e2_5)) (FR.wa e0_6 e2_6)) (FR.wa e0_7 e2_7))⟩
set_option maxRecDepth 20000 in
set_option maxHeartbeats 1000000 in
theorem c_X8_putLayer {G : xG} {h : xH} {a t b : Nat} {s : AS} (hS : SH G h a t b s) {x : Int} {ap : Bool} (hroom : s.1.length < 200 ∨ (ap = false ∧ joinsL s.1 x = true)) : CC G MX8_putLayer [.ref a, .int (iI (b2 (isB x))), .int (iI (sz x)), .int (iI (b2 ap))] h (fun o h' => o = .inl (some (.int (iI (b2 (putN s.1 x (!ap)).2)))) ∧ SH G h' a t b ((putN s.1 x (!ap)).1, s.2.1, s.2.2.1, s.2.2.2.1, s.2.2.2.2.1, s.2.2.2.2.2.1, s.2.2.2.2.2.2) ∧ FR a t b h h') := by
  obtain ⟨l, ex, wa, fo, du, se, co⟩ := s
  have hS0 := hS
  obtain ⟨gt, gb, ⟨ma, mt, mb⟩, ⟨nta, nba, ntb⟩, fa, ft, fb, hl, hr⟩ := hS
  have hl : l.length ≤ 200 := hl
  have hr : sr gt gb l := hr
  have fa : h.2 a = .inr (5, [.ref t, .ref b, .int (iI (l.length : Int)), .int (iI ex), .int fo, .int (iI wa), .int (iI (b2 du)), .int (iI (b2 se)), .int (iI (b2 co))]) := fa
  show RR G MX8_putLayer 0 [(0, .ref a), (1, .int (iI (b2 (isB x)))), (2, .int (iI (sz x))), (3, .int (iI (b2 ap)))] [] h (xm_R MX8_putLayer).cells (xm_R MX8_putLayer).slots (fun o h' => o = .inl (some (.int (iI (b2 (putN l x (!ap)).2)))) ∧ SH G h' a t b ((putN l x (!ap)).1, ex, wa, fo, du, se, co) ∧ FR a t b h h')
  refine r_iload_n dX8_putLayer_0 3 rfl ?_
  refine i_ifneb dX8_putLayer_1 (tgt := 29) (by decide) (fun c1 => ?_) (fun c1 => ?_)
  · refine r_aload_n dX8_putLayer_29 0 rfl ?_
    refine r_get cl_X8 2 (by decide) kf_X8_19 dX8_putLayer_30 ma fa rfl ?_
    refine i_sipush (200) (by decide) dX8_putLayer_33 ?_
    refine i_icmpge dX8_putLayer_36 (tgt := 69) (by decide) (by unfold in32; omega) ⟨by decide, by decide⟩ (fun c36 => ?_) (fun c36 => ?_)
    · refine i_const (0) dX8_putLayer_69 ?_
      refine r_ireturn rfl (b2_nar false) dX8_putLayer_70 ?_
      exfalso
      rcases hroom with r | ⟨r1, r2⟩
      · have r : l.length < 200 := r
        omega
      · simp_all
    · refine r_aload_n dX8_putLayer_39 0 rfl ?_
      refine r_get cl_X8 0 (by decide) kf_X8_9 dX8_putLayer_40 ma fa rfl ?_
      refine r_aload_n dX8_putLayer_43 0 rfl ?_
      refine r_get cl_X8 2 (by decide) kf_X8_19 dX8_putLayer_44 ma fa rfl ?_
      refine r_iload_n dX8_putLayer_47 2 rfl ?_
      refine i_iast l.length rfl dX8_putLayer_48 mt ft (by omega) (by decide) (fun h1 e0_1 e1_1 e2_1 => ?_)
      have ma_1 : a ∈ h1.1 := by rw [e0_1]; exact ma
      have fa_1 := (e2_1 _ (Ne.symm nta)).trans fa
      have mt_1 : t ∈ h1.1 := by rw [e0_1]; exact mt
      have mb_1 : b ∈ h1.1 := by rw [e0_1]; exact mb
      have fb_1 := (e2_1 _ (Ne.symm ntb)).trans fb
      refine r_aload_n dX8_putLayer_49 0 rfl ?_
      refine r_get cl_X8 1 (by decide) kf_X8_15 dX8_putLayer_50 ma_1 fa_1 rfl ?_
      refine r_aload_n dX8_putLayer_53 0 rfl ?_
      refine r_get cl_X8 2 (by decide) kf_X8_19 dX8_putLayer_54 ma_1 fa_1 rfl ?_
      refine r_iload_n dX8_putLayer_57 1 rfl ?_
      refine i_zast l.length rfl dX8_putLayer_58 mb_1 fb_1 (by omega) (by decide) (b2_vp _) (fun h2 e0_2 e1_2 e2_2 => ?_)
      have ma_2 : a ∈ h2.1 := by rw [e0_2]; exact ma_1
      have fa_2 := (e2_2 _ (Ne.symm nba)).trans fa_1
      have mt_2 : t ∈ h2.1 := by rw [e0_2]; exact mt_1
      have ft_2 := (e2_2 _ ntb).trans e1_1
      have mb_2 : b ∈ h2.1 := by rw [e0_2]; exact mb_1
      refine r_aload_n dX8_putLayer_59 0 rfl ?_
      refine r_dup dX8_putLayer_60 rfl ?_
      refine r_get cl_X8 2 (by decide) kf_X8_19 dX8_putLayer_61 ma_2 fa_2 rfl ?_
      refine i_const (1) dX8_putLayer_64 ?_
      refine i_add dX8_putLayer_65 ?_
      refine i_put [.ref t, .ref b, .int (iI ((l.length : Int) + 1)), .int (iI ex), .int fo, .int (iI wa), .int (iI (b2 du)), .int (iI (b2 se)), .int (iI (b2 co))] cl_X8 2 (by decide) kf_X8_19 rfl dX8_putLayer_66 ma_2 fa_2 rfl rfl (by simp) rfl (fun h3 e0_3 e1_3 e2_3 => ?_)
      have ma_3 : a ∈ h3.1 := by rw [e0_3]; exact ma_2
      have mt_3 : t ∈ h3.1 := by rw [e0_3]; exact mt_2
      have ft_3 := (e2_3 _ nta).trans ft_2
      have mb_3 : b ∈ h3.1 := by rw [e0_3]; exact mb_2
      have fb_3 := (e2_3 _ nba).trans e1_2
      refine i_const (0) dX8_putLayer_69 ?_
      refine r_ireturn rfl (b2_nar false) dX8_putLayer_70 ?_
      have e : putN l x (!ap) = (l ++ [x], false) := by simp [putN, *]
      rw [e]
      have fz : h3.2 a = .inr (5, sf t b (l ++ [x], ex, wa, fo, du, se, co)) := by rw [e1_3]; simp only [sf, List.length_append, List.length_singleton, Int.natCast_add]; rfl
      refine ⟨rfl, ⟨_, _, ⟨ma_3, mt_3, mb_3⟩, ⟨nta, nba, ntb⟩, fz, ft_3, fb_3, by rw [List.length_append, List.length_singleton]; omega, sr_push hr⟩, (FR.tr (FR.tr (FR.wt e0_1 e2_1) (FR.wb e0_2 e2_2)) (FR.wa e0_3 e2_3))⟩
  · refine r_aload_n dX8_putLayer_4 0 rfl ?_
    refine r_iload_n dX8_putLayer_5 1 rfl ?_
    refine p_callV (As := [.int (iI (b2 (isB x)))]) (b := a) (rest := []) (w := (some (.int (iI (b2 (joinsL l x)))))) (st' := [.int (iI (b2 (joinsL l x)))]) kv_X8_putLayer_46 dX8_putLayer_6 rfl rfl (Nat.le_of_ble_eq_true rfl) (Nat.le_of_ble_eq_true rfl) (x_rv ma fa rfl) rfl rfl (c_X8_wouldJoin (x := x) hS0) rfl (fun h9 e9 => ?_)
    subst e9
    refine i_ifeqb dX8_putLayer_9 (tgt := 29) (by decide) (fun c9 => ?_) (fun c9 => ?_)
    · refine r_aload_n dX8_putLayer_29 0 rfl ?_
      refine r_get cl_X8 2 (by decide) kf_X8_19 dX8_putLayer_30 ma fa rfl ?_
      refine i_sipush (200) (by decide) dX8_putLayer_33 ?_
      refine i_icmpge dX8_putLayer_36 (tgt := 69) (by decide) (by unfold in32; omega) ⟨by decide, by decide⟩ (fun c36 => ?_) (fun c36 => ?_)
      · refine i_const (0) dX8_putLayer_69 ?_
        refine r_ireturn rfl (b2_nar false) dX8_putLayer_70 ?_
        exfalso
        rcases hroom with r | ⟨r1, r2⟩
        · have r : l.length < 200 := r
          omega
        · simp_all
      · refine r_aload_n dX8_putLayer_39 0 rfl ?_
        refine r_get cl_X8 0 (by decide) kf_X8_9 dX8_putLayer_40 ma fa rfl ?_
        refine r_aload_n dX8_putLayer_43 0 rfl ?_
        refine r_get cl_X8 2 (by decide) kf_X8_19 dX8_putLayer_44 ma fa rfl ?_
        refine r_iload_n dX8_putLayer_47 2 rfl ?_
        refine i_iast l.length rfl dX8_putLayer_48 mt ft (by omega) (by decide) (fun h4 e0_4 e1_4 e2_4 => ?_)
        have ma_4 : a ∈ h4.1 := by rw [e0_4]; exact ma
        have fa_4 := (e2_4 _ (Ne.symm nta)).trans fa
        have mt_4 : t ∈ h4.1 := by rw [e0_4]; exact mt
        have mb_4 : b ∈ h4.1 := by rw [e0_4]; exact mb
        have fb_4 := (e2_4 _ (Ne.symm ntb)).trans fb
        refine r_aload_n dX8_putLayer_49 0 rfl ?_
        refine r_get cl_X8 1 (by decide) kf_X8_15 dX8_putLayer_50 ma_4 fa_4 rfl ?_
        refine r_aload_n dX8_putLayer_53 0 rfl ?_
        refine r_get cl_X8 2 (by decide) kf_X8_19 dX8_putLayer_54 ma_4 fa_4 rfl ?_
        refine r_iload_n dX8_putLayer_57 1 rfl ?_
        refine i_zast l.length rfl dX8_putLayer_58 mb_4 fb_4 (by omega) (by decide) (b2_vp _) (fun h5 e0_5 e1_5 e2_5 => ?_)
        have ma_5 : a ∈ h5.1 := by rw [e0_5]; exact ma_4
        have fa_5 := (e2_5 _ (Ne.symm nba)).trans fa_4
        have mt_5 : t ∈ h5.1 := by rw [e0_5]; exact mt_4
        have ft_5 := (e2_5 _ ntb).trans e1_4
        have mb_5 : b ∈ h5.1 := by rw [e0_5]; exact mb_4
        refine r_aload_n dX8_putLayer_59 0 rfl ?_
        refine r_dup dX8_putLayer_60 rfl ?_
        refine r_get cl_X8 2 (by decide) kf_X8_19 dX8_putLayer_61 ma_5 fa_5 rfl ?_
        refine i_const (1) dX8_putLayer_64 ?_
        refine i_add dX8_putLayer_65 ?_
        refine i_put [.ref t, .ref b, .int (iI ((l.length : Int) + 1)), .int (iI ex), .int fo, .int (iI wa), .int (iI (b2 du)), .int (iI (b2 se)), .int (iI (b2 co))] cl_X8 2 (by decide) kf_X8_19 rfl dX8_putLayer_66 ma_5 fa_5 rfl rfl (by simp) rfl (fun h6 e0_6 e1_6 e2_6 => ?_)
        have ma_6 : a ∈ h6.1 := by rw [e0_6]; exact ma_5
        have mt_6 : t ∈ h6.1 := by rw [e0_6]; exact mt_5
        have ft_6 := (e2_6 _ nta).trans ft_5
        have mb_6 : b ∈ h6.1 := by rw [e0_6]; exact mb_5
        have fb_6 := (e2_6 _ nba).trans e1_5
        refine i_const (0) dX8_putLayer_69 ?_
        refine r_ireturn rfl (b2_nar false) dX8_putLayer_70 ?_
        have e : putN l x (!ap) = (l ++ [x], false) := by simp [putN, *]
        rw [e]
        have fz : h6.2 a = .inr (5, sf t b (l ++ [x], ex, wa, fo, du, se, co)) := by rw [e1_6]; simp only [sf, List.length_append, List.length_singleton, Int.natCast_add]; rfl
        refine ⟨rfl, ⟨_, _, ⟨ma_6, mt_6, mb_6⟩, ⟨nta, nba, ntb⟩, fz, ft_6, fb_6, by rw [List.length_append, List.length_singleton]; omega, sr_push hr⟩, (FR.tr (FR.tr (FR.wt e0_4 e2_4) (FR.wb e0_5 e2_5)) (FR.wa e0_6 e2_6))⟩
    · obtain ⟨j1, j2⟩ := joins_t c9
      refine r_aload_n dX8_putLayer_12 0 rfl ?_
      refine r_get cl_X8 0 (by decide) kf_X8_9 dX8_putLayer_13 ma fa rfl ?_
      refine r_aload_n dX8_putLayer_16 0 rfl ?_
      refine r_get cl_X8 2 (by decide) kf_X8_19 dX8_putLayer_17 ma fa rfl ?_
      refine i_const (1) dX8_putLayer_20 ?_
      refine i_sub dX8_putLayer_21 ?_
      refine r_dup2 dX8_putLayer_22 rfl rfl ?_
      refine i_iald (l.length - 1) (by omega) dX8_putLayer_23 mt ft (by omega) (by decide) (hr (l.length - 1) (by omega)).1 ?_
      refine r_iload_n dX8_putLayer_24 2 rfl ?_
      refine i_add dX8_putLayer_25 ?_
      refine i_iast (l.length - 1) (by omega) dX8_putLayer_26 mt ft (by omega) (by decide) (fun h7 e0_7 e1_7 e2_7 => ?_)
      have ma_7 : a ∈ h7.1 := by rw [e0_7]; exact ma
      have fa_7 := (e2_7 _ (Ne.symm nta)).trans fa
      have mt_7 : t ∈ h7.1 := by rw [e0_7]; exact mt
      have mb_7 : b ∈ h7.1 := by rw [e0_7]; exact mb
      have fb_7 := (e2_7 _ (Ne.symm ntb)).trans fb
      refine i_const (1) dX8_putLayer_27 ?_
      refine r_ireturn rfl (b2_nar true) dX8_putLayer_28 ?_
      have e : putN l x (!ap) = (l.set (l.length - 1) (lastL l + x), true) := by simp [putN, c1, c9]
      rw [e]
      have e2 : sz (lastL l + x) = sz (l.getD (l.length - 1) 0) + sz x := sz_add j2
      rw [← e2] at e1_7
      have fz : h7.2 a = .inr (5, sf t b (l.set (l.length - 1) (lastL l + x), ex, wa, fo, du, se, co)) := by simp only [sf, List.length_set]; exact fa_7
      refine ⟨rfl, ⟨_, gb, ⟨ma_7, mt_7, mb_7⟩, ⟨nta, nba, ntb⟩, fz, e1_7, fb_7, by rw [List.length_set]; exact hl, sr_top hr j1 (isB_add j2)⟩, (FR.wt e0_7 e2_7)⟩
