/-! ===== the sheet's questions ===== -/
/-- a sheet as it is between two calls -/
def WS (s : AS) : Prop := 1 ≤ s.1.length ∧ (∀ x ∈ s.1, x ≠ 0) ∧ hgt s.1 ≤ 4000 ∧ 0 ≤ s.2.2.1 ∧ s.2.2.1 ≤ 40
theorem hgt_nn (l : List Int) : 0 ≤ hgt l := by
  induction l with
  | nil => decide
  | cons x t ih => simp only [hgt, List.map_cons, List.sum_cons] at ih ⊢; have := sz_nn x; omega
theorem sz_le {l : List Int} {i : Nat} (h : i < l.length) : sz (l.getD i 0) ≤ hgt l := by
  have h1 := hgt_s h
  have h2 := hgt_nn (l.take i)
  have h3 : hgt l = hgt (l.take (i + 1)) + hgt (l.drop (i + 1)) := by rw [← hgt_app, List.take_append_drop]
  have h4 := hgt_nn (l.drop (i + 1))
  omega
/-- where the least (the greatest) thickness stands first, of the first n layers -/
def thinB (l : List Int) : Nat → Nat
  | 0 => 0
  | n + 1 => if sz (l.getD n 0) < sz (l.getD (thinB l n) 0) then n else thinB l n
def thickB (l : List Int) : Nat → Nat
  | 0 => 0
  | n + 1 => if sz (l.getD (thickB l n) 0) < sz (l.getD n 0) then n else thickB l n
theorem thinB_lt (l : List Int) (n : Nat) : thinB l n = 0 ∨ thinB l n < n := by
  induction n with
  | zero => exact Or.inl rfl
  | succ n ih => unfold thinB; split <;> omega
theorem thickB_lt (l : List Int) (n : Nat) : thickB l n = 0 ∨ thickB l n < n := by
  induction n with
  | zero => exact Or.inl rfl
  | succ n ih => unfold thickB; split <;> omega
theorem thinB_t {l : List Int} {n : Nat} (h : sz (l.getD n 0) < sz (l.getD (thinB l n) 0)) : thinB l (n + 1) = n := by rw [thinB, if_pos h]
theorem thinB_f {l : List Int} {n : Nat} (h : sz (l.getD (thinB l n) 0) ≤ sz (l.getD n 0)) : thinB l (n + 1) = thinB l n := by rw [thinB, if_neg (by omega)]
theorem thickB_t {l : List Int} {n : Nat} (h : sz (l.getD (thickB l n) 0) < sz (l.getD n 0)) : thickB l (n + 1) = n := by rw [thickB, if_pos h]
theorem thickB_f {l : List Int} {n : Nat} (h : sz (l.getD n 0) ≤ sz (l.getD (thickB l n) 0)) : thickB l (n + 1) = thickB l n := by rw [thickB, if_neg (by omega)]
/-- how many of the layers 1 .. n - 1 are of the kind of the one below -/
def seams (l : List Int) : Nat → Int
  | 0 => 0
  | n + 1 => if n ≠ 0 ∧ isB (l.getD n 0) = isB (l.getD (n - 1) 0) then seams l n + 1 else seams l n
set_option maxRecDepth 20000 in
set_option maxHeartbeats 1000000 in
theorem c_X8_totalHeight {G : xG} {h : xH} {a t b : Nat} {s : AS} (hS : SH G h a t b s) : CC G MX8_totalHeight [.ref a] h (qI (hgt s.1) h) := by
  obtain ⟨l, ex, wa, fo, du, se, co⟩ := s
  obtain ⟨gt, gb, ⟨ma, mt, mb⟩, ⟨nta, nba, ntb⟩, fa, ft, fb, hl, hr⟩ := hS
  have hl : l.length ≤ 200 := hl
  have hr : sr gt gb l := hr
  have fa : h.2 a = .inr (5, [.ref t, .ref b, .int (iI (l.length : Int)), .int (iI ex), .int fo, .int (iI wa), .int (iI (b2 du)), .int (iI (b2 se)), .int (iI (b2 co))]) := fa
  have L : ∀ i, i ≤ l.length → RR G MX8_totalHeight 4 [(0, .ref a), (1, .int (iI (hgt (l.take i)))), (2, .int (iI ((i : Int))))] [] h (xm_R MX8_totalHeight).cells (xm_R MX8_totalHeight).slots (qI (hgt l) h) := by
    refine down (fun i hi ih => ?_)
    refine r_iload_n dX8_totalHeight_4 2 rfl ?_
    refine r_aload_n dX8_totalHeight_5 0 rfl ?_
    refine r_get cl_X8 2 (by decide) kf_X8_19 dX8_totalHeight_6 ma fa rfl ?_
    refine i_icmpge dX8_totalHeight_9 (tgt := 27) (by decide) (by unfold in32; omega) (by unfold in32; omega) (fun c9 => ?_) (fun c9 => ?_)
    · refine r_iload_n dX8_totalHeight_27 1 rfl ?_
      refine r_ireturn rfl rfl dX8_totalHeight_28 ?_
      rw [show i = l.length by omega, take_all]
      exact ⟨rfl, rfl⟩
    · refine r_iload_n dX8_totalHeight_12 1 rfl ?_
      refine r_aload_n dX8_totalHeight_13 0 rfl ?_
      refine r_get cl_X8 0 (by decide) kf_X8_9 dX8_totalHeight_14 ma fa rfl ?_
      refine r_iload_n dX8_totalHeight_17 2 rfl ?_
      refine i_iald i rfl dX8_totalHeight_18 mt ft (by omega) (by decide) (hr i (by omega)).1 ?_
      refine i_add dX8_totalHeight_19 ?_
      refine r_istore_n (ls' := [(0, .ref a), (1, .int (iI ((hgt (l.take i)) + (sz (l.getD i 0))))), (2, .int (iI ((i : Int))))]) dX8_totalHeight_20 (by decide) rfl ?_
      refine i_iinc (ls' := [(0, .ref a), (1, .int (iI ((hgt (l.take i)) + (sz (l.getD i 0))))), (2, .int (iI ((i : Int) + 1)))]) (1) (v := (i : Int) + 1) dX8_totalHeight_21 2 rfl (by omega) (by decide) rfl ?_
      refine r_goto dX8_totalHeight_24 (tgt := 4) (by decide) ?_
      have q := ih (i + 1) (by omega) (by omega)
      rw [hgt_s (by omega)] at q
      exact q
  show RR G MX8_totalHeight 0 [(0, .ref a)] [] h (xm_R MX8_totalHeight).cells (xm_R MX8_totalHeight).slots (qI (hgt l) h)
  refine i_const (0) dX8_totalHeight_0 ?_
  refine r_istore_n (ls' := [(0, .ref a), (1, .int (iI 0))]) dX8_totalHeight_1 (by decide) rfl ?_
  refine i_const (0) dX8_totalHeight_2 ?_
  refine r_istore_n (ls' := [(0, .ref a), (1, .int (iI 0)), (2, .int (iI 0))]) dX8_totalHeight_3 (by decide) rfl ?_
  exact L 0 (by omega)
set_option maxRecDepth 20000 in
set_option maxHeartbeats 1000000 in
theorem c_X8_countButterLayers {G : xG} {h : xH} {a t b : Nat} {s : AS} (hS : SH G h a t b s) : CC G MX8_countButterLayers [.ref a] h (qI (nBut s.1) h) := by
  obtain ⟨l, ex, wa, fo, du, se, co⟩ := s
  obtain ⟨gt, gb, ⟨ma, mt, mb⟩, ⟨nta, nba, ntb⟩, fa, ft, fb, hl, hr⟩ := hS
  have hl : l.length ≤ 200 := hl
  have hr : sr gt gb l := hr
  have fa : h.2 a = .inr (5, [.ref t, .ref b, .int (iI (l.length : Int)), .int (iI ex), .int fo, .int (iI wa), .int (iI (b2 du)), .int (iI (b2 se)), .int (iI (b2 co))]) := fa
  have L : ∀ i, i ≤ l.length → RR G MX8_countButterLayers 4 [(0, .ref a), (1, .int (iI (nBut (l.take i)))), (2, .int (iI ((i : Int))))] [] h (xm_R MX8_countButterLayers).cells (xm_R MX8_countButterLayers).slots (qI (nBut l) h) := by
    refine down (fun i hi ih => ?_)
    refine r_iload_n dX8_countButterLayers_4 2 rfl ?_
    refine r_aload_n dX8_countButterLayers_5 0 rfl ?_
    refine r_get cl_X8 2 (by decide) kf_X8_19 dX8_countButterLayers_6 ma fa rfl ?_
    refine i_icmpge dX8_countButterLayers_9 (tgt := 30) (by decide) (by unfold in32; omega) (by unfold in32; omega) (fun c9 => ?_) (fun c9 => ?_)
    · refine r_iload_n dX8_countButterLayers_30 1 rfl ?_
      refine r_ireturn rfl rfl dX8_countButterLayers_31 ?_
      rw [show i = l.length by omega, take_all]
      exact ⟨rfl, rfl⟩
    · refine r_aload_n dX8_countButterLayers_12 0 rfl ?_
      refine r_get cl_X8 1 (by decide) kf_X8_15 dX8_countButterLayers_13 ma fa rfl ?_
      refine r_iload_n dX8_countButterLayers_16 2 rfl ?_
      refine i_zald i rfl dX8_countButterLayers_17 mb fb (by omega) (by decide) (hr i (by omega)).2 ?_
      refine i_ifeqb dX8_countButterLayers_18 (tgt := 24) (by decide) (fun c18 => ?_) (fun c18 => ?_)
      · refine i_iinc (ls' := [(0, .ref a), (1, .int (iI (nBut (l.take i)))), (2, .int (iI ((i : Int) + 1)))]) (1) (v := (i : Int) + 1) dX8_countButterLayers_24 2 rfl (by omega) (by decide) rfl ?_
        refine r_goto dX8_countButterLayers_27 (tgt := 4) (by decide) ?_
        have q := ih (i + 1) (by omega) (by omega)
        rw [nBut_f (by omega) (by assumption)] at q
        exact q
      · refine i_iinc (ls' := [(0, .ref a), (1, .int (iI ((nBut (l.take i)) + 1))), (2, .int (iI ((i : Int))))]) (1) (v := (nBut (l.take i)) + 1) dX8_countButterLayers_21 1 rfl (by omega) (by decide) rfl ?_
        refine i_iinc (ls' := [(0, .ref a), (1, .int (iI ((nBut (l.take i)) + 1))), (2, .int (iI ((i : Int) + 1)))]) (1) (v := (i : Int) + 1) dX8_countButterLayers_24 2 rfl (by omega) (by decide) rfl ?_
        refine r_goto dX8_countButterLayers_27 (tgt := 4) (by decide) ?_
        have q := ih (i + 1) (by omega) (by omega)
        rw [nBut_t (by omega) (by assumption)] at q
        exact q
  show RR G MX8_countButterLayers 0 [(0, .ref a)] [] h (xm_R MX8_countButterLayers).cells (xm_R MX8_countButterLayers).slots (qI (nBut l) h)
  refine i_const (0) dX8_countButterLayers_0 ?_
  refine r_istore_n (ls' := [(0, .ref a), (1, .int (iI 0))]) dX8_countButterLayers_1 (by decide) rfl ?_
  refine i_const (0) dX8_countButterLayers_2 ?_
  refine r_istore_n (ls' := [(0, .ref a), (1, .int (iI 0)), (2, .int (iI 0))]) dX8_countButterLayers_3 (by decide) rfl ?_
  exact L 0 (by omega)
set_option maxRecDepth 20000 in
set_option maxHeartbeats 1000000 in
theorem c_X8_totalButter {G : xG} {h : xH} {a t b : Nat} {s : AS} (hS : SH G h a t b s) : CC G MX8_totalButter [.ref a] h (qI (hBut s.1) h) := by
  obtain ⟨l, ex, wa, fo, du, se, co⟩ := s
  obtain ⟨gt, gb, ⟨ma, mt, mb⟩, ⟨nta, nba, ntb⟩, fa, ft, fb, hl, hr⟩ := hS
  have hl : l.length ≤ 200 := hl
  have hr : sr gt gb l := hr
  have fa : h.2 a = .inr (5, [.ref t, .ref b, .int (iI (l.length : Int)), .int (iI ex), .int fo, .int (iI wa), .int (iI (b2 du)), .int (iI (b2 se)), .int (iI (b2 co))]) := fa
  have L : ∀ i, i ≤ l.length → RR G MX8_totalButter 4 [(0, .ref a), (1, .int (iI (hBut (l.take i)))), (2, .int (iI ((i : Int))))] [] h (xm_R MX8_totalButter).cells (xm_R MX8_totalButter).slots (qI (hBut l) h) := by
    refine down (fun i hi ih => ?_)
    refine r_iload_n dX8_totalButter_4 2 rfl ?_
    refine r_aload_n dX8_totalButter_5 0 rfl ?_
    refine r_get cl_X8 2 (by decide) kf_X8_19 dX8_totalButter_6 ma fa rfl ?_
    refine i_icmpge dX8_totalButter_9 (tgt := 36) (by decide) (by unfold in32; omega) (by unfold in32; omega) (fun c9 => ?_) (fun c9 => ?_)
    · refine r_iload_n dX8_totalButter_36 1 rfl ?_
      refine r_ireturn rfl rfl dX8_totalButter_37 ?_
      rw [show i = l.length by omega, take_all]
      exact ⟨rfl, rfl⟩
    · refine r_aload_n dX8_totalButter_12 0 rfl ?_
      refine r_get cl_X8 1 (by decide) kf_X8_15 dX8_totalButter_13 ma fa rfl ?_
      refine r_iload_n dX8_totalButter_16 2 rfl ?_
      refine i_zald i rfl dX8_totalButter_17 mb fb (by omega) (by decide) (hr i (by omega)).2 ?_
      refine i_ifeqb dX8_totalButter_18 (tgt := 30) (by decide) (fun c18 => ?_) (fun c18 => ?_)
      · refine i_iinc (ls' := [(0, .ref a), (1, .int (iI (hBut (l.take i)))), (2, .int (iI ((i : Int) + 1)))]) (1) (v := (i : Int) + 1) dX8_totalButter_30 2 rfl (by omega) (by decide) rfl ?_
        refine r_goto dX8_totalButter_33 (tgt := 4) (by decide) ?_
        have q := ih (i + 1) (by omega) (by omega)
        rw [hBut_f (by omega) (by assumption)] at q
        exact q
      · refine r_iload_n dX8_totalButter_21 1 rfl ?_
        refine r_aload_n dX8_totalButter_22 0 rfl ?_
        refine r_get cl_X8 0 (by decide) kf_X8_9 dX8_totalButter_23 ma fa rfl ?_
        refine r_iload_n dX8_totalButter_26 2 rfl ?_
        refine i_iald i rfl dX8_totalButter_27 mt ft (by omega) (by decide) (hr i (by omega)).1 ?_
        refine i_add dX8_totalButter_28 ?_
        refine r_istore_n (ls' := [(0, .ref a), (1, .int (iI ((hBut (l.take i)) + (sz (l.getD i 0))))), (2, .int (iI ((i : Int))))]) dX8_totalButter_29 (by decide) rfl ?_
        refine i_iinc (ls' := [(0, .ref a), (1, .int (iI ((hBut (l.take i)) + (sz (l.getD i 0))))), (2, .int (iI ((i : Int) + 1)))]) (1) (v := (i : Int) + 1) dX8_totalButter_30 2 rfl (by omega) (by decide) rfl ?_
        refine r_goto dX8_totalButter_33 (tgt := 4) (by decide) ?_
        have q := ih (i + 1) (by omega) (by omega)
        rw [hBut_t (by omega) (by assumption)] at q
        exact q
  show RR G MX8_totalButter 0 [(0, .ref a)] [] h (xm_R MX8_totalButter).cells (xm_R MX8_totalButter).slots (qI (hBut l) h)
  refine i_const (0) dX8_totalButter_0 ?_
  refine r_istore_n (ls' := [(0, .ref a), (1, .int (iI 0))]) dX8_totalButter_1 (by decide) rfl ?_
  refine i_const (0) dX8_totalButter_2 ?_
  refine r_istore_n (ls' := [(0, .ref a), (1, .int (iI 0)), (2, .int (iI 0))]) dX8_totalButter_3 (by decide) rfl ?_
  exact L 0 (by omega)
set_option maxRecDepth 20000 in
set_option maxHeartbeats 1000000 in
theorem c_X8_findThinnest {G : xG} {h : xH} {a t b : Nat} {s : AS} (hS : SH G h a t b s) (hW : WS s) : CC G MX8_findThinnest [.ref a] h (qI (thinB s.1 s.1.length : Int) h) := by
  obtain ⟨l, ex, wa, fo, du, se, co⟩ := s
  obtain ⟨gt, gb, ⟨ma, mt, mb⟩, ⟨nta, nba, ntb⟩, fa, ft, fb, hl, hr⟩ := hS
  have hl : l.length ≤ 200 := hl
  have hr : sr gt gb l := hr
  have fa : h.2 a = .inr (5, [.ref t, .ref b, .int (iI (l.length : Int)), .int (iI ex), .int fo, .int (iI wa), .int (iI (b2 du)), .int (iI (b2 se)), .int (iI (b2 co))]) := fa
  obtain ⟨h1, hnz, h4, -, -⟩ := hW
  have h1 : 1 ≤ l.length := h1
  have h4 : hgt l ≤ 4000 := h4
  have L : ∀ i, i ≤ l.length → 1 ≤ i → RR G MX8_findThinnest 4 [(0, .ref a), (1, .int (iI ((thinB l i : Int)))), (2, .int (iI ((i : Int))))] [] h (xm_R MX8_findThinnest).cells (xm_R MX8_findThinnest).slots (qI (thinB l l.length) h) := by
    refine down (fun i hi ih hi0 => ?_)
    have hb := thinB_lt l i
    refine r_iload_n dX8_findThinnest_4 2 rfl ?_
    refine r_aload_n dX8_findThinnest_5 0 rfl ?_
    refine r_get cl_X8 2 (by decide) kf_X8_19 dX8_findThinnest_6 ma fa rfl ?_
    refine i_icmpge dX8_findThinnest_9 (tgt := 35) (by decide) (by unfold in32; omega) (by unfold in32; omega) (fun c9 => ?_) (fun c9 => ?_)
    · refine r_iload_n dX8_findThinnest_35 1 rfl ?_
      refine r_ireturn rfl rfl dX8_findThinnest_36 ?_
      rw [show i = l.length by omega]
      exact ⟨rfl, rfl⟩
    · have e1 := sz_le (l := l) (i := i) (by omega)
      have e2 := sz_le (l := l) (i := thinB l i) (by omega)
      have e3 := sz_nn (l.getD i 0)
      have e4 := sz_nn (l.getD (thinB l i) 0)
      refine r_aload_n dX8_findThinnest_12 0 rfl ?_
      refine r_get cl_X8 0 (by decide) kf_X8_9 dX8_findThinnest_13 ma fa rfl ?_
      refine r_iload_n dX8_findThinnest_16 2 rfl ?_
      refine i_iald i rfl dX8_findThinnest_17 mt ft (by omega) (by decide) (hr i (by omega)).1 ?_
      refine r_aload_n dX8_findThinnest_18 0 rfl ?_
      refine r_get cl_X8 0 (by decide) kf_X8_9 dX8_findThinnest_19 ma fa rfl ?_
      refine r_iload_n dX8_findThinnest_22 1 rfl ?_
      refine i_iald (thinB l i) rfl dX8_findThinnest_23 mt ft (by omega) (by decide) (hr (thinB l i) (by omega)).1 ?_
      refine i_icmpge dX8_findThinnest_24 (tgt := 29) (by decide) (by unfold in32; omega) (by unfold in32; omega) (fun c24 => ?_) (fun c24 => ?_)
      · refine i_iinc (ls' := [(0, .ref a), (1, .int (iI ((thinB l i : Int)))), (2, .int (iI ((i : Int) + 1)))]) (1) (v := (i : Int) + 1) dX8_findThinnest_29 2 rfl (by omega) (by decide) rfl ?_
        refine r_goto dX8_findThinnest_32 (tgt := 4) (by decide) ?_
        have q := ih (i + 1) (by omega) (by omega) (by omega)
        rw [thinB_f (by omega)] at q
        exact q
      · refine r_iload_n dX8_findThinnest_27 2 rfl ?_
        refine r_istore_n (ls' := [(0, .ref a), (1, .int (iI ((i : Int)))), (2, .int (iI ((i : Int))))]) dX8_findThinnest_28 (by decide) rfl ?_
        refine i_iinc (ls' := [(0, .ref a), (1, .int (iI ((i : Int)))), (2, .int (iI ((i : Int) + 1)))]) (1) (v := (i : Int) + 1) dX8_findThinnest_29 2 rfl (by omega) (by decide) rfl ?_
        refine r_goto dX8_findThinnest_32 (tgt := 4) (by decide) ?_
        have q := ih (i + 1) (by omega) (by omega) (by omega)
        rw [thinB_t (by omega)] at q
        exact q
  show RR G MX8_findThinnest 0 [(0, .ref a)] [] h (xm_R MX8_findThinnest).cells (xm_R MX8_findThinnest).slots (qI (thinB l l.length) h)
  refine i_const (0) dX8_findThinnest_0 ?_
  refine r_istore_n (ls' := [(0, .ref a), (1, .int (iI 0))]) dX8_findThinnest_1 (by decide) rfl ?_
  refine i_const (1) dX8_findThinnest_2 ?_
  refine r_istore_n (ls' := [(0, .ref a), (1, .int (iI 0)), (2, .int (iI 1))]) dX8_findThinnest_3 (by decide) rfl ?_
  have e : thinB l 1 = 0 := by simp [thinB]
  have q := L 1 (by omega) (by omega)
  rw [e] at q
  exact q
set_option maxRecDepth 20000 in
set_option maxHeartbeats 1000000 in
theorem c_X8_findThickest {G : xG} {h : xH} {a t b : Nat} {s : AS} (hS : SH G h a t b s) (hW : WS s) : CC G MX8_findThickest [.ref a] h (qI (thickB s.1 s.1.length : Int) h) := by
  obtain ⟨l, ex, wa, fo, du, se, co⟩ := s
  obtain ⟨gt, gb, ⟨ma, mt, mb⟩, ⟨nta, nba, ntb⟩, fa, ft, fb, hl, hr⟩ := hS
  have hl : l.length ≤ 200 := hl
  have hr : sr gt gb l := hr
  have fa : h.2 a = .inr (5, [.ref t, .ref b, .int (iI (l.length : Int)), .int (iI ex), .int fo, .int (iI wa), .int (iI (b2 du)), .int (iI (b2 se)), .int (iI (b2 co))]) := fa
  obtain ⟨h1, hnz, h4, -, -⟩ := hW
  have h1 : 1 ≤ l.length := h1
  have h4 : hgt l ≤ 4000 := h4
  have L : ∀ i, i ≤ l.length → 1 ≤ i → RR G MX8_findThickest 4 [(0, .ref a), (1, .int (iI ((thickB l i : Int)))), (2, .int (iI ((i : Int))))] [] h (xm_R MX8_findThickest).cells (xm_R MX8_findThickest).slots (qI (thickB l l.length) h) := by
    refine down (fun i hi ih hi0 => ?_)
    have hb := thickB_lt l i
    refine r_iload_n dX8_findThickest_4 2 rfl ?_
    refine r_aload_n dX8_findThickest_5 0 rfl ?_
    refine r_get cl_X8 2 (by decide) kf_X8_19 dX8_findThickest_6 ma fa rfl ?_
    refine i_icmpge dX8_findThickest_9 (tgt := 35) (by decide) (by unfold in32; omega) (by unfold in32; omega) (fun c9 => ?_) (fun c9 => ?_)
    · refine r_iload_n dX8_findThickest_35 1 rfl ?_
      refine r_ireturn rfl rfl dX8_findThickest_36 ?_
      rw [show i = l.length by omega]
      exact ⟨rfl, rfl⟩
    · have e1 := sz_le (l := l) (i := i) (by omega)
      have e2 := sz_le (l := l) (i := thickB l i) (by omega)
      have e3 := sz_nn (l.getD i 0)
      have e4 := sz_nn (l.getD (thickB l i) 0)
      refine r_aload_n dX8_findThickest_12 0 rfl ?_
      refine r_get cl_X8 0 (by decide) kf_X8_9 dX8_findThickest_13 ma fa rfl ?_
      refine r_iload_n dX8_findThickest_16 2 rfl ?_
      refine i_iald i rfl dX8_findThickest_17 mt ft (by omega) (by decide) (hr i (by omega)).1 ?_
      refine r_aload_n dX8_findThickest_18 0 rfl ?_
      refine r_get cl_X8 0 (by decide) kf_X8_9 dX8_findThickest_19 ma fa rfl ?_
      refine r_iload_n dX8_findThickest_22 1 rfl ?_
      refine i_iald (thickB l i) rfl dX8_findThickest_23 mt ft (by omega) (by decide) (hr (thickB l i) (by omega)).1 ?_
      refine i_icmple dX8_findThickest_24 (tgt := 29) (by decide) (by unfold in32; omega) (by unfold in32; omega) (fun c24 => ?_) (fun c24 => ?_)
      · refine i_iinc (ls' := [(0, .ref a), (1, .int (iI ((thickB l i : Int)))), (2, .int (iI ((i : Int) + 1)))]) (1) (v := (i : Int) + 1) dX8_findThickest_29 2 rfl (by omega) (by decide) rfl ?_
        refine r_goto dX8_findThickest_32 (tgt := 4) (by decide) ?_
        have q := ih (i + 1) (by omega) (by omega) (by omega)
        rw [thickB_f (by omega)] at q
        exact q
      · refine r_iload_n dX8_findThickest_27 2 rfl ?_
        refine r_istore_n (ls' := [(0, .ref a), (1, .int (iI ((i : Int)))), (2, .int (iI ((i : Int))))]) dX8_findThickest_28 (by decide) rfl ?_
        refine i_iinc (ls' := [(0, .ref a), (1, .int (iI ((i : Int)))), (2, .int (iI ((i : Int) + 1)))]) (1) (v := (i : Int) + 1) dX8_findThickest_29 2 rfl (by omega) (by decide) rfl ?_
        refine r_goto dX8_findThickest_32 (tgt := 4) (by decide) ?_
        have q := ih (i + 1) (by omega) (by omega) (by omega)
        rw [thickB_t (by omega)] at q
        exact q
  show RR G MX8_findThickest 0 [(0, .ref a)] [] h (xm_R MX8_findThickest).cells (xm_R MX8_findThickest).slots (qI (thickB l l.length) h)
  refine i_const (0) dX8_findThickest_0 ?_
  refine r_istore_n (ls' := [(0, .ref a), (1, .int (iI 0))]) dX8_findThickest_1 (by decide) rfl ?_
  refine i_const (1) dX8_findThickest_2 ?_
  refine r_istore_n (ls' := [(0, .ref a), (1, .int (iI 0)), (2, .int (iI 1))]) dX8_findThickest_3 (by decide) rfl ?_
  have e : thickB l 1 = 0 := by simp [thickB]
  have q := L 1 (by omega) (by omega)
  rw [e] at q
  exact q
