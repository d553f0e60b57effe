/-! ===== more of the sheet's questions ===== -/
def symL (l : List Int) : Bool := decide (∀ k, k < l.length → l.getD k 0 = l.getD (l.length - 1 - k) 0)
def obst (s : AS) (q : Int) : Int := if s.2.2.2.2.2.2 then 1 else if 200 < folded (s.1.length : Int) q s.2.2.2.2.1 then 2 else if 4000 < hgt s.1 * q then 3 else 0
def fpos (q : Int) : Nat → Int → Int → Int
  | 0, _, _ => 0
  | n + 1, c, g => if c ≤ 200 ∧ g ≤ 4000 then fpos q n (folded c q false) (g * q) + 1 else 0
def fps (s : AS) (q : Int) : Int := if s.2.2.2.2.2.2 then 0 else fpos q 4001 (folded (s.1.length : Int) q s.2.2.2.2.1) (hgt s.1 * q)
def loss (s : AS) (m : Int) : Int := if s.2.2.2.2.2.1 then 0 else max 0 (s.2.2.1 - m)
def sumF (f : Int → Int) (l : List Int) : Int := (l.map f).sum
def escF (lo x : Int) : Int := if isB x then min lo (sz x) else 0
def rt (f lo x : Int) : Int := if isB x then max 0 (sz x - lo) / f else max 1 (sz x / f)
def brF (f lo x : Int) : Int := if rt f lo x = 0 then 1 else 0
def warmAt (s : AS) (r : Int) : Nat → Int
  | 0 => s.2.2.1
  | n + 1 => if s.2.2.2.2.2.2 then cooled (warmAt s r n) else drawn (warmAt s r n) r
def safeH (m : Int) : Nat → Int → Int
  | 0, _ => 0
  | n + 1, w => if m < w then safeH m n (cooled w) + 1 else 0
theorem sumF_app (f : Int → Int) (l m : List Int) : sumF f (l ++ m) = sumF f l + sumF f m := by simp [sumF]
theorem sumF_s {f : Int → Int} {l : List Int} {i : Nat} (h : i < l.length) : sumF f (l.take (i + 1)) = sumF f (l.take i) + f (l.getD i 0) := by rw [take_s h, sumF_app]; simp [sumF]
theorem seams_t {l : List Int} {i : Nat} (h : i ≠ 0) (e : isB (l.getD i 0) = isB (l.getD (i - 1) 0)) : seams l (i + 1) = seams l i + 1 := by rw [seams, if_pos ⟨h, e⟩]
theorem seams_f {l : List Int} {i : Nat} (e : isB (l.getD i 0) ≠ isB (l.getD (i - 1) 0)) : seams l (i + 1) = seams l i := by rw [seams, if_neg (fun z => e z.2)]
theorem seams_1 (l : List Int) : seams l 1 = 0 := by simp [seams]
theorem sz_isB {x y : Int} (h1 : isB x = isB y) (h2 : sz x = sz y) : x = y := by
  unfold isB at h1; unfold sz at h2
  by_cases a : x < 0 <;> by_cases b : y < 0 <;> simp only [a, b, decide_true, decide_false, if_true, if_false] at h1 h2
  · omega
  · cases h1
  · cases h1
  · omega
theorem folded_b {n q : Int} {d : Bool} (hn : 1 ≤ n) (hq : 2 ≤ q ∧ q ≤ 4) : 1 ≤ folded n q d ∧ folded n q d ≤ 4 * n := by
  have : q = 2 ∨ q = 3 ∨ q = 4 := by omega
  unfold folded
  rcases this with rfl | rfl | rfl <;> cases d <;> simp <;> omega
theorem mul_b {x q : Int} (hx : 0 ≤ x) (hq : 2 ≤ q ∧ q ≤ 4) : 2 * x ≤ x * q ∧ x * q ≤ 4 * x := by
  have : q = 2 ∨ q = 3 ∨ q = 4 := by omega
  rcases this with rfl | rfl | rfl <;> omega
theorem hgt_ge (l : List Int) (h : ∀ x ∈ l, x ≠ 0) : (l.length : Int) ≤ hgt l := by
  induction l with
  | nil => simp [hgt]
  | cons x t ih =>
    have h1 := ih (fun y hy => h y (List.mem_cons_of_mem _ hy))
    have h2 := h x List.mem_cons_self
    simp only [hgt, List.map_cons, List.sum_cons, List.length_cons] at h1 ⊢
    have h3 : 1 ≤ sz x := by unfold sz; split <;> omega
    omega
theorem getD_mem {l : List Int} {i : Nat} (h : i < l.length) : l.getD i 0 ∈ l := by rw [getD_eq h]; exact List.getElem_mem h
theorem sz_pos {x : Int} (h : x ≠ 0) : 1 ≤ sz x := by unfold sz; split <;> omega
theorem cooled_b {w : Int} (h : 0 ≤ w ∧ w ≤ 40) : 0 ≤ cooled w ∧ cooled w ≤ 40 := by unfold cooled; split <;> omega
theorem drawn_b {w r : Int} (h : 0 ≤ w ∧ w ≤ 40) (hr : 0 ≤ r ∧ r ≤ 40) : 0 ≤ drawn w r ∧ drawn w r ≤ 40 := by unfold drawn; split <;> (try split) <;> omega
theorem warmAt_b {s : AS} {r : Int} (h : 0 ≤ s.2.2.1 ∧ s.2.2.1 ≤ 40) (hr : 0 ≤ r ∧ r ≤ 40) (n : Nat) : 0 ≤ warmAt s r n ∧ warmAt s r n ≤ 40 := by
  induction n with
  | zero => exact h
  | succ n ih => unfold warmAt; split; exact cooled_b ih; exact drawn_b ih hr
theorem loss_b {s : AS} {m : Int} (h : 0 ≤ s.2.2.1 ∧ s.2.2.1 ≤ 40) (hm : 0 ≤ m ∧ m ≤ 40) : 0 ≤ loss s m ∧ loss s m ≤ 40 := by unfold loss; split <;> omega
theorem rt_b {f lo x : Int} (hf : 2 ≤ f ∧ f ≤ 4) (hl : 0 ≤ lo) : 0 ≤ rt f lo x ∧ rt f lo x ≤ sz x + 1 := by
  have h0 := sz_nn x
  have : f = 2 ∨ f = 3 ∨ f = 4 := by omega
  unfold rt
  rcases this with rfl | rfl | rfl <;> split <;> omega
set_option maxRecDepth 20000 in
set_option maxHeartbeats 1000000 in
theorem c_X8_countSeams {G : xG} {h : xH} {a t b : Nat} {s : AS} (hS : SH G h a t b s) (hW : WS s) : CC G MX8_countSeams [.ref a] h (qI (seams s.1 s.1.length) h) := by
  obtain ⟨l, ex, wa, fo, du, se, co⟩ := s
  have hS0 := hS
  obtain ⟨gt, gb, ⟨ma, mt, mb⟩, ⟨nta, nba, ntb⟩, fa, ft, fb, hl, hr⟩ := hS
  have hl : l.length ≤ 200 := hl
  have hr : sr gt gb l := hr
  have fa : h.2 a = .inr (5, [.ref t, .ref b, .int (iI (l.length : Int)), .int (iI ex), .int fo, .int (iI wa), .int (iI (b2 du)), .int (iI (b2 se)), .int (iI (b2 co))]) := fa
  obtain ⟨h1, hnz, h4, hw0, hw1⟩ := hW
  have h1 : 1 ≤ l.length := h1
  have h4 : hgt l ≤ 4000 := h4
  have hw0 : 0 ≤ wa := hw0
  have hw1 : wa ≤ 40 := hw1
  have hnz : ∀ x ∈ l, x ≠ 0 := hnz
  have hg0 := hgt_nn l
  have hgl := hgt_ge l hnz
  have L : ∀ i, i ≤ l.length → 1 ≤ i → RR G MX8_countSeams 4 [(0, .ref a), (1, .int (iI (seams l i))), (2, .int (iI ((i : Int))))] [] h (xm_R MX8_countSeams).cells (xm_R MX8_countSeams).slots (qI (seams l l.length) h) := by
    refine down (fun i hi ih => ?_)
    intro hi0
    refine r_iload_n dX8_countSeams_4 2 rfl ?_
    refine r_aload_n dX8_countSeams_5 0 rfl ?_
    refine r_get cl_X8 2 (by decide) kf_X8_19 dX8_countSeams_6 ma fa rfl ?_
    refine i_icmpge dX8_countSeams_9 (tgt := 38) (by decide) (by unfold in32; omega) (by unfold in32; omega) (fun c9 => ?_) (fun c9 => ?_)
    · refine r_iload_n dX8_countSeams_38 1 rfl ?_
      refine r_ireturn rfl rfl dX8_countSeams_39 ?_
      rw [show i = l.length by omega]
      exact ⟨rfl, rfl⟩
    · refine r_aload_n dX8_countSeams_12 0 rfl ?_
      refine r_get cl_X8 1 (by decide) kf_X8_15 dX8_countSeams_13 ma fa rfl ?_
      refine r_iload_n dX8_countSeams_16 2 rfl ?_
      refine i_zald i rfl dX8_countSeams_17 mb fb (by omega) (by decide) (hr i (by omega)).2 ?_
      refine r_aload_n dX8_countSeams_18 0 rfl ?_
      refine r_get cl_X8 1 (by decide) kf_X8_15 dX8_countSeams_19 ma fa rfl ?_
      refine r_iload_n dX8_countSeams_22 2 rfl ?_
      refine i_const (1) dX8_countSeams_23 ?_
      refine i_sub dX8_countSeams_24 ?_
      refine i_zald (i - 1) (by omega) dX8_countSeams_25 mb fb (by omega) (by decide) (hr (i - 1) (by omega)).2 ?_
      refine i_icmpne dX8_countSeams_26 (tgt := 32) (by decide) (in32_b2 _) (in32_b2 _) (fun c26 => ?_) (fun c26 => ?_)
      · refine i_iinc (ls' := [(0, .ref a), (1, .int (iI (seams l i))), (2, .int (iI ((i : Int) + 1)))]) (1) (v := (i : Int) + 1) dX8_countSeams_32 2 rfl (by omega) (by decide) rfl ?_
        refine r_goto dX8_countSeams_35 (tgt := 4) (by decide) ?_
        have q := ih (i + 1) (by omega) (by omega) (by omega)
        rw [seams_f (fun z => c26 (by rw [z]))] at q
        exact q
      · refine i_iinc (ls' := [(0, .ref a), (1, .int (iI ((seams l i) + 1))), (2, .int (iI ((i : Int))))]) (1) (v := (seams l i) + 1) dX8_countSeams_29 1 rfl (by omega) (by decide) rfl ?_
        refine i_iinc (ls' := [(0, .ref a), (1, .int (iI ((seams l i) + 1))), (2, .int (iI ((i : Int) + 1)))]) (1) (v := (i : Int) + 1) dX8_countSeams_32 2 rfl (by omega) (by decide) rfl ?_
        refine r_goto dX8_countSeams_35 (tgt := 4) (by decide) ?_
        have q := ih (i + 1) (by omega) (by omega) (by omega)
        rw [seams_t (by omega) (b2_eq c26)] at q
        exact q
  show RR G MX8_countSeams 0 [(0, .ref a)] [] h (xm_R MX8_countSeams).cells (xm_R MX8_countSeams).slots (qI (seams l l.length) h)
  refine i_const (0) dX8_countSeams_0 ?_
  refine r_istore_n (ls' := [(0, .ref a), (1, .int (iI 0))]) dX8_countSeams_1 (by decide) rfl ?_
  refine i_const (1) dX8_countSeams_2 ?_
  refine r_istore_n (ls' := [(0, .ref a), (1, .int (iI 0)), (2, .int (iI 1))]) dX8_countSeams_3 (by decide) rfl ?_
  have q := L 1 h1 (by omega)
  rw [seams_1] at q
  exact q
set_option maxRecDepth 20000 in
set_option maxHeartbeats 1000000 in
theorem c_X8_sameFromBothSides {G : xG} {h : xH} {a t b : Nat} {s : AS} (hS : SH G h a t b s) (hW : WS s) : CC G MX8_sameFromBothSides [.ref a] h (qI (b2 (symL s.1)) h) := by
  obtain ⟨l, ex, wa, fo, du, se, co⟩ := s
  have hS0 := hS
  obtain ⟨gt, gb, ⟨ma, mt, mb⟩, ⟨nta, nba, ntb⟩, fa, ft, fb, hl, hr⟩ := hS
  have hl : l.length ≤ 200 := hl
  have hr : sr gt gb l := hr
  have fa : h.2 a = .inr (5, [.ref t, .ref b, .int (iI (l.length : Int)), .int (iI ex), .int fo, .int (iI wa), .int (iI (b2 du)), .int (iI (b2 se)), .int (iI (b2 co))]) := fa
  obtain ⟨h1, hnz, h4, hw0, hw1⟩ := hW
  have h1 : 1 ≤ l.length := h1
  have h4 : hgt l ≤ 4000 := h4
  have hw0 : 0 ≤ wa := hw0
  have hw1 : wa ≤ 40 := hw1
  have hnz : ∀ x ∈ l, x ≠ 0 := hnz
  have hg0 := hgt_nn l
  have hgl := hgt_ge l hnz
  have L : ∀ i, i ≤ l.length → (∀ k, k < i → l.getD k 0 = l.getD (l.length - 1 - k) 0) → RR G MX8_sameFromBothSides 9 [(0, .ref a), (1, .int (iI ((l.length : Int) - 1 - (i : Int)))), (2, .int (iI ((i : Int))))] [] h (xm_R MX8_sameFromBothSides).cells (xm_R MX8_sameFromBothSides).slots (qI (b2 (symL l)) h) := by
    refine down (fun i hi ih => ?_)
    intro hs
    have ea := sz_nn (l.getD i 0)
    have eb := sz_nn (l.getD (l.length - 1 - i) 0)
    refine r_iload_n dX8_sameFromBothSides_9 2 rfl ?_
    refine r_iload_n dX8_sameFromBothSides_10 1 rfl ?_
    refine i_icmpge dX8_sameFromBothSides_11 (tgt := 55) (by decide) (by unfold in32; omega) (by unfold in32; omega) (fun c11 => ?_) (fun c11 => ?_)
    · refine i_const (1) dX8_sameFromBothSides_55 ?_
      refine r_ireturn rfl (b2_nar true) dX8_sameFromBothSides_56 ?_
      have e : symL l = true := decide_eq_true (fun k hk => by
          by_cases z : k < i
          · exact hs k z
          · by_cases z2 : l.length - 1 - k < i
            · have y := hs _ z2
              rw [show l.length - 1 - (l.length - 1 - k) = k by omega] at y
              exact y.symm
            · rw [show l.length - 1 - k = k by omega])
      rw [e]
      exact ⟨rfl, rfl⟩
    · have ec := sz_le (l := l) (i := i) (by omega)
      have ed := sz_le (l := l) (i := l.length - 1 - i) (by omega)
      refine r_aload_n dX8_sameFromBothSides_14 0 rfl ?_
      refine r_get cl_X8 1 (by decide) kf_X8_15 dX8_sameFromBothSides_15 ma fa rfl ?_
      refine r_iload_n dX8_sameFromBothSides_18 2 rfl ?_
      refine i_zald i rfl dX8_sameFromBothSides_19 mb fb (by omega) (by decide) (hr i (by omega)).2 ?_
      refine r_aload_n dX8_sameFromBothSides_20 0 rfl ?_
      refine r_get cl_X8 1 (by decide) kf_X8_15 dX8_sameFromBothSides_21 ma fa rfl ?_
      refine r_iload_n dX8_sameFromBothSides_24 1 rfl ?_
      refine i_zald (l.length - 1 - i) (by omega) dX8_sameFromBothSides_25 mb fb (by omega) (by decide) (hr (l.length - 1 - i) (by omega)).2 ?_
      refine i_icmpne dX8_sameFromBothSides_26 (tgt := 44) (by decide) (in32_b2 _) (in32_b2 _) (fun c26 => ?_) (fun c26 => ?_)
      · refine i_const (0) dX8_sameFromBothSides_44 ?_
        refine r_ireturn rfl (b2_nar false) dX8_sameFromBothSides_45 ?_
        have e : symL l = false := decide_eq_false (fun z => by
            have y := z i (by omega)
            exact c26 (by rw [y]))
        rw [e]
        exact ⟨rfl, rfl⟩
      · refine r_aload_n dX8_sameFromBothSides_29 0 rfl ?_
        refine r_get cl_X8 0 (by decide) kf_X8_9 dX8_sameFromBothSides_30 ma fa rfl ?_
        refine r_iload_n dX8_sameFromBothSides_33 2 rfl ?_
        refine i_iald i rfl dX8_sameFromBothSides_34 mt ft (by omega) (by decide) (hr i (by omega)).1 ?_
        refine r_aload_n dX8_sameFromBothSides_35 0 rfl ?_
        refine r_get cl_X8 0 (by decide) kf_X8_9 dX8_sameFromBothSides_36 ma fa rfl ?_
        refine r_iload_n dX8_sameFromBothSides_39 1 rfl ?_
        refine i_iald (l.length - 1 - i) (by omega) dX8_sameFromBothSides_40 mt ft (by omega) (by decide) (hr (l.length - 1 - i) (by omega)).1 ?_
        refine i_icmpeq dX8_sameFromBothSides_41 (tgt := 46) (by decide) (by unfold in32; omega) (by unfold in32; omega) (fun c41 => ?_) (fun c41 => ?_)
        · refine i_iinc (ls' := [(0, .ref a), (1, .int (iI (((l.length : Int) - 1 - (i : Int)) - 1))), (2, .int (iI ((i : Int))))]) (-1) (v := ((l.length : Int) - 1 - (i : Int)) - 1) dX8_sameFromBothSides_46 1 rfl (by omega) (by decide) rfl ?_
          refine i_iinc (ls' := [(0, .ref a), (1, .int (iI (((l.length : Int) - 1 - (i : Int)) - 1))), (2, .int (iI ((i : Int) + 1)))]) (1) (v := (i : Int) + 1) dX8_sameFromBothSides_49 2 rfl (by omega) (by decide) rfl ?_
          refine r_goto dX8_sameFromBothSides_52 (tgt := 9) (by decide) ?_
          have q := ih (i + 1) (by omega) (by omega) (fun k hk => by
              by_cases e : k = i
              · subst e; exact sz_isB (b2_eq c26) c41
              · exact hs k (by omega))
          rw [show (l.length : Int) - 1 - ((i + 1 : Nat) : Int) = (l.length : Int) - 1 - (i : Int) - 1 by omega] at q
          exact q
        · refine i_const (0) dX8_sameFromBothSides_44 ?_
          refine r_ireturn rfl (b2_nar false) dX8_sameFromBothSides_45 ?_
          have e : symL l = false := decide_eq_false (fun z => by
              have y := z i (by omega)
              exact c41 (by rw [y]))
          rw [e]
          exact ⟨rfl, rfl⟩
  show RR G MX8_sameFromBothSides 0 [(0, .ref a)] [] h (xm_R MX8_sameFromBothSides).cells (xm_R MX8_sameFromBothSides).slots (qI (b2 (symL l)) h)
  refine r_aload_n dX8_sameFromBothSides_0 0 rfl ?_
  refine r_get cl_X8 2 (by decide) kf_X8_19 dX8_sameFromBothSides_1 ma fa rfl ?_
  refine i_const (1) dX8_sameFromBothSides_4 ?_
  refine i_sub dX8_sameFromBothSides_5 ?_
  refine r_istore_n (ls' := [(0, .ref a), (1, .int (iI ((l.length : Int) - 1)))]) dX8_sameFromBothSides_6 (by decide) rfl ?_
  refine i_const (0) dX8_sameFromBothSides_7 ?_
  refine r_istore_n (ls' := [(0, .ref a), (1, .int (iI ((l.length : Int) - 1))), (2, .int (iI 0))]) dX8_sameFromBothSides_8 (by decide) rfl ?_
  have q := L 0 (by omega) (fun k hk => absurd hk (Nat.not_lt_zero k))
  rw [show (l.length : Int) - 1 - ((0 : Nat) : Int) = (l.length : Int) - 1 by omega] at q
  exact q
set_option maxRecDepth 20000 in
set_option maxHeartbeats 1000000 in
theorem c_X8_findFoldObstacle {G : xG} {h : xH} {a t b : Nat} {s : AS} (hS : SH G h a t b s) (hW : WS s) (hG : GD G) {q : Int} (hq : 2 ≤ q ∧ q ≤ 4) : CC G MX8_findFoldObstacle [.ref a, .int (iI q)] h (qI (obst s q) h) := by
  obtain ⟨l, ex, wa, fo, du, se, co⟩ := s
  have hS0 := hS
  obtain ⟨gt, gb, ⟨ma, mt, mb⟩, ⟨nta, nba, ntb⟩, fa, ft, fb, hl, hr⟩ := hS
  have hl : l.length ≤ 200 := hl
  have hr : sr gt gb l := hr
  have fa : h.2 a = .inr (5, [.ref t, .ref b, .int (iI (l.length : Int)), .int (iI ex), .int fo, .int (iI wa), .int (iI (b2 du)), .int (iI (b2 se)), .int (iI (b2 co))]) := fa
  obtain ⟨h1, hnz, h4, hw0, hw1⟩ := hW
  have h1 : 1 ≤ l.length := h1
  have h4 : hgt l ≤ 4000 := h4
  have hw0 : 0 ≤ wa := hw0
  have hw1 : wa ≤ 40 := hw1
  have hnz : ∀ x ∈ l, x ≠ 0 := hnz
  have hg0 := hgt_nn l
  have hgl := hgt_ge l hnz
  have hfb := folded_b (n := (l.length : Int)) (q := q) (d := du) (by omega) hq
  have hmb := mul_b hg0 hq
  show RR G MX8_findFoldObstacle 0 [(0, .ref a), (1, .int (iI q))] [] h (xm_R MX8_findFoldObstacle).cells (xm_R MX8_findFoldObstacle).slots (qI (obst (l, ex, wa, fo, du, se, co) q) h)
  refine r_aload_n dX8_findFoldObstacle_0 0 rfl ?_
  refine r_get cl_X8 8 (by decide) kf_X8_39 dX8_findFoldObstacle_1 ma fa rfl ?_
  refine i_ifeqb dX8_findFoldObstacle_4 (tgt := 9) (by decide) (fun c4 => ?_) (fun c4 => ?_)
  · refine r_aload_n dX8_findFoldObstacle_9 0 rfl ?_
    refine r_get cl_X8 2 (by decide) kf_X8_19 dX8_findFoldObstacle_10 ma fa rfl ?_
    refine r_iload_n dX8_findFoldObstacle_13 1 rfl ?_
    refine r_aload_n dX8_findFoldObstacle_14 0 rfl ?_
    refine r_get cl_X8 6 (by decide) kf_X8_32 dX8_findFoldObstacle_15 ma fa rfl ?_
    refine p_callSN (As := [.int (iI ((l.length : Int))), .int (iI q), .int (iI (b2 du))]) (rest := []) (w := (some (.int (iI (folded (l.length : Int) q du))))) (st' := [.int (iI (folded (l.length : Int) q du))]) (kv_X8_findFoldObstacle_50 (gn_X8_50 hG)) dX8_findFoldObstacle_18 rfl rfl (Nat.le_of_ble_eq_true rfl) (Nat.le_of_ble_eq_true rfl) rfl rfl (c_X11_layersFolded) rfl (fun h9 e9 => ?_)
    subst e9
    refine i_sipush (200) (by decide) dX8_findFoldObstacle_21 ?_
    refine i_icmple dX8_findFoldObstacle_24 (tgt := 29) (by decide) (by unfold in32; omega) ⟨by decide, by decide⟩ (fun c24 => ?_) (fun c24 => ?_)
    · refine r_aload_n dX8_findFoldObstacle_29 0 rfl ?_
      refine p_callV (As := []) (b := a) (rest := []) (w := (some (.int (iI (hgt l))))) (st' := [.int (iI (hgt l))]) kv_X8_findFoldObstacle_54 dX8_findFoldObstacle_30 rfl rfl (Nat.le_of_ble_eq_true rfl) (Nat.le_of_ble_eq_true rfl) (x_rv ma fa rfl) rfl rfl (c_X8_totalHeight hS0) rfl (fun h9 e9 => ?_)
      subst e9
      refine r_iload_n dX8_findFoldObstacle_33 1 rfl ?_
      refine i_mul dX8_findFoldObstacle_34 ?_
      refine i_sipush (4000) (by decide) dX8_findFoldObstacle_35 ?_
      refine i_icmple dX8_findFoldObstacle_38 (tgt := 45) (by decide) (by unfold in32; omega) ⟨by decide, by decide⟩ (fun c38 => ?_) (fun c38 => ?_)
      · refine i_const (0) dX8_findFoldObstacle_45 ?_
        refine r_ireturn rfl rfl dX8_findFoldObstacle_46 ?_
        have hfb := folded_b (n := (l.length : Int)) (q := q) (d := du) (by omega) hq
        have e : obst (l, ex, wa, fo, du, se, co) q = 0 := by
          simp only [obst, c4, if_true, Bool.false_eq_true, if_false]
          split <;> first | rfl | omega | (split <;> first | rfl | omega)
        rw [e]
        exact ⟨rfl, rfl⟩
      · refine i_const (3) dX8_findFoldObstacle_41 ?_
        refine r_goto dX8_findFoldObstacle_42 (tgt := 46) (by decide) ?_
        refine r_ireturn rfl rfl dX8_findFoldObstacle_46 ?_
        have hfb := folded_b (n := (l.length : Int)) (q := q) (d := du) (by omega) hq
        have e : obst (l, ex, wa, fo, du, se, co) q = 3 := by
          simp only [obst, c4, if_true, Bool.false_eq_true, if_false]
          split <;> first | rfl | omega | (split <;> first | rfl | omega)
        rw [e]
        exact ⟨rfl, rfl⟩
    · refine i_const (2) dX8_findFoldObstacle_27 ?_
      refine r_ireturn rfl rfl dX8_findFoldObstacle_28 ?_
      have hfb := folded_b (n := (l.length : Int)) (q := q) (d := du) (by omega) hq
      have e : obst (l, ex, wa, fo, du, se, co) q = 2 := by
        simp only [obst, c4, if_true, Bool.false_eq_true, if_false]
        split <;> first | rfl | omega | (split <;> first | rfl | omega)
      rw [e]
      exact ⟨rfl, rfl⟩
  · refine i_const (1) dX8_findFoldObstacle_7 ?_
    refine r_ireturn rfl rfl dX8_findFoldObstacle_8 ?_
    have hfb := folded_b (n := (l.length : Int)) (q := q) (d := du) (by omega) hq
    have e : obst (l, ex, wa, fo, du, se, co) q = 1 := by
      simp only [obst, c4, if_true, Bool.false_eq_true, if_false]
    rw [e]
    exact ⟨rfl, rfl⟩
set_option maxRecDepth 20000 in
set_option maxHeartbeats 1000000 in
theorem c_X8_countPossibleFolds {G : xG} {h : xH} {a t b : Nat} {s : AS} (hS : SH G h a t b s) (hW : WS s) (hG : GD G) {q : Int} (hq : 2 ≤ q ∧ q ≤ 4) : CC G MX8_countPossibleFolds [.ref a, .int (iI q)] h (qI (fps s q) h) := by
  obtain ⟨l, ex, wa, fo, du, se, co⟩ := s
  have hS0 := hS
  obtain ⟨gt, gb, ⟨ma, mt, mb⟩, ⟨nta, nba, ntb⟩, fa, ft, fb, hl, hr⟩ := hS
  have hl : l.length ≤ 200 := hl
  have hr : sr gt gb l := hr
  have fa : h.2 a = .inr (5, [.ref t, .ref b, .int (iI (l.length : Int)), .int (iI ex), .int fo, .int (iI wa), .int (iI (b2 du)), .int (iI (b2 se)), .int (iI (b2 co))]) := fa
  obtain ⟨h1, hnz, h4, hw0, hw1⟩ := hW
  have h1 : 1 ≤ l.length := h1
  have h4 : hgt l ≤ 4000 := h4
  have hw0 : 0 ≤ wa := hw0
  have hw1 : wa ≤ 40 := hw1
  have hnz : ∀ x ∈ l, x ≠ 0 := hnz
  have hg0 := hgt_nn l
  have hgl := hgt_ge l hnz
  have L : ∀ (n : Nat) (c g z : Int), 1 ≤ c ∧ c ≤ 100000 → 1 ≤ g ∧ g ≤ 16000 → 0 ≤ z ∧ z + 1 ≤ g → 4001 ≤ g + n → RR G MX8_countPossibleFolds 32 [(0, .ref a), (1, .int (iI q)), (2, .int (iI c)), (3, .int (iI g)), (4, .int (iI z))] [] h (xm_R MX8_countPossibleFolds).cells (xm_R MX8_countPossibleFolds).slots (qI (z + fpos q n c g) h) := by
    intro n
    induction n with
    | zero =>
      intro c g z hc hg hz hn
      refine r_iload_n dX8_countPossibleFolds_32 2 rfl ?_
      refine i_sipush (200) (by decide) dX8_countPossibleFolds_33 ?_
      refine i_icmpgt dX8_countPossibleFolds_36 (tgt := 71) (by decide) (by unfold in32; omega) ⟨by decide, by decide⟩ (fun c36 => ?_) (fun c36 => ?_)
      · refine r_iload dX8_countPossibleFolds_71 4 rfl ?_
        refine r_ireturn rfl rfl dX8_countPossibleFolds_73 ?_
        have e : z + fpos q 0 c g = z := by rw [fpos]; omega
        rw [e]
        exact ⟨rfl, rfl⟩
      · refine r_iload_n dX8_countPossibleFolds_39 3 rfl ?_
        refine i_sipush (4000) (by decide) dX8_countPossibleFolds_40 ?_
        refine i_icmpgt dX8_countPossibleFolds_43 (tgt := 71) (by decide) (by unfold in32; omega) ⟨by decide, by decide⟩ (fun c43 => ?_) (fun c43 => ?_)
        · refine r_iload dX8_countPossibleFolds_71 4 rfl ?_
          refine r_ireturn rfl rfl dX8_countPossibleFolds_73 ?_
          have e : z + fpos q 0 c g = z := by rw [fpos]; omega
          rw [e]
          exact ⟨rfl, rfl⟩
        · refine r_iload dX8_countPossibleFolds_46 4 rfl ?_
          refine i_sipush (4000) (by decide) dX8_countPossibleFolds_48 ?_
          refine i_icmpge dX8_countPossibleFolds_51 (tgt := 71) (by decide) (by unfold in32; omega) ⟨by decide, by decide⟩ (fun c51 => ?_) (fun c51 => ?_)
          · refine r_iload dX8_countPossibleFolds_71 4 rfl ?_
            refine r_ireturn rfl rfl dX8_countPossibleFolds_73 ?_
            exfalso
            omega
          · refine i_iinc (ls' := [(0, .ref a), (1, .int (iI q)), (2, .int (iI c)), (3, .int (iI g)), (4, .int (iI (z + 1)))]) (1) (v := z + 1) dX8_countPossibleFolds_54 4 rfl (by omega) (by decide) rfl ?_
            refine r_iload_n dX8_countPossibleFolds_57 2 rfl ?_
            refine r_iload_n dX8_countPossibleFolds_58 1 rfl ?_
            refine i_const (0) dX8_countPossibleFolds_59 ?_
            refine p_callSN (As := [.int (iI c), .int (iI q), .int (iI 0)]) (rest := []) (w := (some (.int (iI (folded c q false))))) (st' := [.int (iI (folded c q false))]) (kv_X8_countPossibleFolds_50 (gn_X8_50 hG)) dX8_countPossibleFolds_60 rfl rfl (Nat.le_of_ble_eq_true rfl) (Nat.le_of_ble_eq_true rfl) rfl rfl (c_X11_layersFolded (d := false)) rfl (fun h9 e9 => ?_)
            subst e9
            refine r_istore_n (ls' := [(0, .ref a), (1, .int (iI q)), (2, .int (iI (folded c q false))), (3, .int (iI g)), (4, .int (iI (z + 1)))]) dX8_countPossibleFolds_63 (by decide) rfl ?_
            refine r_iload_n dX8_countPossibleFolds_64 3 rfl ?_
            refine r_iload_n dX8_countPossibleFolds_65 1 rfl ?_
            refine i_mul dX8_countPossibleFolds_66 ?_
            refine r_istore_n (ls' := [(0, .ref a), (1, .int (iI q)), (2, .int (iI (folded c q false))), (3, .int (iI (g * q))), (4, .int (iI (z + 1)))]) dX8_countPossibleFolds_67 (by decide) rfl ?_
            refine r_goto dX8_countPossibleFolds_68 (tgt := 32) (by decide) ?_
            exfalso
            omega
    | succ n ih =>
      intro c g z hc hg hz hn
      refine r_iload_n dX8_countPossibleFolds_32 2 rfl ?_
      refine i_sipush (200) (by decide) dX8_countPossibleFolds_33 ?_
      refine i_icmpgt dX8_countPossibleFolds_36 (tgt := 71) (by decide) (by unfold in32; omega) ⟨by decide, by decide⟩ (fun c36 => ?_) (fun c36 => ?_)
      · refine r_iload dX8_countPossibleFolds_71 4 rfl ?_
        refine r_ireturn rfl rfl dX8_countPossibleFolds_73 ?_
        have e : z + fpos q (n + 1) c g = z := by rw [fpos, if_neg (by omega)]; omega
        rw [e]
        exact ⟨rfl, rfl⟩
      · refine r_iload_n dX8_countPossibleFolds_39 3 rfl ?_
        refine i_sipush (4000) (by decide) dX8_countPossibleFolds_40 ?_
        refine i_icmpgt dX8_countPossibleFolds_43 (tgt := 71) (by decide) (by unfold in32; omega) ⟨by decide, by decide⟩ (fun c43 => ?_) (fun c43 => ?_)
        · refine r_iload dX8_countPossibleFolds_71 4 rfl ?_
          refine r_ireturn rfl rfl dX8_countPossibleFolds_73 ?_
          have e : z + fpos q (n + 1) c g = z := by rw [fpos, if_neg (by omega)]; omega
          rw [e]
          exact ⟨rfl, rfl⟩
        · refine r_iload dX8_countPossibleFolds_46 4 rfl ?_
          refine i_sipush (4000) (by decide) dX8_countPossibleFolds_48 ?_
          refine i_icmpge dX8_countPossibleFolds_51 (tgt := 71) (by decide) (by unfold in32; omega) ⟨by decide, by decide⟩ (fun c51 => ?_) (fun c51 => ?_)
          · refine r_iload dX8_countPossibleFolds_71 4 rfl ?_
            refine r_ireturn rfl rfl dX8_countPossibleFolds_73 ?_
            exfalso
            omega
          · refine i_iinc (ls' := [(0, .ref a), (1, .int (iI q)), (2, .int (iI c)), (3, .int (iI g)), (4, .int (iI (z + 1)))]) (1) (v := z + 1) dX8_countPossibleFolds_54 4 rfl (by omega) (by decide) rfl ?_
            refine r_iload_n dX8_countPossibleFolds_57 2 rfl ?_
            refine r_iload_n dX8_countPossibleFolds_58 1 rfl ?_
            refine i_const (0) dX8_countPossibleFolds_59 ?_
            refine p_callSN (As := [.int (iI c), .int (iI q), .int (iI 0)]) (rest := []) (w := (some (.int (iI (folded c q false))))) (st' := [.int (iI (folded c q false))]) (kv_X8_countPossibleFolds_50 (gn_X8_50 hG)) dX8_countPossibleFolds_60 rfl rfl (Nat.le_of_ble_eq_true rfl) (Nat.le_of_ble_eq_true rfl) rfl rfl (c_X11_layersFolded (d := false)) rfl (fun h9 e9 => ?_)
            subst e9
            refine r_istore_n (ls' := [(0, .ref a), (1, .int (iI q)), (2, .int (iI (folded c q false))), (3, .int (iI g)), (4, .int (iI (z + 1)))]) dX8_countPossibleFolds_63 (by decide) rfl ?_
            refine r_iload_n dX8_countPossibleFolds_64 3 rfl ?_
            refine r_iload_n dX8_countPossibleFolds_65 1 rfl ?_
            refine i_mul dX8_countPossibleFolds_66 ?_
            refine r_istore_n (ls' := [(0, .ref a), (1, .int (iI q)), (2, .int (iI (folded c q false))), (3, .int (iI (g * q))), (4, .int (iI (z + 1)))]) dX8_countPossibleFolds_67 (by decide) rfl ?_
            refine r_goto dX8_countPossibleFolds_68 (tgt := 32) (by decide) ?_
            have hfb := folded_b (n := c) (q := q) (d := false) hc.1 hq
            have hmb := mul_b (x := g) (by omega) hq
            have q2 := ih (folded c q false) (g * q) (z + 1) ⟨hfb.1, by omega⟩ (by omega) (by omega) (by omega)
            rw [show z + fpos q (n + 1) c g = z + 1 + fpos q n (folded c q false) (g * q) by rw [fpos, if_pos (by omega)]; omega]
            exact q2
  have hfb := folded_b (n := (l.length : Int)) (q := q) (d := du) (by omega) hq
  have hmb := mul_b hg0 hq
  show RR G MX8_countPossibleFolds 0 [(0, .ref a), (1, .int (iI q))] [] h (xm_R MX8_countPossibleFolds).cells (xm_R MX8_countPossibleFolds).slots (qI (fps (l, ex, wa, fo, du, se, co) q) h)
  refine r_aload_n dX8_countPossibleFolds_0 0 rfl ?_
  refine r_get cl_X8 8 (by decide) kf_X8_39 dX8_countPossibleFolds_1 ma fa rfl ?_
  refine i_ifeqb dX8_countPossibleFolds_4 (tgt := 9) (by decide) (fun c4 => ?_) (fun c4 => ?_)
  · refine r_aload_n dX8_countPossibleFolds_9 0 rfl ?_
    refine r_get cl_X8 2 (by decide) kf_X8_19 dX8_countPossibleFolds_10 ma fa rfl ?_
    refine r_iload_n dX8_countPossibleFolds_13 1 rfl ?_
    refine r_aload_n dX8_countPossibleFolds_14 0 rfl ?_
    refine r_get cl_X8 6 (by decide) kf_X8_32 dX8_countPossibleFolds_15 ma fa rfl ?_
    refine p_callSN (As := [.int (iI ((l.length : Int))), .int (iI q), .int (iI (b2 du))]) (rest := []) (w := (some (.int (iI (folded (l.length : Int) q du))))) (st' := [.int (iI (folded (l.length : Int) q du))]) (kv_X8_countPossibleFolds_50 (gn_X8_50 hG)) dX8_countPossibleFolds_18 rfl rfl (Nat.le_of_ble_eq_true rfl) (Nat.le_of_ble_eq_true rfl) rfl rfl (c_X11_layersFolded) rfl (fun h9 e9 => ?_)
    subst e9
    refine r_istore_n (ls' := [(0, .ref a), (1, .int (iI q)), (2, .int (iI (folded (l.length : Int) q du)))]) dX8_countPossibleFolds_21 (by decide) rfl ?_
    refine r_aload_n dX8_countPossibleFolds_22 0 rfl ?_
    refine p_callV (As := []) (b := a) (rest := []) (w := (some (.int (iI (hgt l))))) (st' := [.int (iI (hgt l))]) kv_X8_countPossibleFolds_54 dX8_countPossibleFolds_23 rfl rfl (Nat.le_of_ble_eq_true rfl) (Nat.le_of_ble_eq_true rfl) (x_rv ma fa rfl) rfl rfl (c_X8_totalHeight hS0) rfl (fun h9 e9 => ?_)
    subst e9
    refine r_iload_n dX8_countPossibleFolds_26 1 rfl ?_
    refine i_mul dX8_countPossibleFolds_27 ?_
    refine r_istore_n (ls' := [(0, .ref a), (1, .int (iI q)), (2, .int (iI (folded (l.length : Int) q du))), (3, .int (iI ((hgt l) * q)))]) dX8_countPossibleFolds_28 (by decide) rfl ?_
    refine i_const (0) dX8_countPossibleFolds_29 ?_
    refine r_istore (ls' := [(0, .ref a), (1, .int (iI q)), (2, .int (iI (folded (l.length : Int) q du))), (3, .int (iI ((hgt l) * q))), (4, .int (iI 0))]) dX8_countPossibleFolds_30 (by decide) rfl ?_
    have q2 := L 4001 (folded (l.length : Int) q du) (hgt l * q) 0 ⟨hfb.1, by omega⟩ (by omega) (by omega) (by omega)
    have e : (0 : Int) + fpos q 4001 (folded (l.length : Int) q du) (hgt l * q) = fps (l, ex, wa, fo, du, se, co) q := by rw [Int.zero_add]; simp only [fps, c4, Bool.false_eq_true, if_false]
    rw [e] at q2
    exact q2
  · refine i_const (0) dX8_countPossibleFolds_7 ?_
    refine r_ireturn rfl rfl dX8_countPossibleFolds_8 ?_
    have e : fps (l, ex, wa, fo, du, se, co) q = 0 := by simp only [fps, c4, if_true]
    rw [e]
    exact ⟨rfl, rfl⟩
set_option maxRecDepth 20000 in
set_option maxHeartbeats 1000000 in
theorem c_X8_lossPerLayer {G : xG} {h : xH} {a t b : Nat} {s : AS} (hS : SH G h a t b s) (hW : WS s) {m : Int} (hm : 0 ≤ m ∧ m ≤ 40) : CC G MX8_lossPerLayer [.ref a, .int (iI m)] h (qI (loss s m) h) := by
  obtain ⟨l, ex, wa, fo, du, se, co⟩ := s
  have hS0 := hS
  obtain ⟨gt, gb, ⟨ma, mt, mb⟩, ⟨nta, nba, ntb⟩, fa, ft, fb, hl, hr⟩ := hS
  have hl : l.length ≤ 200 := hl
  have hr : sr gt gb l := hr
  have fa : h.2 a = .inr (5, [.ref t, .ref b, .int (iI (l.length : Int)), .int (iI ex), .int fo, .int (iI wa), .int (iI (b2 du)), .int (iI (b2 se)), .int (iI (b2 co))]) := fa
  obtain ⟨h1, hnz, h4, hw0, hw1⟩ := hW
  have h1 : 1 ≤ l.length := h1
  have h4 : hgt l ≤ 4000 := h4
  have hw0 : 0 ≤ wa := hw0
  have hw1 : wa ≤ 40 := hw1
  have hnz : ∀ x ∈ l, x ≠ 0 := hnz
  have hg0 := hgt_nn l
  have hgl := hgt_ge l hnz
  show RR G MX8_lossPerLayer 0 [(0, .ref a), (1, .int (iI m))] [] h (xm_R MX8_lossPerLayer).cells (xm_R MX8_lossPerLayer).slots (qI (loss (l, ex, wa, fo, du, se, co) m) h)
  refine r_aload_n dX8_lossPerLayer_0 0 rfl ?_
  refine r_get cl_X8 7 (by decide) kf_X8_36 dX8_lossPerLayer_1 ma fa rfl ?_
  refine i_ifeqb dX8_lossPerLayer_4 (tgt := 11) (by decide) (fun c4 => ?_) (fun c4 => ?_)
  · refine i_const (0) dX8_lossPerLayer_11 ?_
    refine r_aload_n dX8_lossPerLayer_12 0 rfl ?_
    refine r_get cl_X8 5 (by decide) kf_X8_29 dX8_lossPerLayer_13 ma fa rfl ?_
    refine r_iload_n dX8_lossPerLayer_16 1 rfl ?_
    refine i_sub dX8_lossPerLayer_17 ?_
    refine i_max (kv_X8_lossPerLayer_62 0 (by decide)) rfl dX8_lossPerLayer_18 ⟨by decide, by decide⟩ (by unfold in32; omega) ?_
    refine r_ireturn rfl rfl dX8_lossPerLayer_21 ?_
    have e : loss (l, ex, wa, fo, du, se, co) m = max 0 (wa - m) := by simp only [loss, c4, if_true, Bool.false_eq_true, if_false]
    rw [e]
    exact ⟨rfl, rfl⟩
  · refine i_const (0) dX8_lossPerLayer_7 ?_
    refine r_goto dX8_lossPerLayer_8 (tgt := 21) (by decide) ?_
    refine r_ireturn rfl rfl dX8_lossPerLayer_21 ?_
    have e : loss (l, ex, wa, fo, du, se, co) m = 0 := by simp only [loss, c4, if_true, Bool.false_eq_true, if_false]
    rw [e]
    exact ⟨rfl, rfl⟩
set_option maxRecDepth 20000 in
set_option maxHeartbeats 1000000 in
theorem c_X8_sumEscaping {G : xG} {h : xH} {a t b : Nat} {s : AS} (hS : SH G h a t b s) (hW : WS s) {m : Int} (hm : 0 ≤ m ∧ m ≤ 40) : CC G MX8_sumEscaping [.ref a, .int (iI m)] h (qI (sumF (escF (loss s m)) s.1) h) := by
  obtain ⟨l, ex, wa, fo, du, se, co⟩ := s
  have hS0 := hS
  obtain ⟨gt, gb, ⟨ma, mt, mb⟩, ⟨nta, nba, ntb⟩, fa, ft, fb, hl, hr⟩ := hS
  have hl : l.length ≤ 200 := hl
  have hr : sr gt gb l := hr
  have fa : h.2 a = .inr (5, [.ref t, .ref b, .int (iI (l.length : Int)), .int (iI ex), .int fo, .int (iI wa), .int (iI (b2 du)), .int (iI (b2 se)), .int (iI (b2 co))]) := fa
  have hW0 := hW
  obtain ⟨h1, hnz, h4, hw0, hw1⟩ := hW
  have h1 : 1 ≤ l.length := h1
  have h4 : hgt l ≤ 4000 := h4
  have hw0 : 0 ≤ wa := hw0
  have hw1 : wa ≤ 40 := hw1
  have hnz : ∀ x ∈ l, x ≠ 0 := hnz
  have hg0 := hgt_nn l
  have hgl := hgt_ge l hnz
  have hlo : 0 ≤ loss (l, ex, wa, fo, du, se, co) m ∧ loss (l, ex, wa, fo, du, se, co) m ≤ 40 := loss_b (s := (l, ex, wa, fo, du, se, co)) ⟨hw0, hw1⟩ hm
  have L : ∀ i, i ≤ l.length → RR G MX8_sumEscaping 11 [(0, .ref a), (1, .int (iI m)), (2, .int (iI (loss (l, ex, wa, fo, du, se, co) m))), (3, .int (iI (sumF (escF (loss (l, ex, wa, fo, du, se, co) m)) (l.take i)))), (4, .int (iI ((i : Int))))] [] h (xm_R MX8_sumEscaping).cells (xm_R MX8_sumEscaping).slots (qI (sumF (escF (loss (l, ex, wa, fo, du, se, co) m)) l) h) := by
    refine down (fun i hi ih => ?_)
    refine r_iload dX8_sumEscaping_11 4 rfl ?_
    refine r_aload_n dX8_sumEscaping_13 0 rfl ?_
    refine r_get cl_X8 2 (by decide) kf_X8_19 dX8_sumEscaping_14 ma fa rfl ?_
    refine i_icmpge dX8_sumEscaping_17 (tgt := 50) (by decide) (by unfold in32; omega) (by unfold in32; omega) (fun c17 => ?_) (fun c17 => ?_)
    · refine r_iload_n dX8_sumEscaping_50 3 rfl ?_
      refine r_ireturn rfl rfl dX8_sumEscaping_51 ?_
      rw [show i = l.length by omega, take_all]
      exact ⟨rfl, rfl⟩
    · refine r_aload_n dX8_sumEscaping_20 0 rfl ?_
      refine r_get cl_X8 1 (by decide) kf_X8_15 dX8_sumEscaping_21 ma fa rfl ?_
      refine r_iload dX8_sumEscaping_24 4 rfl ?_
      refine i_zald i rfl dX8_sumEscaping_26 mb fb (by omega) (by decide) (hr i (by omega)).2 ?_
      refine i_ifeqb dX8_sumEscaping_27 (tgt := 44) (by decide) (fun c27 => ?_) (fun c27 => ?_)
      · refine i_iinc (ls' := [(0, .ref a), (1, .int (iI m)), (2, .int (iI (loss (l, ex, wa, fo, du, se, co) m))), (3, .int (iI (sumF (escF (loss (l, ex, wa, fo, du, se, co) m)) (l.take i)))), (4, .int (iI ((i : Int) + 1)))]) (1) (v := (i : Int) + 1) dX8_sumEscaping_44 4 rfl (by omega) (by decide) rfl ?_
        refine r_goto dX8_sumEscaping_47 (tgt := 11) (by decide) ?_
        have q := ih (i + 1) (by omega)  (by omega)
        rw [sumF_s (by omega)] at q
        rw [show escF (loss (l, ex, wa, fo, du, se, co) m) (l.getD i 0) = 0 from if_neg (by rw [c27]; decide), Int.add_zero] at q
        exact q
      · have ec := sz_le (l := l) (i := i) (by omega)
        have ea := sz_nn (l.getD i 0)
        refine r_iload_n dX8_sumEscaping_30 3 rfl ?_
        refine r_iload_n dX8_sumEscaping_31 2 rfl ?_
        refine r_aload_n dX8_sumEscaping_32 0 rfl ?_
        refine r_get cl_X8 0 (by decide) kf_X8_9 dX8_sumEscaping_33 ma fa rfl ?_
        refine r_iload dX8_sumEscaping_36 4 rfl ?_
        refine i_iald i rfl dX8_sumEscaping_38 mt ft (by omega) (by decide) (hr i (by omega)).1 ?_
        refine i_min (kv_X8_sumEscaping_71 1 (by decide)) rfl dX8_sumEscaping_39 (by unfold in32; omega) (by unfold in32; omega) ?_
        refine i_add dX8_sumEscaping_42 ?_
        refine r_istore_n (ls' := [(0, .ref a), (1, .int (iI m)), (2, .int (iI (loss (l, ex, wa, fo, du, se, co) m))), (3, .int (iI ((sumF (escF (loss (l, ex, wa, fo, du, se, co) m)) (l.take i)) + (min (loss (l, ex, wa, fo, du, se, co) m) (sz (l.getD i 0)))))), (4, .int (iI ((i : Int))))]) dX8_sumEscaping_43 (by decide) rfl ?_
        refine i_iinc (ls' := [(0, .ref a), (1, .int (iI m)), (2, .int (iI (loss (l, ex, wa, fo, du, se, co) m))), (3, .int (iI ((sumF (escF (loss (l, ex, wa, fo, du, se, co) m)) (l.take i)) + (min (loss (l, ex, wa, fo, du, se, co) m) (sz (l.getD i 0)))))), (4, .int (iI ((i : Int) + 1)))]) (1) (v := (i : Int) + 1) dX8_sumEscaping_44 4 rfl (by omega) (by decide) rfl ?_
        refine r_goto dX8_sumEscaping_47 (tgt := 11) (by decide) ?_
        have q := ih (i + 1) (by omega)  (by omega)
        rw [sumF_s (by omega)] at q
        rw [show escF (loss (l, ex, wa, fo, du, se, co) m) (l.getD i 0) = min (loss (l, ex, wa, fo, du, se, co) m) (sz (l.getD i 0)) from if_pos c27] at q
        exact q
  show RR G MX8_sumEscaping 0 [(0, .ref a), (1, .int (iI m))] [] h (xm_R MX8_sumEscaping).cells (xm_R MX8_sumEscaping).slots (qI (sumF (escF (loss (l, ex, wa, fo, du, se, co) m)) l) h)
  refine r_aload_n dX8_sumEscaping_0 0 rfl ?_
  refine r_iload_n dX8_sumEscaping_1 1 rfl ?_
  refine p_callV (As := [.int (iI m)]) (b := a) (rest := []) (w := (some (.int (iI (loss (l, ex, wa, fo, du, se, co) m))))) (st' := [.int (iI (loss (l, ex, wa, fo, du, se, co) m))]) kv_X8_sumEscaping_68 dX8_sumEscaping_2 rfl rfl (Nat.le_of_ble_eq_true rfl) (Nat.le_of_ble_eq_true rfl) (x_rv ma fa rfl) rfl rfl (c_X8_lossPerLayer hS0 hW0 hm) rfl (fun h9 e9 => ?_)
  subst e9
  refine r_istore_n (ls' := [(0, .ref a), (1, .int (iI m)), (2, .int (iI (loss (l, ex, wa, fo, du, se, co) m)))]) dX8_sumEscaping_5 (by decide) rfl ?_
  refine i_const (0) dX8_sumEscaping_6 ?_
  refine r_istore_n (ls' := [(0, .ref a), (1, .int (iI m)), (2, .int (iI (loss (l, ex, wa, fo, du, se, co) m))), (3, .int (iI 0))]) dX8_sumEscaping_7 (by decide) rfl ?_
  refine i_const (0) dX8_sumEscaping_8 ?_
  refine r_istore (ls' := [(0, .ref a), (1, .int (iI m)), (2, .int (iI (loss (l, ex, wa, fo, du, se, co) m))), (3, .int (iI 0)), (4, .int (iI 0))]) dX8_sumEscaping_9 (by decide) rfl ?_
  exact L 0 (by omega)
set_option maxRecDepth 20000 in
set_option maxHeartbeats 1000000 in
theorem c_X8_thicknessRolled {G : xG} {h : xH} {a t b : Nat} {s : AS} (hS : SH G h a t b s) (hW : WS s) {i : Nat} (hi : i < s.1.length) {f lo : Int} (hf : 2 ≤ f ∧ f ≤ 4) (hlo : 0 ≤ lo ∧ lo ≤ 40) : CC G MX8_thicknessRolled [.ref a, .int (iI ((i : Int))), .int (iI f), .int (iI lo)] h (qI (rt f lo (s.1.getD i 0)) h) := by
  obtain ⟨l, ex, wa, fo, du, se, co⟩ := s
  have hS0 := hS
  obtain ⟨gt, gb, ⟨ma, mt, mb⟩, ⟨nta, nba, ntb⟩, fa, ft, fb, hl, hr⟩ := hS
  have hl : l.length ≤ 200 := hl
  have hr : sr gt gb l := hr
  have fa : h.2 a = .inr (5, [.ref t, .ref b, .int (iI (l.length : Int)), .int (iI ex), .int fo, .int (iI wa), .int (iI (b2 du)), .int (iI (b2 se)), .int (iI (b2 co))]) := fa
  obtain ⟨h1, hnz, h4, hw0, hw1⟩ := hW
  have h1 : 1 ≤ l.length := h1
  have h4 : hgt l ≤ 4000 := h4
  have hw0 : 0 ≤ wa := hw0
  have hw1 : wa ≤ 40 := hw1
  have hnz : ∀ x ∈ l, x ≠ 0 := hnz
  have hg0 := hgt_nn l
  have hgl := hgt_ge l hnz
  have hi : i < l.length := hi
  have ec := sz_le hi
  have ea := sz_nn (l.getD i 0)
  have ef : 0 ≤ sz (l.getD i 0) / f ∧ sz (l.getD i 0) / f ≤ sz (l.getD i 0) := ⟨Int.ediv_nonneg ea (by omega), Int.ediv_le_self _ ea⟩
  show RR G MX8_thicknessRolled 0 [(0, .ref a), (1, .int (iI ((i : Int)))), (2, .int (iI f)), (3, .int (iI lo))] [] h (xm_R MX8_thicknessRolled).cells (xm_R MX8_thicknessRolled).slots (qI (rt f lo (l.getD i 0)) h)
  refine r_iload_n dX8_thicknessRolled_0 2 rfl ?_
  refine i_const (2) dX8_thicknessRolled_1 ?_
  refine i_icmpge dX8_thicknessRolled_2 (tgt := 12) (by decide) (by unfold in32; omega) ⟨by decide, by decide⟩ (fun c2 => ?_) (fun c2 => ?_)
  · refine r_aload_n dX8_thicknessRolled_12 0 rfl ?_
    refine r_get cl_X8 1 (by decide) kf_X8_15 dX8_thicknessRolled_13 ma fa rfl ?_
    refine r_iload_n dX8_thicknessRolled_16 1 rfl ?_
    refine i_zald i rfl dX8_thicknessRolled_17 mb fb (by omega) (by decide) (hr i (by omega)).2 ?_
    refine i_ifeqb dX8_thicknessRolled_18 (tgt := 36) (by decide) (fun c18 => ?_) (fun c18 => ?_)
    · refine i_const (1) dX8_thicknessRolled_36 ?_
      refine r_aload_n dX8_thicknessRolled_37 0 rfl ?_
      refine r_get cl_X8 0 (by decide) kf_X8_9 dX8_thicknessRolled_38 ma fa rfl ?_
      refine r_iload_n dX8_thicknessRolled_41 1 rfl ?_
      refine i_iald i rfl dX8_thicknessRolled_42 mt ft (by omega) (by decide) (hr i (by omega)).1 ?_
      refine r_iload_n dX8_thicknessRolled_43 2 rfl ?_
      refine i_div dX8_thicknessRolled_44 (by unfold in32; omega) (by unfold in32; omega) (by omega) (by omega) ?_
      refine i_max (kv_X8_thicknessRolled_62 0 (by decide)) rfl dX8_thicknessRolled_45 ⟨by decide, by decide⟩ (by unfold in32; omega) ?_
      refine r_ireturn rfl rfl dX8_thicknessRolled_48 ?_
      have e : rt f lo (l.getD i 0) = max 1 ((sz (l.getD i 0)) / f) := by simp only [rt, c18, if_true, Bool.false_eq_true, if_false]
      rw [e]
      exact ⟨rfl, rfl⟩
    · refine i_const (0) dX8_thicknessRolled_21 ?_
      refine r_aload_n dX8_thicknessRolled_22 0 rfl ?_
      refine r_get cl_X8 0 (by decide) kf_X8_9 dX8_thicknessRolled_23 ma fa rfl ?_
      refine r_iload_n dX8_thicknessRolled_26 1 rfl ?_
      refine i_iald i rfl dX8_thicknessRolled_27 mt ft (by omega) (by decide) (hr i (by omega)).1 ?_
      refine r_iload_n dX8_thicknessRolled_28 3 rfl ?_
      refine i_sub dX8_thicknessRolled_29 ?_
      refine i_max (kv_X8_thicknessRolled_62 0 (by decide)) rfl dX8_thicknessRolled_30 ⟨by decide, by decide⟩ (by unfold in32; omega) ?_
      refine r_iload_n dX8_thicknessRolled_33 2 rfl ?_
      refine i_div dX8_thicknessRolled_34 (by unfold in32; omega) (by unfold in32; omega) (by omega) (by omega) ?_
      refine r_ireturn rfl rfl dX8_thicknessRolled_35 ?_
      have e : rt f lo (l.getD i 0) = (max 0 ((sz (l.getD i 0)) - lo)) / f := by simp only [rt, c18, if_true, Bool.false_eq_true, if_false]
      rw [e]
      exact ⟨rfl, rfl⟩
  · refine r_aload_n dX8_thicknessRolled_5 0 rfl ?_
    refine r_get cl_X8 0 (by decide) kf_X8_9 dX8_thicknessRolled_6 ma fa rfl ?_
    refine r_iload_n dX8_thicknessRolled_9 1 rfl ?_
    refine i_iald i rfl dX8_thicknessRolled_10 mt ft (by omega) (by decide) (hr i (by omega)).1 ?_
    refine r_ireturn rfl rfl dX8_thicknessRolled_11 ?_
    exfalso
    omega
set_option maxRecDepth 20000 in
set_option maxHeartbeats 1000000 in
theorem c_X8_countBreaking {G : xG} {h : xH} {a t b : Nat} {s : AS} (hS : SH G h a t b s) (hW : WS s) {m : Int} (hm : 0 ≤ m ∧ m ≤ 40) {f : Int} (hf : 2 ≤ f ∧ f ≤ 4) : CC G MX8_countBreaking [.ref a, .int (iI f), .int (iI m)] h (qI (sumF (brF f (loss s m)) s.1) h) := by
  obtain ⟨l, ex, wa, fo, du, se, co⟩ := s
  have hS0 := hS
  obtain ⟨gt, gb, ⟨ma, mt, mb⟩, ⟨nta, nba, ntb⟩, fa, ft, fb, hl, hr⟩ := hS
  have hl : l.length ≤ 200 := hl
  have hr : sr gt gb l := hr
  have fa : h.2 a = .inr (5, [.ref t, .ref b, .int (iI (l.length : Int)), .int (iI ex), .int fo, .int (iI wa), .int (iI (b2 du)), .int (iI (b2 se)), .int (iI (b2 co))]) := fa
  have hW0 := hW
  obtain ⟨h1, hnz, h4, hw0, hw1⟩ := hW
  have h1 : 1 ≤ l.length := h1
  have h4 : hgt l ≤ 4000 := h4
  have hw0 : 0 ≤ wa := hw0
  have hw1 : wa ≤ 40 := hw1
  have hnz : ∀ x ∈ l, x ≠ 0 := hnz
  have hg0 := hgt_nn l
  have hgl := hgt_ge l hnz
  have hlo : 0 ≤ loss (l, ex, wa, fo, du, se, co) m ∧ loss (l, ex, wa, fo, du, se, co) m ≤ 40 := loss_b (s := (l, ex, wa, fo, du, se, co)) ⟨hw0, hw1⟩ hm
  have L : ∀ i, i ≤ l.length → RR G MX8_countBreaking 12 [(0, .ref a), (1, .int (iI f)), (2, .int (iI m)), (3, .int (iI (loss (l, ex, wa, fo, du, se, co) m))), (4, .int (iI (sumF (brF f (loss (l, ex, wa, fo, du, se, co) m)) (l.take i)))), (5, .int (iI ((i : Int))))] [] h (xm_R MX8_countBreaking).cells (xm_R MX8_countBreaking).slots (qI (sumF (brF f (loss (l, ex, wa, fo, du, se, co) m)) l) h) := by
    refine down (fun i hi ih => ?_)
    refine r_iload dX8_countBreaking_12 5 rfl ?_
    refine r_aload_n dX8_countBreaking_14 0 rfl ?_
    refine r_get cl_X8 2 (by decide) kf_X8_19 dX8_countBreaking_15 ma fa rfl ?_
    refine i_icmpge dX8_countBreaking_18 (tgt := 41) (by decide) (by unfold in32; omega) (by unfold in32; omega) (fun c18 => ?_) (fun c18 => ?_)
    · refine r_iload dX8_countBreaking_41 4 rfl ?_
      refine r_ireturn rfl rfl dX8_countBreaking_43 ?_
      rw [show i = l.length by omega, take_all]
      exact ⟨rfl, rfl⟩
    · have hi9 : i < l.length := by omega
      have ec := sz_le hi9
      have er := rt_b (x := l.getD i 0) hf hlo.1
      refine r_aload_n dX8_countBreaking_21 0 rfl ?_
      refine r_iload dX8_countBreaking_22 5 rfl ?_
      refine r_iload_n dX8_countBreaking_24 1 rfl ?_
      refine r_iload_n dX8_countBreaking_25 3 rfl ?_
      refine p_callV (As := [.int (iI ((i : Int))), .int (iI f), .int (iI (loss (l, ex, wa, fo, du, se, co) m))]) (b := a) (rest := []) (w := (some (.int (iI (rt f (loss (l, ex, wa, fo, du, se, co) m) (l.getD i 0)))))) (st' := [.int (iI (rt f (loss (l, ex, wa, fo, du, se, co) m) (l.getD i 0)))]) kv_X8_countBreaking_74 dX8_countBreaking_26 rfl rfl (Nat.le_of_ble_eq_true rfl) (Nat.le_of_ble_eq_true rfl) (x_rv ma fa rfl) rfl rfl (c_X8_thicknessRolled hS0 hW0 (i := i) hi9 hf hlo) rfl (fun h9 e9 => ?_)
      subst e9
      refine i_ifne dX8_countBreaking_29 (tgt := 35) (by decide) (by unfold in32; omega) (fun c29 => ?_) (fun c29 => ?_)
      · refine i_iinc (ls' := [(0, .ref a), (1, .int (iI f)), (2, .int (iI m)), (3, .int (iI (loss (l, ex, wa, fo, du, se, co) m))), (4, .int (iI (sumF (brF f (loss (l, ex, wa, fo, du, se, co) m)) (l.take i)))), (5, .int (iI ((i : Int) + 1)))]) (1) (v := (i : Int) + 1) dX8_countBreaking_35 5 rfl (by omega) (by decide) rfl ?_
        refine r_goto dX8_countBreaking_38 (tgt := 12) (by decide) ?_
        have q := ih (i + 1) (by omega) (by omega)
        rw [sumF_s hi9, show brF f (loss (l, ex, wa, fo, du, se, co) m) (l.getD i 0) = 0 from if_neg c29] at q
        rw [Int.add_zero] at q
        exact q
      · refine i_iinc (ls' := [(0, .ref a), (1, .int (iI f)), (2, .int (iI m)), (3, .int (iI (loss (l, ex, wa, fo, du, se, co) m))), (4, .int (iI ((sumF (brF f (loss (l, ex, wa, fo, du, se, co) m)) (l.take i)) + 1))), (5, .int (iI ((i : Int))))]) (1) (v := (sumF (brF f (loss (l, ex, wa, fo, du, se, co) m)) (l.take i)) + 1) dX8_countBreaking_32 4 rfl (by omega) (by decide) rfl ?_
        refine i_iinc (ls' := [(0, .ref a), (1, .int (iI f)), (2, .int (iI m)), (3, .int (iI (loss (l, ex, wa, fo, du, se, co) m))), (4, .int (iI ((sumF (brF f (loss (l, ex, wa, fo, du, se, co) m)) (l.take i)) + 1))), (5, .int (iI ((i : Int) + 1)))]) (1) (v := (i : Int) + 1) dX8_countBreaking_35 5 rfl (by omega) (by decide) rfl ?_
        refine r_goto dX8_countBreaking_38 (tgt := 12) (by decide) ?_
        have q := ih (i + 1) (by omega) (by omega)
        rw [sumF_s hi9, show brF f (loss (l, ex, wa, fo, du, se, co) m) (l.getD i 0) = 1 from if_pos c29] at q
        exact q
  show RR G MX8_countBreaking 0 [(0, .ref a), (1, .int (iI f)), (2, .int (iI m))] [] h (xm_R MX8_countBreaking).cells (xm_R MX8_countBreaking).slots (qI (sumF (brF f (loss (l, ex, wa, fo, du, se, co) m)) l) h)
  refine r_aload_n dX8_countBreaking_0 0 rfl ?_
  refine r_iload_n dX8_countBreaking_1 2 rfl ?_
  refine p_callV (As := [.int (iI m)]) (b := a) (rest := []) (w := (some (.int (iI (loss (l, ex, wa, fo, du, se, co) m))))) (st' := [.int (iI (loss (l, ex, wa, fo, du, se, co) m))]) kv_X8_countBreaking_68 dX8_countBreaking_2 rfl rfl (Nat.le_of_ble_eq_true rfl) (Nat.le_of_ble_eq_true rfl) (x_rv ma fa rfl) rfl rfl (c_X8_lossPerLayer hS0 hW0 hm) rfl (fun h9 e9 => ?_)
  subst e9
  refine r_istore_n (ls' := [(0, .ref a), (1, .int (iI f)), (2, .int (iI m)), (3, .int (iI (loss (l, ex, wa, fo, du, se, co) m)))]) dX8_countBreaking_5 (by decide) rfl ?_
  refine i_const (0) dX8_countBreaking_6 ?_
  refine r_istore (ls' := [(0, .ref a), (1, .int (iI f)), (2, .int (iI m)), (3, .int (iI (loss (l, ex, wa, fo, du, se, co) m))), (4, .int (iI 0))]) dX8_countBreaking_7 (by decide) rfl ?_
  refine i_const (0) dX8_countBreaking_9 ?_
  refine r_istore (ls' := [(0, .ref a), (1, .int (iI f)), (2, .int (iI m)), (3, .int (iI (loss (l, ex, wa, fo, du, se, co) m))), (4, .int (iI 0)), (5, .int (iI 0))]) dX8_countBreaking_10 (by decide) rfl ?_
  exact L 0 (by omega)
set_option maxRecDepth 20000 in
set_option maxHeartbeats 1000000 in
theorem c_X8_sumRolled {G : xG} {h : xH} {a t b : Nat} {s : AS} (hS : SH G h a t b s) (hW : WS s) {m : Int} (hm : 0 ≤ m ∧ m ≤ 40) {f : Int} (hf : 2 ≤ f ∧ f ≤ 4) : CC G MX8_sumRolled [.ref a, .int (iI f), .int (iI m)] h (qI (sumF (rt f (loss s m)) s.1) h) := by
  obtain ⟨l, ex, wa, fo, du, se, co⟩ := s
  have hS0 := hS
  obtain ⟨gt, gb, ⟨ma, mt, mb⟩, ⟨nta, nba, ntb⟩, fa, ft, fb, hl, hr⟩ := hS
  have hl : l.length ≤ 200 := hl
  have hr : sr gt gb l := hr
  have fa : h.2 a = .inr (5, [.ref t, .ref b, .int (iI (l.length : Int)), .int (iI ex), .int fo, .int (iI wa), .int (iI (b2 du)), .int (iI (b2 se)), .int (iI (b2 co))]) := fa
  have hW0 := hW
  obtain ⟨h1, hnz, h4, hw0, hw1⟩ := hW
  have h1 : 1 ≤ l.length := h1
  have h4 : hgt l ≤ 4000 := h4
  have hw0 : 0 ≤ wa := hw0
  have hw1 : wa ≤ 40 := hw1
  have hnz : ∀ x ∈ l, x ≠ 0 := hnz
  have hg0 := hgt_nn l
  have hgl := hgt_ge l hnz
  have hlo : 0 ≤ loss (l, ex, wa, fo, du, se, co) m ∧ loss (l, ex, wa, fo, du, se, co) m ≤ 40 := loss_b (s := (l, ex, wa, fo, du, se, co)) ⟨hw0, hw1⟩ hm
  have L : ∀ i, i ≤ l.length → RR G MX8_sumRolled 12 [(0, .ref a), (1, .int (iI f)), (2, .int (iI m)), (3, .int (iI (loss (l, ex, wa, fo, du, se, co) m))), (4, .int (iI (sumF (rt f (loss (l, ex, wa, fo, du, se, co) m)) (l.take i)))), (5, .int (iI ((i : Int))))] [] h (xm_R MX8_sumRolled).cells (xm_R MX8_sumRolled).slots (qI (sumF (rt f (loss (l, ex, wa, fo, du, se, co) m)) l) h) := by
    refine down (fun i hi ih => ?_)
    refine r_iload dX8_sumRolled_12 5 rfl ?_
    refine r_aload_n dX8_sumRolled_14 0 rfl ?_
    refine r_get cl_X8 2 (by decide) kf_X8_19 dX8_sumRolled_15 ma fa rfl ?_
    refine i_icmpge dX8_sumRolled_18 (tgt := 40) (by decide) (by unfold in32; omega) (by unfold in32; omega) (fun c18 => ?_) (fun c18 => ?_)
    · refine r_iload dX8_sumRolled_40 4 rfl ?_
      refine r_ireturn rfl rfl dX8_sumRolled_42 ?_
      rw [show i = l.length by omega, take_all]
      exact ⟨rfl, rfl⟩
    · have hi9 : i < l.length := by omega
      have ec := sz_le hi9
      have er := rt_b (x := l.getD i 0) hf hlo.1
      refine r_iload dX8_sumRolled_21 4 rfl ?_
      refine r_aload_n dX8_sumRolled_23 0 rfl ?_
      refine r_iload dX8_sumRolled_24 5 rfl ?_
      refine r_iload_n dX8_sumRolled_26 1 rfl ?_
      refine r_iload_n dX8_sumRolled_27 3 rfl ?_
      refine p_callV (As := [.int (iI ((i : Int))), .int (iI f), .int (iI (loss (l, ex, wa, fo, du, se, co) m))]) (b := a) (rest := [.int (iI (sumF (rt f (loss (l, ex, wa, fo, du, se, co) m)) (l.take i)))]) (w := (some (.int (iI (rt f (loss (l, ex, wa, fo, du, se, co) m) (l.getD i 0)))))) (st' := [.int (iI (rt f (loss (l, ex, wa, fo, du, se, co) m) (l.getD i 0))), .int (iI (sumF (rt f (loss (l, ex, wa, fo, du, se, co) m)) (l.take i)))]) kv_X8_sumRolled_74 dX8_sumRolled_28 rfl rfl (Nat.le_of_ble_eq_true rfl) (Nat.le_of_ble_eq_true rfl) (x_rv ma fa rfl) rfl rfl (c_X8_thicknessRolled hS0 hW0 (i := i) hi9 hf hlo) rfl (fun h9 e9 => ?_)
      subst e9
      refine i_add dX8_sumRolled_31 ?_
      refine r_istore (ls' := [(0, .ref a), (1, .int (iI f)), (2, .int (iI m)), (3, .int (iI (loss (l, ex, wa, fo, du, se, co) m))), (4, .int (iI ((sumF (rt f (loss (l, ex, wa, fo, du, se, co) m)) (l.take i)) + (rt f (loss (l, ex, wa, fo, du, se, co) m) (l.getD i 0))))), (5, .int (iI ((i : Int))))]) dX8_sumRolled_32 (by decide) rfl ?_
      refine i_iinc (ls' := [(0, .ref a), (1, .int (iI f)), (2, .int (iI m)), (3, .int (iI (loss (l, ex, wa, fo, du, se, co) m))), (4, .int (iI ((sumF (rt f (loss (l, ex, wa, fo, du, se, co) m)) (l.take i)) + (rt f (loss (l, ex, wa, fo, du, se, co) m) (l.getD i 0))))), (5, .int (iI ((i : Int) + 1)))]) (1) (v := (i : Int) + 1) dX8_sumRolled_34 5 rfl (by omega) (by decide) rfl ?_
      refine r_goto dX8_sumRolled_37 (tgt := 12) (by decide) ?_
      have q := ih (i + 1) (by omega) (by omega)
      rw [sumF_s hi9] at q
      exact q
  show RR G MX8_sumRolled 0 [(0, .ref a), (1, .int (iI f)), (2, .int (iI m))] [] h (xm_R MX8_sumRolled).cells (xm_R MX8_sumRolled).slots (qI (sumF (rt f (loss (l, ex, wa, fo, du, se, co) m)) l) h)
  refine r_aload_n dX8_sumRolled_0 0 rfl ?_
  refine r_iload_n dX8_sumRolled_1 2 rfl ?_
  refine p_callV (As := [.int (iI m)]) (b := a) (rest := []) (w := (some (.int (iI (loss (l, ex, wa, fo, du, se, co) m))))) (st' := [.int (iI (loss (l, ex, wa, fo, du, se, co) m))]) kv_X8_sumRolled_68 dX8_sumRolled_2 rfl rfl (Nat.le_of_ble_eq_true rfl) (Nat.le_of_ble_eq_true rfl) (x_rv ma fa rfl) rfl rfl (c_X8_lossPerLayer hS0 hW0 hm) rfl (fun h9 e9 => ?_)
  subst e9
  refine r_istore_n (ls' := [(0, .ref a), (1, .int (iI f)), (2, .int (iI m)), (3, .int (iI (loss (l, ex, wa, fo, du, se, co) m)))]) dX8_sumRolled_5 (by decide) rfl ?_
  refine i_const (0) dX8_sumRolled_6 ?_
  refine r_istore (ls' := [(0, .ref a), (1, .int (iI f)), (2, .int (iI m)), (3, .int (iI (loss (l, ex, wa, fo, du, se, co) m))), (4, .int (iI 0))]) dX8_sumRolled_7 (by decide) rfl ?_
  refine i_const (0) dX8_sumRolled_9 ?_
  refine r_istore (ls' := [(0, .ref a), (1, .int (iI f)), (2, .int (iI m)), (3, .int (iI (loss (l, ex, wa, fo, du, se, co) m))), (4, .int (iI 0)), (5, .int (iI 0))]) dX8_sumRolled_10 (by decide) rfl ?_
  exact L 0 (by omega)
set_option maxRecDepth 20000 in
set_option maxHeartbeats 1000000 in
theorem c_X8_warmthAfter {G : xG} {h : xH} {a t b : Nat} {s : AS} (hS : SH G h a t b s) (hW : WS s) (hG : GD G) {r : Int} (hr0 : 0 ≤ r ∧ r ≤ 40) {n : Nat} (hn : n ≤ 24) : CC G MX8_warmthAfter [.ref a, .int (iI ((n : Int))), .int (iI r)] h (qI (warmAt s r n) h) := by
  obtain ⟨l, ex, wa, fo, du, se, co⟩ := s
  have hS0 := hS
  obtain ⟨gt, gb, ⟨ma, mt, mb⟩, ⟨nta, nba, ntb⟩, fa, ft, fb, hl, hr⟩ := hS
  have hl : l.length ≤ 200 := hl
  have hr : sr gt gb l := hr
  have fa : h.2 a = .inr (5, [.ref t, .ref b, .int (iI (l.length : Int)), .int (iI ex), .int fo, .int (iI wa), .int (iI (b2 du)), .int (iI (b2 se)), .int (iI (b2 co))]) := fa
  obtain ⟨h1, hnz, h4, hw0, hw1⟩ := hW
  have h1 : 1 ≤ l.length := h1
  have h4 : hgt l ≤ 4000 := h4
  have hw0 : 0 ≤ wa := hw0
  have hw1 : wa ≤ 40 := hw1
  have hnz : ∀ x ∈ l, x ≠ 0 := hnz
  have hg0 := hgt_nn l
  have hgl := hgt_ge l hnz
  have L : ∀ i, i ≤ n → RR G MX8_warmthAfter 8 [(0, .ref a), (1, .int (iI ((n : Int)))), (2, .int (iI r)), (3, .int (iI (warmAt (l, ex, wa, fo, du, se, co) r i))), (4, .int (iI ((i : Int))))] [] h (xm_R MX8_warmthAfter).cells (xm_R MX8_warmthAfter).slots (qI (warmAt (l, ex, wa, fo, du, se, co) r n) h) := by
    refine down (fun i hi ih => ?_)
    have hwb := warmAt_b (s := (l, ex, wa, fo, du, se, co)) (r := r) ⟨hw0, hw1⟩ hr0 i
    refine r_iload dX8_warmthAfter_8 4 rfl ?_
    refine r_iload_n dX8_warmthAfter_10 1 rfl ?_
    refine i_icmpge dX8_warmthAfter_11 (tgt := 40) (by decide) (by unfold in32; omega) (by unfold in32; omega) (fun c11 => ?_) (fun c11 => ?_)
    · refine r_iload_n dX8_warmthAfter_40 3 rfl ?_
      refine r_ireturn rfl rfl dX8_warmthAfter_41 ?_
      rw [show i = n by omega]
      exact ⟨rfl, rfl⟩
    · refine r_aload_n dX8_warmthAfter_14 0 rfl ?_
      refine r_get cl_X8 8 (by decide) kf_X8_39 dX8_warmthAfter_15 ma fa rfl ?_
      refine i_ifeqb dX8_warmthAfter_18 (tgt := 28) (by decide) (fun c18 => ?_) (fun c18 => ?_)
      · refine r_iload_n dX8_warmthAfter_28 3 rfl ?_
        refine r_iload_n dX8_warmthAfter_29 2 rfl ?_
        refine p_callSN (As := [.int (iI (warmAt (l, ex, wa, fo, du, se, co) r i)), .int (iI r)]) (rest := []) (w := (some (.int (iI (drawn (warmAt (l, ex, wa, fo, du, se, co) r i) r))))) (st' := [.int (iI (drawn (warmAt (l, ex, wa, fo, du, se, co) r i) r))]) (kv_X8_warmthAfter_81 (gn_X8_81 hG)) dX8_warmthAfter_30 rfl rfl (Nat.le_of_ble_eq_true rfl) (Nat.le_of_ble_eq_true rfl) rfl rfl (c_X11_drawnToRoom (by omega) (by omega)) rfl (fun h9 e9 => ?_)
        subst e9
        refine r_istore_n (ls' := [(0, .ref a), (1, .int (iI ((n : Int)))), (2, .int (iI r)), (3, .int (iI (drawn (warmAt (l, ex, wa, fo, du, se, co) r i) r))), (4, .int (iI ((i : Int))))]) dX8_warmthAfter_33 (by decide) rfl ?_
        refine i_iinc (ls' := [(0, .ref a), (1, .int (iI ((n : Int)))), (2, .int (iI r)), (3, .int (iI (drawn (warmAt (l, ex, wa, fo, du, se, co) r i) r))), (4, .int (iI ((i : Int) + 1)))]) (1) (v := (i : Int) + 1) dX8_warmthAfter_34 4 rfl (by omega) (by decide) rfl ?_
        refine r_goto dX8_warmthAfter_37 (tgt := 8) (by decide) ?_
        have q := ih (i + 1) (by omega) (by omega)
        rw [show warmAt (l, ex, wa, fo, du, se, co) r (i + 1) = drawn (warmAt (l, ex, wa, fo, du, se, co) r i) r by simp only [warmAt, c18, if_true, Bool.false_eq_true, if_false]] at q
        exact q
      · refine r_iload_n dX8_warmthAfter_21 3 rfl ?_
        refine p_callSN (As := [.int (iI (warmAt (l, ex, wa, fo, du, se, co) r i))]) (rest := []) (w := (some (.int (iI (cooled (warmAt (l, ex, wa, fo, du, se, co) r i)))))) (st' := [.int (iI (cooled (warmAt (l, ex, wa, fo, du, se, co) r i)))]) (kv_X8_warmthAfter_78 (gn_X8_78 hG)) dX8_warmthAfter_22 rfl rfl (Nat.le_of_ble_eq_true rfl) (Nat.le_of_ble_eq_true rfl) rfl rfl (c_X11_cooledByFridge (by omega)) rfl (fun h9 e9 => ?_)
        subst e9
        refine r_goto dX8_warmthAfter_25 (tgt := 33) (by decide) ?_
        refine r_istore_n (ls' := [(0, .ref a), (1, .int (iI ((n : Int)))), (2, .int (iI r)), (3, .int (iI (cooled (warmAt (l, ex, wa, fo, du, se, co) r i)))), (4, .int (iI ((i : Int))))]) dX8_warmthAfter_33 (by decide) rfl ?_
        refine i_iinc (ls' := [(0, .ref a), (1, .int (iI ((n : Int)))), (2, .int (iI r)), (3, .int (iI (cooled (warmAt (l, ex, wa, fo, du, se, co) r i)))), (4, .int (iI ((i : Int) + 1)))]) (1) (v := (i : Int) + 1) dX8_warmthAfter_34 4 rfl (by omega) (by decide) rfl ?_
        refine r_goto dX8_warmthAfter_37 (tgt := 8) (by decide) ?_
        have q := ih (i + 1) (by omega) (by omega)
        rw [show warmAt (l, ex, wa, fo, du, se, co) r (i + 1) = cooled (warmAt (l, ex, wa, fo, du, se, co) r i) by simp only [warmAt, c18, if_true, Bool.false_eq_true, if_false]] at q
        exact q
  show RR G MX8_warmthAfter 0 [(0, .ref a), (1, .int (iI ((n : Int)))), (2, .int (iI r))] [] h (xm_R MX8_warmthAfter).cells (xm_R MX8_warmthAfter).slots (qI (warmAt (l, ex, wa, fo, du, se, co) r n) h)
  refine r_aload_n dX8_warmthAfter_0 0 rfl ?_
  refine r_get cl_X8 5 (by decide) kf_X8_29 dX8_warmthAfter_1 ma fa rfl ?_
  refine r_istore_n (ls' := [(0, .ref a), (1, .int (iI ((n : Int)))), (2, .int (iI r)), (3, .int (iI wa))]) dX8_warmthAfter_4 (by decide) rfl ?_
  refine i_const (0) dX8_warmthAfter_5 ?_
  refine r_istore (ls' := [(0, .ref a), (1, .int (iI ((n : Int)))), (2, .int (iI r)), (3, .int (iI wa)), (4, .int (iI 0))]) dX8_warmthAfter_6 (by decide) rfl ?_
  exact L 0 (by omega)
set_option maxRecDepth 20000 in
set_option maxHeartbeats 1000000 in
theorem c_X8_countHoursToSafety {G : xG} {h : xH} {a t b : Nat} {s : AS} (hS : SH G h a t b s) (hW : WS s) (hG : GD G) {m : Int} (hm : 5 ≤ m ∧ m ≤ 35) : CC G MX8_countHoursToSafety [.ref a, .int (iI m)] h (qI (safeH m 40 s.2.2.1) h) := by
  obtain ⟨l, ex, wa, fo, du, se, co⟩ := s
  have hS0 := hS
  obtain ⟨gt, gb, ⟨ma, mt, mb⟩, ⟨nta, nba, ntb⟩, fa, ft, fb, hl, hr⟩ := hS
  have hl : l.length ≤ 200 := hl
  have hr : sr gt gb l := hr
  have fa : h.2 a = .inr (5, [.ref t, .ref b, .int (iI (l.length : Int)), .int (iI ex), .int fo, .int (iI wa), .int (iI (b2 du)), .int (iI (b2 se)), .int (iI (b2 co))]) := fa
  obtain ⟨h1, hnz, h4, hw0, hw1⟩ := hW
  have h1 : 1 ≤ l.length := h1
  have h4 : hgt l ≤ 4000 := h4
  have hw0 : 0 ≤ wa := hw0
  have hw1 : wa ≤ 40 := hw1
  have hnz : ∀ x ∈ l, x ≠ 0 := hnz
  have hg0 := hgt_nn l
  have hgl := hgt_ge l hnz
  have L : ∀ (n : Nat) (w z : Int), 0 ≤ w ∧ w ≤ n → 0 ≤ z ∧ z + w ≤ 40 → RR G MX8_countHoursToSafety 7 [(0, .ref a), (1, .int (iI m)), (2, .int (iI w)), (3, .int (iI z))] [] h (xm_R MX8_countHoursToSafety).cells (xm_R MX8_countHoursToSafety).slots (qI (z + safeH m n w) h) := by
    intro n
    induction n with
    | zero =>
      intro w z hw hz
      refine r_iload_n dX8_countHoursToSafety_7 2 rfl ?_
      refine r_iload_n dX8_countHoursToSafety_8 1 rfl ?_
      refine i_icmple dX8_countHoursToSafety_9 (tgt := 29) (by decide) (by unfold in32; omega) (by unfold in32; omega) (fun c9 => ?_) (fun c9 => ?_)
      · refine r_iload_n dX8_countHoursToSafety_29 3 rfl ?_
        refine r_ireturn rfl rfl dX8_countHoursToSafety_30 ?_
        have e : z + safeH m 0 w = z := by rw [safeH]; omega
        rw [e]
        exact ⟨rfl, rfl⟩
      · refine r_iload_n dX8_countHoursToSafety_12 3 rfl ?_
        refine i_bipush (40) (by decide) dX8_countHoursToSafety_13 ?_
        refine i_icmpge dX8_countHoursToSafety_15 (tgt := 29) (by decide) (by unfold in32; omega) ⟨by decide, by decide⟩ (fun c15 => ?_) (fun c15 => ?_)
        · refine r_iload_n dX8_countHoursToSafety_29 3 rfl ?_
          refine r_ireturn rfl rfl dX8_countHoursToSafety_30 ?_
          exfalso
          omega
        · refine r_iload_n dX8_countHoursToSafety_18 2 rfl ?_
          refine p_callSN (As := [.int (iI w)]) (rest := []) (w := (some (.int (iI (cooled w))))) (st' := [.int (iI (cooled w))]) (kv_X8_countHoursToSafety_78 (gn_X8_78 hG)) dX8_countHoursToSafety_19 rfl rfl (Nat.le_of_ble_eq_true rfl) (Nat.le_of_ble_eq_true rfl) rfl rfl (c_X11_cooledByFridge (by omega)) rfl (fun h9 e9 => ?_)
          subst e9
          refine r_istore_n (ls' := [(0, .ref a), (1, .int (iI m)), (2, .int (iI (cooled w))), (3, .int (iI z))]) dX8_countHoursToSafety_22 (by decide) rfl ?_
          refine i_iinc (ls' := [(0, .ref a), (1, .int (iI m)), (2, .int (iI (cooled w))), (3, .int (iI (z + 1)))]) (1) (v := z + 1) dX8_countHoursToSafety_23 3 rfl (by omega) (by decide) rfl ?_
          refine r_goto dX8_countHoursToSafety_26 (tgt := 7) (by decide) ?_
          exfalso
          omega
    | succ n ih =>
      intro w z hw hz
      refine r_iload_n dX8_countHoursToSafety_7 2 rfl ?_
      refine r_iload_n dX8_countHoursToSafety_8 1 rfl ?_
      refine i_icmple dX8_countHoursToSafety_9 (tgt := 29) (by decide) (by unfold in32; omega) (by unfold in32; omega) (fun c9 => ?_) (fun c9 => ?_)
      · refine r_iload_n dX8_countHoursToSafety_29 3 rfl ?_
        refine r_ireturn rfl rfl dX8_countHoursToSafety_30 ?_
        have e : z + safeH m (n + 1) w = z := by rw [safeH, if_neg (by omega)]; omega
        rw [e]
        exact ⟨rfl, rfl⟩
      · refine r_iload_n dX8_countHoursToSafety_12 3 rfl ?_
        refine i_bipush (40) (by decide) dX8_countHoursToSafety_13 ?_
        refine i_icmpge dX8_countHoursToSafety_15 (tgt := 29) (by decide) (by unfold in32; omega) ⟨by decide, by decide⟩ (fun c15 => ?_) (fun c15 => ?_)
        · refine r_iload_n dX8_countHoursToSafety_29 3 rfl ?_
          refine r_ireturn rfl rfl dX8_countHoursToSafety_30 ?_
          exfalso
          omega
        · refine r_iload_n dX8_countHoursToSafety_18 2 rfl ?_
          refine p_callSN (As := [.int (iI w)]) (rest := []) (w := (some (.int (iI (cooled w))))) (st' := [.int (iI (cooled w))]) (kv_X8_countHoursToSafety_78 (gn_X8_78 hG)) dX8_countHoursToSafety_19 rfl rfl (Nat.le_of_ble_eq_true rfl) (Nat.le_of_ble_eq_true rfl) rfl rfl (c_X11_cooledByFridge (by omega)) rfl (fun h9 e9 => ?_)
          subst e9
          refine r_istore_n (ls' := [(0, .ref a), (1, .int (iI m)), (2, .int (iI (cooled w))), (3, .int (iI z))]) dX8_countHoursToSafety_22 (by decide) rfl ?_
          refine i_iinc (ls' := [(0, .ref a), (1, .int (iI m)), (2, .int (iI (cooled w))), (3, .int (iI (z + 1)))]) (1) (v := z + 1) dX8_countHoursToSafety_23 3 rfl (by omega) (by decide) rfl ?_
          refine r_goto dX8_countHoursToSafety_26 (tgt := 7) (by decide) ?_
          have e2 : 0 ≤ cooled w ∧ cooled w ≤ w - 1 := by unfold cooled; split <;> omega
          have q2 := ih (cooled w) (z + 1) (by omega) (by omega)
          rw [show z + safeH m (n + 1) w = z + 1 + safeH m n (cooled w) by rw [safeH, if_pos (by omega)]; omega]
          exact q2
  show RR G MX8_countHoursToSafety 0 [(0, .ref a), (1, .int (iI m))] [] h (xm_R MX8_countHoursToSafety).cells (xm_R MX8_countHoursToSafety).slots (qI (safeH m 40 wa) h)
  refine r_aload_n dX8_countHoursToSafety_0 0 rfl ?_
  refine r_get cl_X8 5 (by decide) kf_X8_29 dX8_countHoursToSafety_1 ma fa rfl ?_
  refine r_istore_n (ls' := [(0, .ref a), (1, .int (iI m)), (2, .int (iI wa))]) dX8_countHoursToSafety_4 (by decide) rfl ?_
  refine i_const (0) dX8_countHoursToSafety_5 ?_
  refine r_istore_n (ls' := [(0, .ref a), (1, .int (iI m)), (2, .int (iI wa)), (3, .int (iI 0))]) dX8_countHoursToSafety_6 (by decide) rfl ?_
  have q2 := L 40 wa 0 (by omega) (by omega)
  rw [Int.zero_add] at q2
  exact q2
