/-! ===== the bench: questions, and why a change is not made ===== -/
def rFold (B : AB) (z q : Int) : Nat := if hasS B z then (if isFac q then (if obst (sAt B z) q = 0 then 0 else 3) else 2) else 1
def rRollS (s : AS) (m f : Int) : Nat := if s.2.2.2.2.2.2 then 3 else if sumF (rt f (loss s m)) s.1 = 0 then 3 else 0
def rRoll (B : AB) (z f : Int) : Nat := if hasS B z then (if isFac f then rRollS (sAt B z) B.1.2.1 f else 2) else 1
def rDustS (s : AS) (fl : Int) : Nat := if s.2.2.2.2.2.2 then 3 else if s.2.2.2.2.1 then 3 else if fl < 1 then 3 else 0
def rDust (B : AB) (z : Int) : Nat := if hasS B z then rDustS (sAt B z) B.1.2.2.1 else 1
def rSealS (s : AS) : Nat := if s.2.2.2.2.2.2 then 3 else if s.2.2.2.2.2.1 then 3 else 0
def rSeal (B : AB) (z : Int) : Nat := if hasS B z then rSealS (sAt B z) else 1
def isC (s : AS) : Bool := s.2.2.2.2.2.2
def isSe (s : AS) : Bool := s.2.2.2.2.2.1
def rCoolS (s : AS) (L : List AS) : Nat := if s.2.2.2.2.2.2 then 3 else if 3 ≤ cnt isC L then 3 else 0
def rCool (B : AB) (z : Int) : Nat := if hasS B z then rCoolS (sAt B z) B.2 else 1
def rTakeS (s : AS) : Nat := if s.2.2.2.2.2.2 then 0 else 3
def rTake (B : AB) (z : Int) : Nat := if hasS B z then rTakeS (sAt B z) else 1
def rHours (B : AB) (n : Int) : Nat := if n < 1 then 2 else if 24 < n then 2 else if 9999 < B.1.2.2.2.1 + n then 3 else 0
def rCutS (s : AS) (n : Nat) : Nat := if s.2.2.2.2.2.2 then 3 else if 6 ≤ (n : Int) then 3 else 0
def rCut (B : AB) (z : Int) : Nat := if hasS B z then rCutS (sAt B z) B.2.length else 1
def rStackS (s s' : AS) : Nat := if s.2.2.2.2.2.2 then 3 else if s'.2.2.2.2.2.2 then 3 else if 200 < (s.1.length : Int) + (s'.1.length : Int) - (if jW s s' then 1 else 0) then 3 else if 4000 < hgt s.1 + hgt s'.1 then 3 else 0
def rStack (B : AB) (z y : Int) : Nat := if hasS B z then (if hasS B y then (if z = y then 2 else rStackS (sAt B z) (sAt B y)) else 1) else 1
def rButS (s : AS) (T : Int) : Nat := if s.2.2.2.2.2.2 then 3 else if 200 ≤ (s.1.length : Int) then 3 else if 4000 < hgt s.1 + T then 3 else 0
def rBut (B : AB) (z T : Int) : Nat := if hasS B z then (if T < 1 then 2 else if 400 < T then 2 else rButS (sAt B z) T) else 1
def rFlour (B : AB) (n : Int) : Nat := if n < 1 then 2 else if 50 < n then 2 else if 999 < B.1.2.2.1 + n then 3 else 0
theorem obst_b (s : AS) (q : Int) : in32 (obst s q) := by unfold obst in32; split <;> (try split) <;> (try split) <;> omega
theorem hgt_zero_lt {l : List Int} (h : 1 ≤ l.length) (hn : ∀ x ∈ l, x ≠ 0) : 1 ≤ hgt l := by have := hgt_ge l hn; omega
theorem sumF_rt {f lo : Int} (hf : 2 ≤ f ∧ f ≤ 4) (hl : 0 ≤ lo) (l : List Int) : 0 ≤ sumF (rt f lo) l ∧ sumF (rt f lo) l ≤ hgt l + l.length := by
  induction l with
  | nil => simp [sumF, hgt]
  | cons x t ih =>
    have h1 := rt_b (x := x) hf hl
    simp only [sumF, hgt, List.map_cons, List.sum_cons, List.length_cons] at ih ⊢
    omega
set_option maxRecDepth 20000 in
set_option maxHeartbeats 1000000 in
theorem c_X1_stateRefusal {G : xG} {h : xH} {K : xK} (hGK : GK G K) {c : Bool} : CC G MX1_stateRefusal [.int (iI (b2 c))] h (fun o h' => o = .inl (some (.ref (K.1 (if c then 3 else 0)))) ∧ h' = h) := by
  show RR G MX1_stateRefusal 0 [(0, .int (iI (b2 c)))] [] h (xm_R MX1_stateRefusal).cells (xm_R MX1_stateRefusal).slots (fun o h' => o = .inl (some (.ref (K.1 (if c then 3 else 0)))) ∧ h' = h)
  refine r_iload_n dX1_stateRefusal_0 0 rfl ?_
  refine i_ifeqb dX1_stateRefusal_1 (tgt := 10) (by decide) (fun c1 => ?_) (fun c1 => ?_)
  · refine r_gets (gk_R hGK 0 (by decide)) kg_X1_81 dX1_stateRefusal_10 ?_
    refine r_areturn rfl dX1_stateRefusal_13 ?_
    rw [c1]
    exact ⟨rfl, rfl⟩
  · refine r_gets (gk_R hGK 3 (by decide)) kg_X1_75 dX1_stateRefusal_4 ?_
    refine r_goto dX1_stateRefusal_7 (tgt := 13) (by decide) ?_
    refine r_areturn rfl dX1_stateRefusal_13 ?_
    rw [c1]
    exact ⟨rfl, rfl⟩
set_option maxRecDepth 20000 in
set_option maxHeartbeats 1000000 in
theorem c_X1_hasSheet {G : xG} {h : xH} {o A : Nat} {fp : List Nat} {B : AB} (hB : BN G h o A fp B) {z : Int} (hz : in32 z) : CC G MX1_hasSheet [.ref o, .int (iI z)] h (qI (b2 (hasS B z)) h) := by
  obtain ⟨⟨ro, me, fl, ho, ec, bk⟩, Ls⟩ := B
  have hB0 := hB
  obtain ⟨g, bs, F, hBo⟩ := hB
  have hBo0 := hBo
  obtain ⟨⟨mO, mA⟩, fO, fA, hL6, hLF, hK, hD, hfp⟩ := hBo
  have hL6 : Ls.length ≤ 6 := hL6
  have hLF : ∀ i, i < Ls.length → F i = Ls.getD i dS := hLF
  have fO : h.2 o = .inr (0, [.ref A, .int (iI (Ls.length : Int)), .int (iI ro), .int (iI me), .int (iI fl), .int (iI ho), .int (iI ec), .int (iI bk)]) := fO
  show RR G MX1_hasSheet 0 [(0, .ref o), (1, .int (iI z))] [] h (xm_R MX1_hasSheet).cells (xm_R MX1_hasSheet).slots (qI (b2 (hasS ((ro, me, fl, ho, ec, bk), Ls) z)) h)
  refine r_iload_n dX1_hasSheet_0 1 rfl ?_
  refine i_iflt dX1_hasSheet_1 (tgt := 16) (by decide) (by first | assumption | (unfold in32; omega)) (fun c1 => ?_) (fun c1 => ?_)
  · refine i_const (0) dX1_hasSheet_16 ?_
    refine r_ireturn rfl (b2_nar false) dX1_hasSheet_17 ?_
    have e : hasS ((ro, me, fl, ho, ec, bk), Ls) z = false := by simp [hasS]; omega
    rw [e]
    exact ⟨rfl, rfl⟩
  · refine r_iload_n dX1_hasSheet_4 1 rfl ?_
    refine r_aload_n dX1_hasSheet_5 0 rfl ?_
    refine r_get cl_X1 1 (by decide) kf_X1_31 dX1_hasSheet_6 mO fO rfl ?_
    refine i_icmpge dX1_hasSheet_9 (tgt := 16) (by decide) (by first | assumption | (unfold in32; omega)) (by first | assumption | (unfold in32; omega)) (fun c9 => ?_) (fun c9 => ?_)
    · refine i_const (0) dX1_hasSheet_16 ?_
      refine r_ireturn rfl (b2_nar false) dX1_hasSheet_17 ?_
      have e : hasS ((ro, me, fl, ho, ec, bk), Ls) z = false := by simp [hasS]; omega
      rw [e]
      exact ⟨rfl, rfl⟩
    · refine i_const (1) dX1_hasSheet_12 ?_
      refine r_goto dX1_hasSheet_13 (tgt := 17) (by decide) ?_
      refine r_ireturn rfl (b2_nar true) dX1_hasSheet_17 ?_
      have e : hasS ((ro, me, fl, ho, ec, bk), Ls) z = true := by simp [hasS]; omega
      rw [e]
      exact ⟨rfl, rfl⟩
def unsafeS (m : Int) (s : AS) : Bool := decide (m < s.2.2.1)
set_option maxRecDepth 20000 in
set_option maxHeartbeats 1000000 in
theorem c_X1_countSealed {G : xG} {h : xH} {o A : Nat} {fp : List Nat} {B : AB} (hB : BN G h o A fp B) (hWB : WB B) : CC G MX1_countSealed [.ref o] h (qI (cnt isSe B.2) h) := by
  obtain ⟨⟨ro, me, fl, ho, ec, bk⟩, Ls⟩ := B
  have hB0 := hB
  obtain ⟨g, bs, F, hBo⟩ := hB
  have hBo0 := hBo
  obtain ⟨⟨mO, mA⟩, fO, fA, hL6, hLF, hK, hD, hfp⟩ := hBo
  have hL6 : Ls.length ≤ 6 := hL6
  have hLF : ∀ i, i < Ls.length → F i = Ls.getD i dS := hLF
  have fO : h.2 o = .inr (0, [.ref A, .int (iI (Ls.length : Int)), .int (iI ro), .int (iI me), .int (iI fl), .int (iI ho), .int (iI ec), .int (iI bk)]) := fO
  obtain ⟨hWs, hro, hme, hfl, hho⟩ := hWB
  have hro : 0 ≤ ro ∧ ro ≤ 40 := hro
  have hme : 5 ≤ me ∧ me ≤ 35 := hme
  have hfl : 0 ≤ fl ∧ fl ≤ 999 := hfl
  have hho : 0 ≤ ho ∧ ho ≤ 9999 := hho
  have hWs : ∀ s ∈ Ls, WS s := hWs
  have L : ∀ i, i ≤ Ls.length → RR G MX1_countSealed 4 [(0, .ref o), (1, .int (iI (cnt isSe (Ls.take i)))), (2, .int (iI ((i : Int))))] [] h (xm_R MX1_countSealed).cells (xm_R MX1_countSealed).slots (qI (cnt isSe Ls) h) := by
    refine down (fun i hi ih => ?_)
    refine r_iload_n dX1_countSealed_4 2 rfl ?_
    refine r_aload_n dX1_countSealed_5 0 rfl ?_
    refine r_get cl_X1 1 (by decide) kf_X1_31 dX1_countSealed_6 mO fO rfl ?_
    refine i_icmpge dX1_countSealed_9 (tgt := 33) (by decide) (by unfold in32; omega) (by unfold in32; omega) (fun c9 => ?_) (fun c9 => ?_)
    · refine r_iload_n dX1_countSealed_33 1 rfl ?_
      refine r_ireturn rfl rfl dX1_countSealed_34 ?_
      rw [show i = Ls.length by omega, take_allS]
      exact ⟨rfl, rfl⟩
    · have hi : i < Ls.length := (by omega)
      have hi6 : i < 6 := by omega
      obtain ⟨a, t, b, hbs⟩ : ∃ a t b, bs i = (a, t, b) := ⟨_, _, _, rfl⟩
      have hgi : g i = some a := by rw [(hK i hi6).1, hbs]
      obtain ⟨s, hs⟩ : ∃ s, s = Ls.getD i dS := ⟨_, rfl⟩
      have hS : SH G h a t b s := by have z := (hK i hi6).2; rw [hbs, hLF i hi, ← hs] at z; exact z
      have hW : WS s := by rw [hs]; exact hWs _ (getD_memS hi)
      obtain ⟨l, ex, wa, fo, du, se, co⟩ := s
      have hS0 := hS
      obtain ⟨gt, gb, ⟨ma, mt, mb⟩, ⟨nta, nba, ntb⟩, fa, ft, fb, hl, hr⟩ := hS
      have hl : l.length ≤ 200 := hl
      have hr : sr gt gb l := hr
      have fa : h.2 a = .inr (5, [.ref t, .ref b, .int (iI (l.length : Int)), .int (iI ex), .int fo, .int (iI wa), .int (iI (b2 du)), .int (iI (b2 se)), .int (iI (b2 co))]) := fa
      have hW0 := hW
      obtain ⟨h1, hnz, h4, hw0, hw1⟩ := hW
      have h1 : 1 ≤ l.length := h1
      have h4 : hgt l ≤ 4000 := h4
      have hw0 : 0 ≤ wa := hw0
      have hw1 : wa ≤ 40 := hw1
      have hnz : ∀ x ∈ l, x ≠ 0 := hnz
      have hg0 := hgt_nn l
      have hgl := hgt_ge l hnz
      have noa : o ≠ a := ne_oo fO fa (by decide)
      have not : o ≠ t := ne_oi fO ft
      have nob : o ≠ b := ne_oi fO fb
      have nAa : A ≠ a := (ne_oi fa fA).symm
      have nAt : A ≠ t := ne_sz fA ft (by decide)
      have nAb : A ≠ b := ne_sz fA fb (by decide)
      refine r_aload_n dX1_countSealed_12 0 rfl ?_
      refine r_get cl_X1 0 (by decide) kf_X1_11 dX1_countSealed_13 mO fO rfl ?_
      refine r_iload_n dX1_countSealed_16 2 rfl ?_
      refine i_aald rfl i rfl dX1_countSealed_17 mA fA (by omega) (by decide) hgi ?_
      refine r_get cl_X8 7 (by decide) kf_X1_68 dX1_countSealed_18 ma fa rfl ?_
      refine i_ifeqb dX1_countSealed_21 (tgt := 27) (by decide) (fun c21 => ?_) (fun c21 => ?_)
      · refine i_iinc (ls' := [(0, .ref o), (1, .int (iI (cnt isSe (Ls.take i)))), (2, .int (iI ((i : Int) + 1)))]) (1) (v := (i : Int) + 1) dX1_countSealed_27 2 rfl (by omega) (by decide) rfl ?_
        refine r_goto dX1_countSealed_30 (tgt := 4) (by decide) ?_
        have q := ih (i + 1) (by omega) (by omega)
        rw [cnt_f hi (by rw [← hs]; exact c21)] at q
        exact q
      · refine i_iinc (ls' := [(0, .ref o), (1, .int (iI ((cnt isSe (Ls.take i)) + 1))), (2, .int (iI ((i : Int))))]) (1) (v := (cnt isSe (Ls.take i)) + 1) dX1_countSealed_24 1 rfl (by omega) (by decide) rfl ?_
        refine i_iinc (ls' := [(0, .ref o), (1, .int (iI ((cnt isSe (Ls.take i)) + 1))), (2, .int (iI ((i : Int) + 1)))]) (1) (v := (i : Int) + 1) dX1_countSealed_27 2 rfl (by omega) (by decide) rfl ?_
        refine r_goto dX1_countSealed_30 (tgt := 4) (by decide) ?_
        have q := ih (i + 1) (by omega) (by omega)
        rw [cnt_t hi (by rw [← hs]; exact c21)] at q
        exact q
  show RR G MX1_countSealed 0 [(0, .ref o)] [] h (xm_R MX1_countSealed).cells (xm_R MX1_countSealed).slots (qI (cnt isSe Ls) h)
  refine i_const (0) dX1_countSealed_0 ?_
  refine r_istore_n (ls' := [(0, .ref o), (1, .int (iI 0))]) dX1_countSealed_1 (by decide) rfl ?_
  refine i_const (0) dX1_countSealed_2 ?_
  refine r_istore_n (ls' := [(0, .ref o), (1, .int (iI 0)), (2, .int (iI 0))]) dX1_countSealed_3 (by decide) rfl ?_
  exact L 0 (by omega)
set_option maxRecDepth 20000 in
set_option maxHeartbeats 1000000 in
theorem c_X1_countCooling {G : xG} {h : xH} {o A : Nat} {fp : List Nat} {B : AB} (hB : BN G h o A fp B) (hWB : WB B) : CC G MX1_countCooling [.ref o] h (qI (cnt isC B.2) h) := by
  obtain ⟨⟨ro, me, fl, ho, ec, bk⟩, Ls⟩ := B
  have hB0 := hB
  obtain ⟨g, bs, F, hBo⟩ := hB
  have hBo0 := hBo
  obtain ⟨⟨mO, mA⟩, fO, fA, hL6, hLF, hK, hD, hfp⟩ := hBo
  have hL6 : Ls.length ≤ 6 := hL6
  have hLF : ∀ i, i < Ls.length → F i = Ls.getD i dS := hLF
  have fO : h.2 o = .inr (0, [.ref A, .int (iI (Ls.length : Int)), .int (iI ro), .int (iI me), .int (iI fl), .int (iI ho), .int (iI ec), .int (iI bk)]) := fO
  obtain ⟨hWs, hro, hme, hfl, hho⟩ := hWB
  have hro : 0 ≤ ro ∧ ro ≤ 40 := hro
  have hme : 5 ≤ me ∧ me ≤ 35 := hme
  have hfl : 0 ≤ fl ∧ fl ≤ 999 := hfl
  have hho : 0 ≤ ho ∧ ho ≤ 9999 := hho
  have hWs : ∀ s ∈ Ls, WS s := hWs
  have L : ∀ i, i ≤ Ls.length → RR G MX1_countCooling 4 [(0, .ref o), (1, .int (iI (cnt isC (Ls.take i)))), (2, .int (iI ((i : Int))))] [] h (xm_R MX1_countCooling).cells (xm_R MX1_countCooling).slots (qI (cnt isC Ls) h) := by
    refine down (fun i hi ih => ?_)
    refine r_iload_n dX1_countCooling_4 2 rfl ?_
    refine r_aload_n dX1_countCooling_5 0 rfl ?_
    refine r_get cl_X1 1 (by decide) kf_X1_31 dX1_countCooling_6 mO fO rfl ?_
    refine i_icmpge dX1_countCooling_9 (tgt := 33) (by decide) (by unfold in32; omega) (by unfold in32; omega) (fun c9 => ?_) (fun c9 => ?_)
    · refine r_iload_n dX1_countCooling_33 1 rfl ?_
      refine r_ireturn rfl rfl dX1_countCooling_34 ?_
      rw [show i = Ls.length by omega, take_allS]
      exact ⟨rfl, rfl⟩
    · have hi : i < Ls.length := (by omega)
      have hi6 : i < 6 := by omega
      obtain ⟨a, t, b, hbs⟩ : ∃ a t b, bs i = (a, t, b) := ⟨_, _, _, rfl⟩
      have hgi : g i = some a := by rw [(hK i hi6).1, hbs]
      obtain ⟨s, hs⟩ : ∃ s, s = Ls.getD i dS := ⟨_, rfl⟩
      have hS : SH G h a t b s := by have z := (hK i hi6).2; rw [hbs, hLF i hi, ← hs] at z; exact z
      have hW : WS s := by rw [hs]; exact hWs _ (getD_memS hi)
      obtain ⟨l, ex, wa, fo, du, se, co⟩ := s
      have hS0 := hS
      obtain ⟨gt, gb, ⟨ma, mt, mb⟩, ⟨nta, nba, ntb⟩, fa, ft, fb, hl, hr⟩ := hS
      have hl : l.length ≤ 200 := hl
      have hr : sr gt gb l := hr
      have fa : h.2 a = .inr (5, [.ref t, .ref b, .int (iI (l.length : Int)), .int (iI ex), .int fo, .int (iI wa), .int (iI (b2 du)), .int (iI (b2 se)), .int (iI (b2 co))]) := fa
      have hW0 := hW
      obtain ⟨h1, hnz, h4, hw0, hw1⟩ := hW
      have h1 : 1 ≤ l.length := h1
      have h4 : hgt l ≤ 4000 := h4
      have hw0 : 0 ≤ wa := hw0
      have hw1 : wa ≤ 40 := hw1
      have hnz : ∀ x ∈ l, x ≠ 0 := hnz
      have hg0 := hgt_nn l
      have hgl := hgt_ge l hnz
      have noa : o ≠ a := ne_oo fO fa (by decide)
      have not : o ≠ t := ne_oi fO ft
      have nob : o ≠ b := ne_oi fO fb
      have nAa : A ≠ a := (ne_oi fa fA).symm
      have nAt : A ≠ t := ne_sz fA ft (by decide)
      have nAb : A ≠ b := ne_sz fA fb (by decide)
      refine r_aload_n dX1_countCooling_12 0 rfl ?_
      refine r_get cl_X1 0 (by decide) kf_X1_11 dX1_countCooling_13 mO fO rfl ?_
      refine r_iload_n dX1_countCooling_16 2 rfl ?_
      refine i_aald rfl i rfl dX1_countCooling_17 mA fA (by omega) (by decide) hgi ?_
      refine r_get cl_X8 8 (by decide) kf_X1_72 dX1_countCooling_18 ma fa rfl ?_
      refine i_ifeqb dX1_countCooling_21 (tgt := 27) (by decide) (fun c21 => ?_) (fun c21 => ?_)
      · refine i_iinc (ls' := [(0, .ref o), (1, .int (iI (cnt isC (Ls.take i)))), (2, .int (iI ((i : Int) + 1)))]) (1) (v := (i : Int) + 1) dX1_countCooling_27 2 rfl (by omega) (by decide) rfl ?_
        refine r_goto dX1_countCooling_30 (tgt := 4) (by decide) ?_
        have q := ih (i + 1) (by omega) (by omega)
        rw [cnt_f hi (by rw [← hs]; exact c21)] at q
        exact q
      · refine i_iinc (ls' := [(0, .ref o), (1, .int (iI ((cnt isC (Ls.take i)) + 1))), (2, .int (iI ((i : Int))))]) (1) (v := (cnt isC (Ls.take i)) + 1) dX1_countCooling_24 1 rfl (by omega) (by decide) rfl ?_
        refine i_iinc (ls' := [(0, .ref o), (1, .int (iI ((cnt isC (Ls.take i)) + 1))), (2, .int (iI ((i : Int) + 1)))]) (1) (v := (i : Int) + 1) dX1_countCooling_27 2 rfl (by omega) (by decide) rfl ?_
        refine r_goto dX1_countCooling_30 (tgt := 4) (by decide) ?_
        have q := ih (i + 1) (by omega) (by omega)
        rw [cnt_t hi (by rw [← hs]; exact c21)] at q
        exact q
  show RR G MX1_countCooling 0 [(0, .ref o)] [] h (xm_R MX1_countCooling).cells (xm_R MX1_countCooling).slots (qI (cnt isC Ls) h)
  refine i_const (0) dX1_countCooling_0 ?_
  refine r_istore_n (ls' := [(0, .ref o), (1, .int (iI 0))]) dX1_countCooling_1 (by decide) rfl ?_
  refine i_const (0) dX1_countCooling_2 ?_
  refine r_istore_n (ls' := [(0, .ref o), (1, .int (iI 0)), (2, .int (iI 0))]) dX1_countCooling_3 (by decide) rfl ?_
  exact L 0 (by omega)
set_option maxRecDepth 20000 in
set_option maxHeartbeats 1000000 in
theorem c_X1_countUnsafe {G : xG} {h : xH} {o A : Nat} {fp : List Nat} {B : AB} (hB : BN G h o A fp B) (hWB : WB B) : CC G MX1_countUnsafe [.ref o] h (qI (cnt (unsafeS B.1.2.1) B.2) h) := by
  obtain ⟨⟨ro, me, fl, ho, ec, bk⟩, Ls⟩ := B
  have hB0 := hB
  obtain ⟨g, bs, F, hBo⟩ := hB
  have hBo0 := hBo
  obtain ⟨⟨mO, mA⟩, fO, fA, hL6, hLF, hK, hD, hfp⟩ := hBo
  have hL6 : Ls.length ≤ 6 := hL6
  have hLF : ∀ i, i < Ls.length → F i = Ls.getD i dS := hLF
  have fO : h.2 o = .inr (0, [.ref A, .int (iI (Ls.length : Int)), .int (iI ro), .int (iI me), .int (iI fl), .int (iI ho), .int (iI ec), .int (iI bk)]) := fO
  obtain ⟨hWs, hro, hme, hfl, hho⟩ := hWB
  have hro : 0 ≤ ro ∧ ro ≤ 40 := hro
  have hme : 5 ≤ me ∧ me ≤ 35 := hme
  have hfl : 0 ≤ fl ∧ fl ≤ 999 := hfl
  have hho : 0 ≤ ho ∧ ho ≤ 9999 := hho
  have hWs : ∀ s ∈ Ls, WS s := hWs
  have L : ∀ i, i ≤ Ls.length → RR G MX1_countUnsafe 4 [(0, .ref o), (1, .int (iI (cnt (unsafeS me) (Ls.take i)))), (2, .int (iI ((i : Int))))] [] h (xm_R MX1_countUnsafe).cells (xm_R MX1_countUnsafe).slots (qI (cnt (unsafeS me) Ls) h) := by
    refine down (fun i hi ih => ?_)
    refine r_iload_n dX1_countUnsafe_4 2 rfl ?_
    refine r_aload_n dX1_countUnsafe_5 0 rfl ?_
    refine r_get cl_X1 1 (by decide) kf_X1_31 dX1_countUnsafe_6 mO fO rfl ?_
    refine i_icmpge dX1_countUnsafe_9 (tgt := 37) (by decide) (by unfold in32; omega) (by unfold in32; omega) (fun c9 => ?_) (fun c9 => ?_)
    · refine r_iload_n dX1_countUnsafe_37 1 rfl ?_
      refine r_ireturn rfl rfl dX1_countUnsafe_38 ?_
      rw [show i = Ls.length by omega, take_allS]
      exact ⟨rfl, rfl⟩
    · have hi : i < Ls.length := (by omega)
      have hi6 : i < 6 := by omega
      obtain ⟨a, t, b, hbs⟩ : ∃ a t b, bs i = (a, t, b) := ⟨_, _, _, rfl⟩
      have hgi : g i = some a := by rw [(hK i hi6).1, hbs]
      obtain ⟨s, hs⟩ : ∃ s, s = Ls.getD i dS := ⟨_, rfl⟩
      have hS : SH G h a t b s := by have z := (hK i hi6).2; rw [hbs, hLF i hi, ← hs] at z; exact z
      have hW : WS s := by rw [hs]; exact hWs _ (getD_memS hi)
      obtain ⟨l, ex, wa, fo, du, se, co⟩ := s
      have hS0 := hS
      obtain ⟨gt, gb, ⟨ma, mt, mb⟩, ⟨nta, nba, ntb⟩, fa, ft, fb, hl, hr⟩ := hS
      have hl : l.length ≤ 200 := hl
      have hr : sr gt gb l := hr
      have fa : h.2 a = .inr (5, [.ref t, .ref b, .int (iI (l.length : Int)), .int (iI ex), .int fo, .int (iI wa), .int (iI (b2 du)), .int (iI (b2 se)), .int (iI (b2 co))]) := fa
      have hW0 := hW
      obtain ⟨h1, hnz, h4, hw0, hw1⟩ := hW
      have h1 : 1 ≤ l.length := h1
      have h4 : hgt l ≤ 4000 := h4
      have hw0 : 0 ≤ wa := hw0
      have hw1 : wa ≤ 40 := hw1
      have hnz : ∀ x ∈ l, x ≠ 0 := hnz
      have hg0 := hgt_nn l
      have hgl := hgt_ge l hnz
      have noa : o ≠ a := ne_oo fO fa (by decide)
      have not : o ≠ t := ne_oi fO ft
      have nob : o ≠ b := ne_oi fO fb
      have nAa : A ≠ a := (ne_oi fa fA).symm
      have nAt : A ≠ t := ne_sz fA ft (by decide)
      have nAb : A ≠ b := ne_sz fA fb (by decide)
      refine r_aload_n dX1_countUnsafe_12 0 rfl ?_
      refine r_get cl_X1 0 (by decide) kf_X1_11 dX1_countUnsafe_13 mO fO rfl ?_
      refine r_iload_n dX1_countUnsafe_16 2 rfl ?_
      refine i_aald rfl i rfl dX1_countUnsafe_17 mA fA (by omega) (by decide) hgi ?_
      refine r_get cl_X8 5 (by decide) kf_X1_62 dX1_countUnsafe_18 ma fa rfl ?_
      refine r_aload_n dX1_countUnsafe_21 0 rfl ?_
      refine r_get cl_X1 3 (by decide) kf_X1_38 dX1_countUnsafe_22 mO fO rfl ?_
      refine i_icmple dX1_countUnsafe_25 (tgt := 31) (by decide) (by unfold in32; omega) (by unfold in32; omega) (fun c25 => ?_) (fun c25 => ?_)
      · refine i_iinc (ls' := [(0, .ref o), (1, .int (iI (cnt (unsafeS me) (Ls.take i)))), (2, .int (iI ((i : Int) + 1)))]) (1) (v := (i : Int) + 1) dX1_countUnsafe_31 2 rfl (by omega) (by decide) rfl ?_
        refine r_goto dX1_countUnsafe_34 (tgt := 4) (by decide) ?_
        have q := ih (i + 1) (by omega) (by omega)
        rw [cnt_f hi (by rw [← hs]; exact decide_eq_false (by show ¬ me < wa; omega))] at q
        exact q
      · refine i_iinc (ls' := [(0, .ref o), (1, .int (iI ((cnt (unsafeS me) (Ls.take i)) + 1))), (2, .int (iI ((i : Int))))]) (1) (v := (cnt (unsafeS me) (Ls.take i)) + 1) dX1_countUnsafe_28 1 rfl (by omega) (by decide) rfl ?_
        refine i_iinc (ls' := [(0, .ref o), (1, .int (iI ((cnt (unsafeS me) (Ls.take i)) + 1))), (2, .int (iI ((i : Int) + 1)))]) (1) (v := (i : Int) + 1) dX1_countUnsafe_31 2 rfl (by omega) (by decide) rfl ?_
        refine r_goto dX1_countUnsafe_34 (tgt := 4) (by decide) ?_
        have q := ih (i + 1) (by omega) (by omega)
        rw [cnt_t hi (by rw [← hs]; exact decide_eq_true (by show me < wa; omega))] at q
        exact q
  show RR G MX1_countUnsafe 0 [(0, .ref o)] [] h (xm_R MX1_countUnsafe).cells (xm_R MX1_countUnsafe).slots (qI (cnt (unsafeS me) Ls) h)
  refine i_const (0) dX1_countUnsafe_0 ?_
  refine r_istore_n (ls' := [(0, .ref o), (1, .int (iI 0))]) dX1_countUnsafe_1 (by decide) rfl ?_
  refine i_const (0) dX1_countUnsafe_2 ?_
  refine r_istore_n (ls' := [(0, .ref o), (1, .int (iI 0)), (2, .int (iI 0))]) dX1_countUnsafe_3 (by decide) rfl ?_
  exact L 0 (by omega)
def dgS (s : AS) : Int := s.2.2.1
def lnS (s : AS) : Int := (s.1.length : Int)
set_option maxRecDepth 20000 in
set_option maxHeartbeats 1000000 in
theorem c_X1_findWarmest {G : xG} {h : xH} {o A : Nat} {fp : List Nat} {B : AB} (hB : BN G h o A fp B) (hWB : WB B) : CC G MX1_findWarmest [.ref o] h (qI (grt dgS B.2) h) := by
  obtain ⟨⟨ro, me, fl, ho, ec, bk⟩, Ls⟩ := B
  have hB0 := hB
  obtain ⟨g, bs, F, hBo⟩ := hB
  have hBo0 := hBo
  obtain ⟨⟨mO, mA⟩, fO, fA, hL6, hLF, hK, hD, hfp⟩ := hBo
  have hL6 : Ls.length ≤ 6 := hL6
  have hLF : ∀ i, i < Ls.length → F i = Ls.getD i dS := hLF
  have fO : h.2 o = .inr (0, [.ref A, .int (iI (Ls.length : Int)), .int (iI ro), .int (iI me), .int (iI fl), .int (iI ho), .int (iI ec), .int (iI bk)]) := fO
  obtain ⟨hWs, hro, hme, hfl, hho⟩ := hWB
  have hro : 0 ≤ ro ∧ ro ≤ 40 := hro
  have hme : 5 ≤ me ∧ me ≤ 35 := hme
  have hfl : 0 ≤ fl ∧ fl ≤ 999 := hfl
  have hho : 0 ≤ ho ∧ ho ≤ 9999 := hho
  have hWs : ∀ s ∈ Ls, WS s := hWs
  have L : ∀ i, i ≤ Ls.length → 1 ≤ i → RR G MX1_findWarmest 4 [(0, .ref o), (1, .int (iI ((bst dgS Ls i : Int)))), (2, .int (iI ((i : Int))))] [] h (xm_R MX1_findWarmest).cells (xm_R MX1_findWarmest).slots (qI (grt dgS Ls) h) := by
    refine down (fun i hi ih => ?_)
    intro hi1
    have hlt := bst_lt dgS Ls i
    refine r_iload_n dX1_findWarmest_4 2 rfl ?_
    refine r_aload_n dX1_findWarmest_5 0 rfl ?_
    refine r_get cl_X1 1 (by decide) kf_X1_31 dX1_findWarmest_6 mO fO rfl ?_
    refine i_icmpge dX1_findWarmest_9 (tgt := 45) (by decide) (by unfold in32; omega) (by unfold in32; omega) (fun c9 => ?_) (fun c9 => ?_)
    · refine r_iload_n dX1_findWarmest_45 1 rfl ?_
      refine r_ireturn rfl rfl dX1_findWarmest_46 ?_
      have e : grt dgS Ls = (bst dgS Ls i : Int) := by rw [grt, if_neg (by omega), show i = Ls.length by omega]
      rw [e]
      exact ⟨rfl, rfl⟩
    · refine r_iload_n dX1_findWarmest_12 1 rfl ?_
      refine i_iflt dX1_findWarmest_13 (tgt := 37) (by decide) (by unfold in32; omega) (fun c13 => ?_) (fun c13 => ?_)
      · refine r_iload_n dX1_findWarmest_37 2 rfl ?_
        refine r_istore_n (ls' := [(0, .ref o), (1, .int (iI ((i : Int)))), (2, .int (iI ((i : Int))))]) dX1_findWarmest_38 (by decide) rfl ?_
        refine i_iinc (ls' := [(0, .ref o), (1, .int (iI ((i : Int)))), (2, .int (iI ((i : Int) + 1)))]) (1) (v := (i : Int) + 1) dX1_findWarmest_39 2 rfl (by omega) (by decide) rfl ?_
        refine r_goto dX1_findWarmest_42 (tgt := 4) (by decide) ?_
        exfalso
        omega
      · have hi : i < Ls.length := (by omega)
        have hi6 : i < 6 := by omega
        obtain ⟨a, t, b, hbs⟩ : ∃ a t b, bs i = (a, t, b) := ⟨_, _, _, rfl⟩
        have hgi : g i = some a := by rw [(hK i hi6).1, hbs]
        obtain ⟨s, hs⟩ : ∃ s, s = Ls.getD i dS := ⟨_, rfl⟩
        have hS : SH G h a t b s := by have z := (hK i hi6).2; rw [hbs, hLF i hi, ← hs] at z; exact z
        have hW : WS s := by rw [hs]; exact hWs _ (getD_memS hi)
        obtain ⟨l, ex, wa, fo, du, se, co⟩ := s
        have hS0 := hS
        obtain ⟨gt, gb, ⟨ma, mt, mb⟩, ⟨nta, nba, ntb⟩, fa, ft, fb, hl, hr⟩ := hS
        have hl : l.length ≤ 200 := hl
        have hr : sr gt gb l := hr
        have fa : h.2 a = .inr (5, [.ref t, .ref b, .int (iI (l.length : Int)), .int (iI ex), .int fo, .int (iI wa), .int (iI (b2 du)), .int (iI (b2 se)), .int (iI (b2 co))]) := fa
        have hW0 := hW
        obtain ⟨h1, hnz, h4, hw0, hw1⟩ := hW
        have h1 : 1 ≤ l.length := h1
        have h4 : hgt l ≤ 4000 := h4
        have hw0 : 0 ≤ wa := hw0
        have hw1 : wa ≤ 40 := hw1
        have hnz : ∀ x ∈ l, x ≠ 0 := hnz
        have hg0 := hgt_nn l
        have hgl := hgt_ge l hnz
        have noa : o ≠ a := ne_oo fO fa (by decide)
        have not : o ≠ t := ne_oi fO ft
        have nob : o ≠ b := ne_oi fO fb
        have nAa : A ≠ a := (ne_oi fa fA).symm
        have nAt : A ≠ t := ne_sz fA ft (by decide)
        have nAb : A ≠ b := ne_sz fA fb (by decide)
        have hi' : (bst dgS Ls i) < Ls.length := (by omega)
        have hi6' : (bst dgS Ls i) < 6 := by omega
        obtain ⟨a', t', b', hbs'⟩ : ∃ a t b, bs (bst dgS Ls i) = (a, t, b) := ⟨_, _, _, rfl⟩
        have hgi' : g (bst dgS Ls i) = some a' := by rw [(hK (bst dgS Ls i) hi6').1, hbs']
        obtain ⟨s', hs'⟩ : ∃ s, s = Ls.getD (bst dgS Ls i) dS := ⟨_, rfl⟩
        have hS' : SH G h a' t' b' s' := by have z := (hK (bst dgS Ls i) hi6').2; rw [hbs', hLF (bst dgS Ls i) hi', ← hs'] at z; exact z
        have hW' : WS s' := by rw [hs']; exact hWs _ (getD_memS hi')
        obtain ⟨l', ex', wa', fo', du', se', co'⟩ := s'
        have hS0' := hS'
        obtain ⟨gt', gb', ⟨ma', mt', mb'⟩, ⟨nta', nba', ntb'⟩, fa', ft', fb', hl', hr'⟩ := hS'
        have hl' : l'.length ≤ 200 := hl'
        have hr' : sr gt' gb' l' := hr'
        have fa' : h.2 a' = .inr (5, [.ref t', .ref b', .int (iI (l'.length : Int)), .int (iI ex'), .int fo', .int (iI wa'), .int (iI (b2 du')), .int (iI (b2 se')), .int (iI (b2 co'))]) := fa'
        have hW0'' := hW'
        obtain ⟨h1', hnz', h4', hw0', hw1'⟩ := hW'
        have h1' : 1 ≤ l'.length := h1'
        have h4' : hgt l' ≤ 4000 := h4'
        have hw0' : 0 ≤ wa' := hw0'
        have hw1' : wa' ≤ 40 := hw1'
        have hnz' : ∀ x ∈ l', x ≠ 0 := hnz'
        have hg0' := hgt_nn l'
        have hgl' := hgt_ge l' hnz'
        have noa' : o ≠ a' := ne_oo fO fa' (by decide)
        have not' : o ≠ t' := ne_oi fO ft'
        have nob' : o ≠ b' := ne_oi fO fb'
        have nAa' : A ≠ a' := (ne_oi fa' fA).symm
        have nAt' : A ≠ t' := ne_sz fA ft' (by decide)
        have nAb' : A ≠ b' := ne_sz fA fb' (by decide)
        refine r_aload_n dX1_findWarmest_16 0 rfl ?_
        refine r_get cl_X1 0 (by decide) kf_X1_11 dX1_findWarmest_17 mO fO rfl ?_
        refine r_iload_n dX1_findWarmest_20 2 rfl ?_
        refine i_aald rfl i rfl dX1_findWarmest_21 mA fA (by omega) (by decide) hgi ?_
        refine r_get cl_X8 5 (by decide) kf_X1_62 dX1_findWarmest_22 ma fa rfl ?_
        refine r_aload_n dX1_findWarmest_25 0 rfl ?_
        refine r_get cl_X1 0 (by decide) kf_X1_11 dX1_findWarmest_26 mO fO rfl ?_
        refine r_iload_n dX1_findWarmest_29 1 rfl ?_
        refine i_aald rfl (bst dgS Ls i) rfl dX1_findWarmest_30 mA fA (by omega) (by decide) hgi' ?_
        refine r_get cl_X8 5 (by decide) kf_X1_62 dX1_findWarmest_31 ma' fa' rfl ?_
        refine i_icmple dX1_findWarmest_34 (tgt := 39) (by decide) (by unfold in32; omega) (by unfold in32; omega) (fun c34 => ?_) (fun c34 => ?_)
        · refine i_iinc (ls' := [(0, .ref o), (1, .int (iI ((bst dgS Ls i : Int)))), (2, .int (iI ((i : Int) + 1)))]) (1) (v := (i : Int) + 1) dX1_findWarmest_39 2 rfl (by omega) (by decide) rfl ?_
          refine r_goto dX1_findWarmest_42 (tgt := 4) (by decide) ?_
          have q := ih (i + 1) (by omega) (by omega) (by omega)
          skip
          rw [bst_f (by rw [← hs, ← hs']; show wa ≤ wa'; omega)] at q
          exact q
        · refine r_iload_n dX1_findWarmest_37 2 rfl ?_
          refine r_istore_n (ls' := [(0, .ref o), (1, .int (iI ((i : Int)))), (2, .int (iI ((i : Int))))]) dX1_findWarmest_38 (by decide) rfl ?_
          refine i_iinc (ls' := [(0, .ref o), (1, .int (iI ((i : Int)))), (2, .int (iI ((i : Int) + 1)))]) (1) (v := (i : Int) + 1) dX1_findWarmest_39 2 rfl (by omega) (by decide) rfl ?_
          refine r_goto dX1_findWarmest_42 (tgt := 4) (by decide) ?_
          have q := ih (i + 1) (by omega) (by omega) (by omega)
          skip
          rw [bst_t (by rw [← hs, ← hs']; show wa' < wa; omega)] at q
          exact q
  show RR G MX1_findWarmest 0 [(0, .ref o)] [] h (xm_R MX1_findWarmest).cells (xm_R MX1_findWarmest).slots (qI (grt dgS Ls) h)
  refine i_const (-1) dX1_findWarmest_0 ?_
  refine r_istore_n (ls' := [(0, .ref o), (1, .int (iI ((-1))))]) dX1_findWarmest_1 (by decide) rfl ?_
  refine i_const (0) dX1_findWarmest_2 ?_
  refine r_istore_n (ls' := [(0, .ref o), (1, .int (iI ((-1)))), (2, .int (iI 0))]) dX1_findWarmest_3 (by decide) rfl ?_
  refine r_iload_n dX1_findWarmest_4 2 rfl ?_
  refine r_aload_n dX1_findWarmest_5 0 rfl ?_
  refine r_get cl_X1 1 (by decide) kf_X1_31 dX1_findWarmest_6 mO fO rfl ?_
  refine i_icmpge dX1_findWarmest_9 (tgt := 45) (by decide) ⟨by decide, by decide⟩ (by unfold in32; omega) (fun c9 => ?_) (fun c9 => ?_)
  · refine r_iload_n dX1_findWarmest_45 1 rfl ?_
    refine r_ireturn rfl rfl dX1_findWarmest_46 ?_
    have e : grt dgS Ls = -1 := by rw [grt, if_pos (by omega)]
    rw [e]
    exact ⟨rfl, rfl⟩
  · refine r_iload_n dX1_findWarmest_12 1 rfl ?_
    refine i_iflt dX1_findWarmest_13 (tgt := 37) (by decide) ⟨by decide, by decide⟩ (fun _ => ?_) (fun c => absurd c (by decide))
    refine r_iload_n dX1_findWarmest_37 2 rfl ?_
    refine r_istore_n (ls' := [(0, .ref o), (1, .int (iI 0)), (2, .int (iI 0))]) dX1_findWarmest_38 (by decide) rfl ?_
    refine i_iinc (ls' := [(0, .ref o), (1, .int (iI 0)), (2, .int (iI 1))]) (1) (v := 1) dX1_findWarmest_39 2 rfl (by decide) (by decide) rfl ?_
    refine r_goto dX1_findWarmest_42 (tgt := 4) (by decide) ?_
    have q := L 1 (by omega) (by omega)
    rw [bst_1] at q
    exact q
set_option maxRecDepth 20000 in
set_option maxHeartbeats 1000000 in
theorem c_X1_findFinest {G : xG} {h : xH} {o A : Nat} {fp : List Nat} {B : AB} (hB : BN G h o A fp B) (hWB : WB B) : CC G MX1_findFinest [.ref o] h (qI (grt lnS B.2) h) := by
  obtain ⟨⟨ro, me, fl, ho, ec, bk⟩, Ls⟩ := B
  have hB0 := hB
  obtain ⟨g, bs, F, hBo⟩ := hB
  have hBo0 := hBo
  obtain ⟨⟨mO, mA⟩, fO, fA, hL6, hLF, hK, hD, hfp⟩ := hBo
  have hL6 : Ls.length ≤ 6 := hL6
  have hLF : ∀ i, i < Ls.length → F i = Ls.getD i dS := hLF
  have fO : h.2 o = .inr (0, [.ref A, .int (iI (Ls.length : Int)), .int (iI ro), .int (iI me), .int (iI fl), .int (iI ho), .int (iI ec), .int (iI bk)]) := fO
  obtain ⟨hWs, hro, hme, hfl, hho⟩ := hWB
  have hro : 0 ≤ ro ∧ ro ≤ 40 := hro
  have hme : 5 ≤ me ∧ me ≤ 35 := hme
  have hfl : 0 ≤ fl ∧ fl ≤ 999 := hfl
  have hho : 0 ≤ ho ∧ ho ≤ 9999 := hho
  have hWs : ∀ s ∈ Ls, WS s := hWs
  have L : ∀ i, i ≤ Ls.length → 1 ≤ i → RR G MX1_findFinest 4 [(0, .ref o), (1, .int (iI ((bst lnS Ls i : Int)))), (2, .int (iI ((i : Int))))] [] h (xm_R MX1_findFinest).cells (xm_R MX1_findFinest).slots (qI (grt lnS Ls) h) := by
    refine down (fun i hi ih => ?_)
    intro hi1
    have hlt := bst_lt lnS Ls i
    refine r_iload_n dX1_findFinest_4 2 rfl ?_
    refine r_aload_n dX1_findFinest_5 0 rfl ?_
    refine r_get cl_X1 1 (by decide) kf_X1_31 dX1_findFinest_6 mO fO rfl ?_
    refine i_icmpge dX1_findFinest_9 (tgt := 45) (by decide) (by unfold in32; omega) (by unfold in32; omega) (fun c9 => ?_) (fun c9 => ?_)
    · refine r_iload_n dX1_findFinest_45 1 rfl ?_
      refine r_ireturn rfl rfl dX1_findFinest_46 ?_
      have e : grt lnS Ls = (bst lnS Ls i : Int) := by rw [grt, if_neg (by omega), show i = Ls.length by omega]
      rw [e]
      exact ⟨rfl, rfl⟩
    · refine r_iload_n dX1_findFinest_12 1 rfl ?_
      refine i_iflt dX1_findFinest_13 (tgt := 37) (by decide) (by unfold in32; omega) (fun c13 => ?_) (fun c13 => ?_)
      · refine r_iload_n dX1_findFinest_37 2 rfl ?_
        refine r_istore_n (ls' := [(0, .ref o), (1, .int (iI ((i : Int)))), (2, .int (iI ((i : Int))))]) dX1_findFinest_38 (by decide) rfl ?_
        refine i_iinc (ls' := [(0, .ref o), (1, .int (iI ((i : Int)))), (2, .int (iI ((i : Int) + 1)))]) (1) (v := (i : Int) + 1) dX1_findFinest_39 2 rfl (by omega) (by decide) rfl ?_
        refine r_goto dX1_findFinest_42 (tgt := 4) (by decide) ?_
        exfalso
        omega
      · have hi : i < Ls.length := (by omega)
        have hi6 : i < 6 := by omega
        obtain ⟨a, t, b, hbs⟩ : ∃ a t b, bs i = (a, t, b) := ⟨_, _, _, rfl⟩
        have hgi : g i = some a := by rw [(hK i hi6).1, hbs]
        obtain ⟨s, hs⟩ : ∃ s, s = Ls.getD i dS := ⟨_, rfl⟩
        have hS : SH G h a t b s := by have z := (hK i hi6).2; rw [hbs, hLF i hi, ← hs] at z; exact z
        have hW : WS s := by rw [hs]; exact hWs _ (getD_memS hi)
        obtain ⟨l, ex, wa, fo, du, se, co⟩ := s
        have hS0 := hS
        obtain ⟨gt, gb, ⟨ma, mt, mb⟩, ⟨nta, nba, ntb⟩, fa, ft, fb, hl, hr⟩ := hS
        have hl : l.length ≤ 200 := hl
        have hr : sr gt gb l := hr
        have fa : h.2 a = .inr (5, [.ref t, .ref b, .int (iI (l.length : Int)), .int (iI ex), .int fo, .int (iI wa), .int (iI (b2 du)), .int (iI (b2 se)), .int (iI (b2 co))]) := fa
        have hW0 := hW
        obtain ⟨h1, hnz, h4, hw0, hw1⟩ := hW
        have h1 : 1 ≤ l.length := h1
        have h4 : hgt l ≤ 4000 := h4
        have hw0 : 0 ≤ wa := hw0
        have hw1 : wa ≤ 40 := hw1
        have hnz : ∀ x ∈ l, x ≠ 0 := hnz
        have hg0 := hgt_nn l
        have hgl := hgt_ge l hnz
        have noa : o ≠ a := ne_oo fO fa (by decide)
        have not : o ≠ t := ne_oi fO ft
        have nob : o ≠ b := ne_oi fO fb
        have nAa : A ≠ a := (ne_oi fa fA).symm
        have nAt : A ≠ t := ne_sz fA ft (by decide)
        have nAb : A ≠ b := ne_sz fA fb (by decide)
        have hi' : (bst lnS Ls i) < Ls.length := (by omega)
        have hi6' : (bst lnS Ls i) < 6 := by omega
        obtain ⟨a', t', b', hbs'⟩ : ∃ a t b, bs (bst lnS Ls i) = (a, t, b) := ⟨_, _, _, rfl⟩
        have hgi' : g (bst lnS Ls i) = some a' := by rw [(hK (bst lnS Ls i) hi6').1, hbs']
        obtain ⟨s', hs'⟩ : ∃ s, s = Ls.getD (bst lnS Ls i) dS := ⟨_, rfl⟩
        have hS' : SH G h a' t' b' s' := by have z := (hK (bst lnS Ls i) hi6').2; rw [hbs', hLF (bst lnS Ls i) hi', ← hs'] at z; exact z
        have hW' : WS s' := by rw [hs']; exact hWs _ (getD_memS hi')
        obtain ⟨l', ex', wa', fo', du', se', co'⟩ := s'
        have hS0' := hS'
        obtain ⟨gt', gb', ⟨ma', mt', mb'⟩, ⟨nta', nba', ntb'⟩, fa', ft', fb', hl', hr'⟩ := hS'
        have hl' : l'.length ≤ 200 := hl'
        have hr' : sr gt' gb' l' := hr'
        have fa' : h.2 a' = .inr (5, [.ref t', .ref b', .int (iI (l'.length : Int)), .int (iI ex'), .int fo', .int (iI wa'), .int (iI (b2 du')), .int (iI (b2 se')), .int (iI (b2 co'))]) := fa'
        have hW0'' := hW'
        obtain ⟨h1', hnz', h4', hw0', hw1'⟩ := hW'
        have h1' : 1 ≤ l'.length := h1'
        have h4' : hgt l' ≤ 4000 := h4'
        have hw0' : 0 ≤ wa' := hw0'
        have hw1' : wa' ≤ 40 := hw1'
        have hnz' : ∀ x ∈ l', x ≠ 0 := hnz'
        have hg0' := hgt_nn l'
        have hgl' := hgt_ge l' hnz'
        have noa' : o ≠ a' := ne_oo fO fa' (by decide)
        have not' : o ≠ t' := ne_oi fO ft'
        have nob' : o ≠ b' := ne_oi fO fb'
        have nAa' : A ≠ a' := (ne_oi fa' fA).symm
        have nAt' : A ≠ t' := ne_sz fA ft' (by decide)
        have nAb' : A ≠ b' := ne_sz fA fb' (by decide)
        refine r_aload_n dX1_findFinest_16 0 rfl ?_
        refine r_get cl_X1 0 (by decide) kf_X1_11 dX1_findFinest_17 mO fO rfl ?_
        refine r_iload_n dX1_findFinest_20 2 rfl ?_
        refine i_aald rfl i rfl dX1_findFinest_21 mA fA (by omega) (by decide) hgi ?_
        refine r_get cl_X8 2 (by decide) kf_X1_65 dX1_findFinest_22 ma fa rfl ?_
        refine r_aload_n dX1_findFinest_25 0 rfl ?_
        refine r_get cl_X1 0 (by decide) kf_X1_11 dX1_findFinest_26 mO fO rfl ?_
        refine r_iload_n dX1_findFinest_29 1 rfl ?_
        refine i_aald rfl (bst lnS Ls i) rfl dX1_findFinest_30 mA fA (by omega) (by decide) hgi' ?_
        refine r_get cl_X8 2 (by decide) kf_X1_65 dX1_findFinest_31 ma' fa' rfl ?_
        refine i_icmple dX1_findFinest_34 (tgt := 39) (by decide) (by unfold in32; omega) (by unfold in32; omega) (fun c34 => ?_) (fun c34 => ?_)
        · refine i_iinc (ls' := [(0, .ref o), (1, .int (iI ((bst lnS Ls i : Int)))), (2, .int (iI ((i : Int) + 1)))]) (1) (v := (i : Int) + 1) dX1_findFinest_39 2 rfl (by omega) (by decide) rfl ?_
          refine r_goto dX1_findFinest_42 (tgt := 4) (by decide) ?_
          have q := ih (i + 1) (by omega) (by omega) (by omega)
          rw [bst_f (by rw [← hs, ← hs']; show (l.length : Int) ≤ (l'.length : Int); omega)] at q
          exact q
        · refine r_iload_n dX1_findFinest_37 2 rfl ?_
          refine r_istore_n (ls' := [(0, .ref o), (1, .int (iI ((i : Int)))), (2, .int (iI ((i : Int))))]) dX1_findFinest_38 (by decide) rfl ?_
          refine i_iinc (ls' := [(0, .ref o), (1, .int (iI ((i : Int)))), (2, .int (iI ((i : Int) + 1)))]) (1) (v := (i : Int) + 1) dX1_findFinest_39 2 rfl (by omega) (by decide) rfl ?_
          refine r_goto dX1_findFinest_42 (tgt := 4) (by decide) ?_
          have q := ih (i + 1) (by omega) (by omega) (by omega)
          rw [bst_t (by rw [← hs, ← hs']; show (l'.length : Int) < (l.length : Int); omega)] at q
          exact q
  show RR G MX1_findFinest 0 [(0, .ref o)] [] h (xm_R MX1_findFinest).cells (xm_R MX1_findFinest).slots (qI (grt lnS Ls) h)
  refine i_const (-1) dX1_findFinest_0 ?_
  refine r_istore_n (ls' := [(0, .ref o), (1, .int (iI ((-1))))]) dX1_findFinest_1 (by decide) rfl ?_
  refine i_const (0) dX1_findFinest_2 ?_
  refine r_istore_n (ls' := [(0, .ref o), (1, .int (iI ((-1)))), (2, .int (iI 0))]) dX1_findFinest_3 (by decide) rfl ?_
  refine r_iload_n dX1_findFinest_4 2 rfl ?_
  refine r_aload_n dX1_findFinest_5 0 rfl ?_
  refine r_get cl_X1 1 (by decide) kf_X1_31 dX1_findFinest_6 mO fO rfl ?_
  refine i_icmpge dX1_findFinest_9 (tgt := 45) (by decide) ⟨by decide, by decide⟩ (by unfold in32; omega) (fun c9 => ?_) (fun c9 => ?_)
  · refine r_iload_n dX1_findFinest_45 1 rfl ?_
    refine r_ireturn rfl rfl dX1_findFinest_46 ?_
    have e : grt lnS Ls = -1 := by rw [grt, if_pos (by omega)]
    rw [e]
    exact ⟨rfl, rfl⟩
  · refine r_iload_n dX1_findFinest_12 1 rfl ?_
    refine i_iflt dX1_findFinest_13 (tgt := 37) (by decide) ⟨by decide, by decide⟩ (fun _ => ?_) (fun c => absurd c (by decide))
    refine r_iload_n dX1_findFinest_37 2 rfl ?_
    refine r_istore_n (ls' := [(0, .ref o), (1, .int (iI 0)), (2, .int (iI 0))]) dX1_findFinest_38 (by decide) rfl ?_
    refine i_iinc (ls' := [(0, .ref o), (1, .int (iI 0)), (2, .int (iI 1))]) (1) (v := 1) dX1_findFinest_39 2 rfl (by decide) (by decide) rfl ?_
    refine r_goto dX1_findFinest_42 (tgt := 4) (by decide) ?_
    have q := L 1 (by omega) (by omega)
    rw [bst_1] at q
    exact q
set_option maxRecDepth 20000 in
set_option maxHeartbeats 1000000 in
theorem c_X1_refusalOfFold {G : xG} {h : xH} {o A : Nat} {fp : List Nat} {B : AB} (hB : BN G h o A fp B) (hWB : WB B) {K : xK} (hGK : GK G K) {z : Int} (hz : in32 z) {q : Int} (hq : in32 q) : CC G MX1_refusalOfFold [.ref o, .int (iI z), .int (iI q)] h (fun o h' => o = .inl (some (.ref (K.1 (rFold B z q)))) ∧ h' = h) := by
  have hWB0 := hWB
  obtain ⟨⟨ro, me, fl, ho, ec, bk⟩, Ls⟩ := B
  have hB0 := hB
  obtain ⟨g, bs, F, hBo⟩ := hB
  have hBo0 := hBo
  obtain ⟨⟨mO, mA⟩, fO, fA, hL6, hLF, hK, hD, hfp⟩ := hBo
  have hL6 : Ls.length ≤ 6 := hL6
  have hLF : ∀ i, i < Ls.length → F i = Ls.getD i dS := hLF
  have fO : h.2 o = .inr (0, [.ref A, .int (iI (Ls.length : Int)), .int (iI ro), .int (iI me), .int (iI fl), .int (iI ho), .int (iI ec), .int (iI bk)]) := fO
  obtain ⟨hWs, hro, hme, hfl, hho⟩ := hWB
  have hro : 0 ≤ ro ∧ ro ≤ 40 := hro
  have hme : 5 ≤ me ∧ me ≤ 35 := hme
  have hfl : 0 ≤ fl ∧ fl ≤ 999 := hfl
  have hho : 0 ≤ ho ∧ ho ≤ 9999 := hho
  have hWs : ∀ s ∈ Ls, WS s := hWs
  have hG := gk_D hGK
  show RR G MX1_refusalOfFold 0 [(0, .ref o), (1, .int (iI z)), (2, .int (iI q))] [] h (xm_R MX1_refusalOfFold).cells (xm_R MX1_refusalOfFold).slots (fun o h' => o = .inl (some (.ref (K.1 (rFold ((ro, me, fl, ho, ec, bk), Ls) z q)))) ∧ h' = h)
  refine r_aload_n dX1_refusalOfFold_0 0 rfl ?_
  refine r_iload_n dX1_refusalOfFold_1 1 rfl ?_
  refine p_callV (As := [.int (iI z)]) (b := o) (rest := []) (w := (some (.int (iI (b2 (hasS ((ro, me, fl, ho, ec, bk), Ls) z)))))) (st' := [.int (iI (b2 (hasS ((ro, me, fl, ho, ec, bk), Ls) z)))]) kv_X1_refusalOfFold_84 dX1_refusalOfFold_2 rfl rfl (Nat.le_of_ble_eq_true rfl) (Nat.le_of_ble_eq_true rfl) (x_rv mO fO rfl) rfl rfl (c_X1_hasSheet hB0 hz) rfl (fun h9 e9 => ?_)
  rw [show h9 = h from e9]
  refine i_ifneb dX1_refusalOfFold_5 (tgt := 12) (by decide) (fun c5 => ?_) (fun c5 => ?_)
  · refine r_iload_n dX1_refusalOfFold_12 2 rfl ?_
    refine p_callSN (As := [.int (iI q)]) (rest := []) (w := (some (.int (iI (b2 (isFac q)))))) (st' := [.int (iI (b2 (isFac q)))]) (kv_X1_refusalOfFold_91 (gn_X1_91 hG)) dX1_refusalOfFold_13 rfl rfl (Nat.le_of_ble_eq_true rfl) (Nat.le_of_ble_eq_true rfl) rfl rfl (c_X11_isFactor hq) rfl (fun h9 e9 => ?_)
    rw [show h9 = h from e9]
    refine i_ifneb dX1_refusalOfFold_16 (tgt := 23) (by decide) (fun c16 => ?_) (fun c16 => ?_)
    · obtain ⟨hz0, hz1⟩ := hasS_t c5
      have hz1 : z < (Ls.length : Int) := hz1
      obtain ⟨i, rfl⟩ : ∃ i : Nat, z = (i : Int) := ⟨z.toNat, by omega⟩
      have hi : i < Ls.length := (by omega)
      have hi6 : i < 6 := by omega
      obtain ⟨a, t, b, hbs⟩ : ∃ a t b, bs i = (a, t, b) := ⟨_, _, _, rfl⟩
      have hgi : g i = some a := by rw [(hK i hi6).1, hbs]
      obtain ⟨s, hs⟩ : ∃ s, s = Ls.getD i dS := ⟨_, rfl⟩
      have hS : SH G h a t b s := by have z := (hK i hi6).2; rw [hbs, hLF i hi, ← hs] at z; exact z
      have hW : WS s := by rw [hs]; exact hWs _ (getD_memS hi)
      obtain ⟨l, ex, wa, fo, du, se, co⟩ := s
      have hS0 := hS
      obtain ⟨gt, gb, ⟨ma, mt, mb⟩, ⟨nta, nba, ntb⟩, fa, ft, fb, hl, hr⟩ := hS
      have hl : l.length ≤ 200 := hl
      have hr : sr gt gb l := hr
      have fa : h.2 a = .inr (5, [.ref t, .ref b, .int (iI (l.length : Int)), .int (iI ex), .int fo, .int (iI wa), .int (iI (b2 du)), .int (iI (b2 se)), .int (iI (b2 co))]) := fa
      have hW0 := hW
      obtain ⟨h1, hnz, h4, hw0, hw1⟩ := hW
      have h1 : 1 ≤ l.length := h1
      have h4 : hgt l ≤ 4000 := h4
      have hw0 : 0 ≤ wa := hw0
      have hw1 : wa ≤ 40 := hw1
      have hnz : ∀ x ∈ l, x ≠ 0 := hnz
      have hg0 := hgt_nn l
      have hgl := hgt_ge l hnz
      have noa : o ≠ a := ne_oo fO fa (by decide)
      have not : o ≠ t := ne_oi fO ft
      have nob : o ≠ b := ne_oi fO fb
      have nAa : A ≠ a := (ne_oi fa fA).symm
      have nAt : A ≠ t := ne_sz fA ft (by decide)
      have nAb : A ≠ b := ne_sz fA fb (by decide)
      have hq2 : 2 ≤ q ∧ q ≤ 4 := by simp [isFac] at c16; exact c16
      refine r_aload_n dX1_refusalOfFold_23 0 rfl ?_
      refine r_get cl_X1 0 (by decide) kf_X1_11 dX1_refusalOfFold_24 mO fO rfl ?_
      refine r_iload_n dX1_refusalOfFold_27 1 rfl ?_
      refine i_aald rfl i rfl dX1_refusalOfFold_28 mA fA (by omega) (by decide) hgi ?_
      refine r_iload_n dX1_refusalOfFold_29 2 rfl ?_
      refine p_callV (As := [.int (iI q)]) (b := a) (rest := []) (w := (some (.int (iI (obst (l, ex, wa, fo, du, se, co) q))))) (st' := [.int (iI (obst (l, ex, wa, fo, du, se, co) q))]) kv_X1_refusalOfFold_97 dX1_refusalOfFold_30 rfl rfl (Nat.le_of_ble_eq_true rfl) (Nat.le_of_ble_eq_true rfl) (x_rv ma fa rfl) rfl rfl (c_X8_findFoldObstacle hS0 hW0 hG hq2) rfl (fun h9 e9 => ?_)
      rw [show h9 = h from e9]
      refine i_ifeq dX1_refusalOfFold_33 (tgt := 40) (by decide) (by first | exact obst_b _ _ | (unfold in32; omega)) (fun c33 => ?_) (fun c33 => ?_)
      · refine i_const (0) dX1_refusalOfFold_40 ?_
        refine p_callS (As := [.int (iI 0)]) (rest := []) (w := (some (.ref (K.1 0)))) (st' := [.ref (K.1 0)]) kv_X1_refusalOfFold_101 dX1_refusalOfFold_41 rfl rfl (Nat.le_of_ble_eq_true rfl) (Nat.le_of_ble_eq_true rfl) rfl rfl (c_X1_stateRefusal hGK (c := false)) rfl (fun h9 e9 => ?_)
        rw [show h9 = h from e9]
        refine r_areturn rfl dX1_refusalOfFold_44 ?_
        have e : rFold ((ro, me, fl, ho, ec, bk), Ls) (i : Int) q = 0 := by
          have hs2 : sAt ((ro, me, fl, ho, ec, bk), Ls) (i : Int) = (l, ex, wa, fo, du, se, co) := hs.symm
          unfold rFold
          rw [hs2]
          try dsimp only
          try simp only [c5, c16, c33, if_true, if_false, Bool.false_eq_true]
          all_goals (repeat' split) <;> first | rfl | omega | (exfalso; omega) | (exfalso; simp_all)
        rw [e]
        exact ⟨rfl, rfl⟩
      · refine i_const (1) dX1_refusalOfFold_36 ?_
        refine r_goto dX1_refusalOfFold_37 (tgt := 41) (by decide) ?_
        refine p_callS (As := [.int (iI 1)]) (rest := []) (w := (some (.ref (K.1 3)))) (st' := [.ref (K.1 3)]) kv_X1_refusalOfFold_101 dX1_refusalOfFold_41 rfl rfl (Nat.le_of_ble_eq_true rfl) (Nat.le_of_ble_eq_true rfl) rfl rfl (c_X1_stateRefusal hGK (c := true)) rfl (fun h9 e9 => ?_)
        rw [show h9 = h from e9]
        refine r_areturn rfl dX1_refusalOfFold_44 ?_
        have e : rFold ((ro, me, fl, ho, ec, bk), Ls) (i : Int) q = 3 := by
          have hs2 : sAt ((ro, me, fl, ho, ec, bk), Ls) (i : Int) = (l, ex, wa, fo, du, se, co) := hs.symm
          unfold rFold
          rw [hs2]
          try dsimp only
          try simp only [c5, c16, c33, if_true, if_false, Bool.false_eq_true]
          all_goals (repeat' split) <;> first | rfl | omega | (exfalso; omega) | (exfalso; simp_all)
        rw [e]
        exact ⟨rfl, rfl⟩
    · refine r_gets (gk_R hGK 2 (by decide)) kg_X1_94 dX1_refusalOfFold_19 ?_
      refine r_areturn rfl dX1_refusalOfFold_22 ?_
      have e : rFold ((ro, me, fl, ho, ec, bk), Ls) z q = 2 := by
        unfold rFold
        try dsimp only
        try simp only [c5, c16, if_true, if_false, Bool.false_eq_true]
        all_goals (repeat' split) <;> first | rfl | omega | (exfalso; omega) | (exfalso; simp_all)
      rw [e]
      exact ⟨rfl, rfl⟩
  · refine r_gets (gk_R hGK 1 (by decide)) kg_X1_88 dX1_refusalOfFold_8 ?_
    refine r_areturn rfl dX1_refusalOfFold_11 ?_
    have e : rFold ((ro, me, fl, ho, ec, bk), Ls) z q = 1 := by
      unfold rFold
      try dsimp only
      try simp only [c5, if_true, if_false, Bool.false_eq_true]
      all_goals (repeat' split) <;> first | rfl | omega | (exfalso; omega) | (exfalso; simp_all)
    rw [e]
    exact ⟨rfl, rfl⟩
set_option maxRecDepth 20000 in
set_option maxHeartbeats 1000000 in
theorem c_X1_refusalOfRoll {G : xG} {h : xH} {o A : Nat} {fp : List Nat} {B : AB} (hB : BN G h o A fp B) (hWB : WB B) {K : xK} (hGK : GK G K) {z : Int} (hz : in32 z) {q : Int} (hq : in32 q) : CC G MX1_refusalOfRoll [.ref o, .int (iI z), .int (iI q)] h (fun o h' => o = .inl (some (.ref (K.1 (rRoll B z q)))) ∧ h' = h) := by
  have hWB0 := hWB
  obtain ⟨⟨ro, me, fl, ho, ec, bk⟩, Ls⟩ := B
  have hB0 := hB
  obtain ⟨g, bs, F, hBo⟩ := hB
  have hBo0 := hBo
  obtain ⟨⟨mO, mA⟩, fO, fA, hL6, hLF, hK, hD, hfp⟩ := hBo
  have hL6 : Ls.length ≤ 6 := hL6
  have hLF : ∀ i, i < Ls.length → F i = Ls.getD i dS := hLF
  have fO : h.2 o = .inr (0, [.ref A, .int (iI (Ls.length : Int)), .int (iI ro), .int (iI me), .int (iI fl), .int (iI ho), .int (iI ec), .int (iI bk)]) := fO
  obtain ⟨hWs, hro, hme, hfl, hho⟩ := hWB
  have hro : 0 ≤ ro ∧ ro ≤ 40 := hro
  have hme : 5 ≤ me ∧ me ≤ 35 := hme
  have hfl : 0 ≤ fl ∧ fl ≤ 999 := hfl
  have hho : 0 ≤ ho ∧ ho ≤ 9999 := hho
  have hWs : ∀ s ∈ Ls, WS s := hWs
  have hG := gk_D hGK
  show RR G MX1_refusalOfRoll 0 [(0, .ref o), (1, .int (iI z)), (2, .int (iI q))] [] h (xm_R MX1_refusalOfRoll).cells (xm_R MX1_refusalOfRoll).slots (fun o h' => o = .inl (some (.ref (K.1 (rRoll ((ro, me, fl, ho, ec, bk), Ls) z q)))) ∧ h' = h)
  refine r_aload_n dX1_refusalOfRoll_0 0 rfl ?_
  refine r_iload_n dX1_refusalOfRoll_1 1 rfl ?_
  refine p_callV (As := [.int (iI z)]) (b := o) (rest := []) (w := (some (.int (iI (b2 (hasS ((ro, me, fl, ho, ec, bk), Ls) z)))))) (st' := [.int (iI (b2 (hasS ((ro, me, fl, ho, ec, bk), Ls) z)))]) kv_X1_refusalOfRoll_84 dX1_refusalOfRoll_2 rfl rfl (Nat.le_of_ble_eq_true rfl) (Nat.le_of_ble_eq_true rfl) (x_rv mO fO rfl) rfl rfl (c_X1_hasSheet hB0 hz) rfl (fun h9 e9 => ?_)
  rw [show h9 = h from e9]
  refine i_ifneb dX1_refusalOfRoll_5 (tgt := 12) (by decide) (fun c5 => ?_) (fun c5 => ?_)
  · refine r_iload_n dX1_refusalOfRoll_12 2 rfl ?_
    refine p_callSN (As := [.int (iI q)]) (rest := []) (w := (some (.int (iI (b2 (isFac q)))))) (st' := [.int (iI (b2 (isFac q)))]) (kv_X1_refusalOfRoll_91 (gn_X1_91 hG)) dX1_refusalOfRoll_13 rfl rfl (Nat.le_of_ble_eq_true rfl) (Nat.le_of_ble_eq_true rfl) rfl rfl (c_X11_isFactor hq) rfl (fun h9 e9 => ?_)
    rw [show h9 = h from e9]
    refine i_ifneb dX1_refusalOfRoll_16 (tgt := 23) (by decide) (fun c16 => ?_) (fun c16 => ?_)
    · obtain ⟨hz0, hz1⟩ := hasS_t c5
      have hz1 : z < (Ls.length : Int) := hz1
      obtain ⟨i, rfl⟩ : ∃ i : Nat, z = (i : Int) := ⟨z.toNat, by omega⟩
      have hi : i < Ls.length := (by omega)
      have hi6 : i < 6 := by omega
      obtain ⟨a, t, b, hbs⟩ : ∃ a t b, bs i = (a, t, b) := ⟨_, _, _, rfl⟩
      have hgi : g i = some a := by rw [(hK i hi6).1, hbs]
      obtain ⟨s, hs⟩ : ∃ s, s = Ls.getD i dS := ⟨_, rfl⟩
      have hS : SH G h a t b s := by have z := (hK i hi6).2; rw [hbs, hLF i hi, ← hs] at z; exact z
      have hW : WS s := by rw [hs]; exact hWs _ (getD_memS hi)
      obtain ⟨l, ex, wa, fo, du, se, co⟩ := s
      have hS0 := hS
      obtain ⟨gt, gb, ⟨ma, mt, mb⟩, ⟨nta, nba, ntb⟩, fa, ft, fb, hl, hr⟩ := hS
      have hl : l.length ≤ 200 := hl
      have hr : sr gt gb l := hr
      have fa : h.2 a = .inr (5, [.ref t, .ref b, .int (iI (l.length : Int)), .int (iI ex), .int fo, .int (iI wa), .int (iI (b2 du)), .int (iI (b2 se)), .int (iI (b2 co))]) := fa
      have hW0 := hW
      obtain ⟨h1, hnz, h4, hw0, hw1⟩ := hW
      have h1 : 1 ≤ l.length := h1
      have h4 : hgt l ≤ 4000 := h4
      have hw0 : 0 ≤ wa := hw0
      have hw1 : wa ≤ 40 := hw1
      have hnz : ∀ x ∈ l, x ≠ 0 := hnz
      have hg0 := hgt_nn l
      have hgl := hgt_ge l hnz
      have noa : o ≠ a := ne_oo fO fa (by decide)
      have not : o ≠ t := ne_oi fO ft
      have nob : o ≠ b := ne_oi fO fb
      have nAa : A ≠ a := (ne_oi fa fA).symm
      have nAt : A ≠ t := ne_sz fA ft (by decide)
      have nAb : A ≠ b := ne_sz fA fb (by decide)
      have hq2 : 2 ≤ q ∧ q ≤ 4 := by simp [isFac] at c16; exact c16
      have hlo := loss_b (s := (l, ex, wa, fo, du, se, co)) (m := me) ⟨hw0, hw1⟩ (by omega)
      have hsr := sumF_rt hq2 hlo.1 l
      have hl9 : l.length ≤ 200 := hl
      refine r_aload_n dX1_refusalOfRoll_23 0 rfl ?_
      refine r_get cl_X1 0 (by decide) kf_X1_11 dX1_refusalOfRoll_24 mO fO rfl ?_
      refine r_iload_n dX1_refusalOfRoll_27 1 rfl ?_
      refine i_aald rfl i rfl dX1_refusalOfRoll_28 mA fA (by omega) (by decide) hgi ?_
      refine r_get cl_X8 8 (by decide) kf_X1_72 dX1_refusalOfRoll_29 ma fa rfl ?_
      refine i_ifneb dX1_refusalOfRoll_32 (tgt := 52) (by decide) (fun c32 => ?_) (fun c32 => ?_)
      · refine i_const (1) dX1_refusalOfRoll_52 ?_
        refine r_goto dX1_refusalOfRoll_53 (tgt := 57) (by decide) ?_
        refine p_callS (As := [.int (iI 1)]) (rest := []) (w := (some (.ref (K.1 3)))) (st' := [.ref (K.1 3)]) kv_X1_refusalOfRoll_101 dX1_refusalOfRoll_57 rfl rfl (Nat.le_of_ble_eq_true rfl) (Nat.le_of_ble_eq_true rfl) rfl rfl (c_X1_stateRefusal hGK (c := true)) rfl (fun h9 e9 => ?_)
        rw [show h9 = h from e9]
        refine r_areturn rfl dX1_refusalOfRoll_60 ?_
        have e : rRoll ((ro, me, fl, ho, ec, bk), Ls) (i : Int) q = 3 := by
          have hs2 : sAt ((ro, me, fl, ho, ec, bk), Ls) (i : Int) = (l, ex, wa, fo, du, se, co) := hs.symm
          unfold rRoll
          rw [hs2]
          unfold rRollS
          try dsimp only
          try simp only [c5, c16, c32, if_true, if_false, Bool.false_eq_true]
          all_goals (repeat' split) <;> first | rfl | omega | (exfalso; omega) | (exfalso; simp_all)
        rw [e]
        exact ⟨rfl, rfl⟩
      · refine r_aload_n dX1_refusalOfRoll_35 0 rfl ?_
        refine r_get cl_X1 0 (by decide) kf_X1_11 dX1_refusalOfRoll_36 mO fO rfl ?_
        refine r_iload_n dX1_refusalOfRoll_39 1 rfl ?_
        refine i_aald rfl i rfl dX1_refusalOfRoll_40 mA fA (by omega) (by decide) hgi ?_
        refine r_iload_n dX1_refusalOfRoll_41 2 rfl ?_
        refine r_aload_n dX1_refusalOfRoll_42 0 rfl ?_
        refine r_get cl_X1 3 (by decide) kf_X1_38 dX1_refusalOfRoll_43 mO fO rfl ?_
        refine p_callV (As := [.int (iI q), .int (iI me)]) (b := a) (rest := []) (w := (some (.int (iI (sumF (rt q (loss (l, ex, wa, fo, du, se, co) me)) l))))) (st' := [.int (iI (sumF (rt q (loss (l, ex, wa, fo, du, se, co) me)) l))]) kv_X1_refusalOfRoll_108 dX1_refusalOfRoll_46 rfl rfl (Nat.le_of_ble_eq_true rfl) (Nat.le_of_ble_eq_true rfl) (x_rv ma fa rfl) rfl rfl (c_X8_sumRolled hS0 hW0 (m := me) (by omega) hq2) rfl (fun h9 e9 => ?_)
        rw [show h9 = h from e9]
        refine i_ifne dX1_refusalOfRoll_49 (tgt := 56) (by decide) (by unfold in32; omega) (fun c49 => ?_) (fun c49 => ?_)
        · refine i_const (0) dX1_refusalOfRoll_56 ?_
          refine p_callS (As := [.int (iI 0)]) (rest := []) (w := (some (.ref (K.1 0)))) (st' := [.ref (K.1 0)]) kv_X1_refusalOfRoll_101 dX1_refusalOfRoll_57 rfl rfl (Nat.le_of_ble_eq_true rfl) (Nat.le_of_ble_eq_true rfl) rfl rfl (c_X1_stateRefusal hGK (c := false)) rfl (fun h9 e9 => ?_)
          rw [show h9 = h from e9]
          refine r_areturn rfl dX1_refusalOfRoll_60 ?_
          have e : rRoll ((ro, me, fl, ho, ec, bk), Ls) (i : Int) q = 0 := by
            have hs2 : sAt ((ro, me, fl, ho, ec, bk), Ls) (i : Int) = (l, ex, wa, fo, du, se, co) := hs.symm
            unfold rRoll
            rw [hs2]
            unfold rRollS
            try dsimp only
            try simp only [c5, c16, c32, c49, if_true, if_false, Bool.false_eq_true]
            all_goals (repeat' split) <;> first | rfl | omega | (exfalso; omega) | (exfalso; simp_all)
          rw [e]
          exact ⟨rfl, rfl⟩
        · refine i_const (1) dX1_refusalOfRoll_52 ?_
          refine r_goto dX1_refusalOfRoll_53 (tgt := 57) (by decide) ?_
          refine p_callS (As := [.int (iI 1)]) (rest := []) (w := (some (.ref (K.1 3)))) (st' := [.ref (K.1 3)]) kv_X1_refusalOfRoll_101 dX1_refusalOfRoll_57 rfl rfl (Nat.le_of_ble_eq_true rfl) (Nat.le_of_ble_eq_true rfl) rfl rfl (c_X1_stateRefusal hGK (c := true)) rfl (fun h9 e9 => ?_)
          rw [show h9 = h from e9]
          refine r_areturn rfl dX1_refusalOfRoll_60 ?_
          have e : rRoll ((ro, me, fl, ho, ec, bk), Ls) (i : Int) q = 3 := by
            have hs2 : sAt ((ro, me, fl, ho, ec, bk), Ls) (i : Int) = (l, ex, wa, fo, du, se, co) := hs.symm
            unfold rRoll
            rw [hs2]
            unfold rRollS
            try dsimp only
            try simp only [c5, c16, c32, c49, if_true, if_false, Bool.false_eq_true]
            all_goals (repeat' split) <;> first | rfl | omega | (exfalso; omega) | (exfalso; simp_all)
          rw [e]
          exact ⟨rfl, rfl⟩
    · refine r_gets (gk_R hGK 2 (by decide)) kg_X1_94 dX1_refusalOfRoll_19 ?_
      refine r_areturn rfl dX1_refusalOfRoll_22 ?_
      have e : rRoll ((ro, me, fl, ho, ec, bk), Ls) z q = 2 := by
        unfold rRoll
        try dsimp only
        try simp only [c5, c16, if_true, if_false, Bool.false_eq_true]
        all_goals (repeat' split) <;> first | rfl | omega | (exfalso; omega) | (exfalso; simp_all)
      rw [e]
      exact ⟨rfl, rfl⟩
  · refine r_gets (gk_R hGK 1 (by decide)) kg_X1_88 dX1_refusalOfRoll_8 ?_
    refine r_areturn rfl dX1_refusalOfRoll_11 ?_
    have e : rRoll ((ro, me, fl, ho, ec, bk), Ls) z q = 1 := by
      unfold rRoll
      try dsimp only
      try simp only [c5, if_true, if_false, Bool.false_eq_true]
      all_goals (repeat' split) <;> first | rfl | omega | (exfalso; omega) | (exfalso; simp_all)
    rw [e]
    exact ⟨rfl, rfl⟩
set_option maxRecDepth 20000 in
set_option maxHeartbeats 1000000 in
theorem c_X1_refusalOfDust {G : xG} {h : xH} {o A : Nat} {fp : List Nat} {B : AB} (hB : BN G h o A fp B) (hWB : WB B) {K : xK} (hGK : GK G K) {z : Int} (hz : in32 z) : CC G MX1_refusalOfDust [.ref o, .int (iI z)] h (fun o h' => o = .inl (some (.ref (K.1 (rDust B z)))) ∧ h' = h) := by
  have hWB0 := hWB
  obtain ⟨⟨ro, me, fl, ho, ec, bk⟩, Ls⟩ := B
  have hB0 := hB
  obtain ⟨g, bs, F, hBo⟩ := hB
  have hBo0 := hBo
  obtain ⟨⟨mO, mA⟩, fO, fA, hL6, hLF, hK, hD, hfp⟩ := hBo
  have hL6 : Ls.length ≤ 6 := hL6
  have hLF : ∀ i, i < Ls.length → F i = Ls.getD i dS := hLF
  have fO : h.2 o = .inr (0, [.ref A, .int (iI (Ls.length : Int)), .int (iI ro), .int (iI me), .int (iI fl), .int (iI ho), .int (iI ec), .int (iI bk)]) := fO
  obtain ⟨hWs, hro, hme, hfl, hho⟩ := hWB
  have hro : 0 ≤ ro ∧ ro ≤ 40 := hro
  have hme : 5 ≤ me ∧ me ≤ 35 := hme
  have hfl : 0 ≤ fl ∧ fl ≤ 999 := hfl
  have hho : 0 ≤ ho ∧ ho ≤ 9999 := hho
  have hWs : ∀ s ∈ Ls, WS s := hWs
  have hG := gk_D hGK
  show RR G MX1_refusalOfDust 0 [(0, .ref o), (1, .int (iI z))] [] h (xm_R MX1_refusalOfDust).cells (xm_R MX1_refusalOfDust).slots (fun o h' => o = .inl (some (.ref (K.1 (rDust ((ro, me, fl, ho, ec, bk), Ls) z)))) ∧ h' = h)
  refine r_aload_n dX1_refusalOfDust_0 0 rfl ?_
  refine r_iload_n dX1_refusalOfDust_1 1 rfl ?_
  refine p_callV (As := [.int (iI z)]) (b := o) (rest := []) (w := (some (.int (iI (b2 (hasS ((ro, me, fl, ho, ec, bk), Ls) z)))))) (st' := [.int (iI (b2 (hasS ((ro, me, fl, ho, ec, bk), Ls) z)))]) kv_X1_refusalOfDust_84 dX1_refusalOfDust_2 rfl rfl (Nat.le_of_ble_eq_true rfl) (Nat.le_of_ble_eq_true rfl) (x_rv mO fO rfl) rfl rfl (c_X1_hasSheet hB0 hz) rfl (fun h9 e9 => ?_)
  rw [show h9 = h from e9]
  refine i_ifneb dX1_refusalOfDust_5 (tgt := 12) (by decide) (fun c5 => ?_) (fun c5 => ?_)
  · obtain ⟨hz0, hz1⟩ := hasS_t c5
    have hz1 : z < (Ls.length : Int) := hz1
    obtain ⟨i, rfl⟩ : ∃ i : Nat, z = (i : Int) := ⟨z.toNat, by omega⟩
    have hi : i < Ls.length := (by omega)
    have hi6 : i < 6 := by omega
    obtain ⟨a, t, b, hbs⟩ : ∃ a t b, bs i = (a, t, b) := ⟨_, _, _, rfl⟩
    have hgi : g i = some a := by rw [(hK i hi6).1, hbs]
    obtain ⟨s, hs⟩ : ∃ s, s = Ls.getD i dS := ⟨_, rfl⟩
    have hS : SH G h a t b s := by have z := (hK i hi6).2; rw [hbs, hLF i hi, ← hs] at z; exact z
    have hW : WS s := by rw [hs]; exact hWs _ (getD_memS hi)
    obtain ⟨l, ex, wa, fo, du, se, co⟩ := s
    have hS0 := hS
    obtain ⟨gt, gb, ⟨ma, mt, mb⟩, ⟨nta, nba, ntb⟩, fa, ft, fb, hl, hr⟩ := hS
    have hl : l.length ≤ 200 := hl
    have hr : sr gt gb l := hr
    have fa : h.2 a = .inr (5, [.ref t, .ref b, .int (iI (l.length : Int)), .int (iI ex), .int fo, .int (iI wa), .int (iI (b2 du)), .int (iI (b2 se)), .int (iI (b2 co))]) := fa
    have hW0 := hW
    obtain ⟨h1, hnz, h4, hw0, hw1⟩ := hW
    have h1 : 1 ≤ l.length := h1
    have h4 : hgt l ≤ 4000 := h4
    have hw0 : 0 ≤ wa := hw0
    have hw1 : wa ≤ 40 := hw1
    have hnz : ∀ x ∈ l, x ≠ 0 := hnz
    have hg0 := hgt_nn l
    have hgl := hgt_ge l hnz
    have noa : o ≠ a := ne_oo fO fa (by decide)
    have not : o ≠ t := ne_oi fO ft
    have nob : o ≠ b := ne_oi fO fb
    have nAa : A ≠ a := (ne_oi fa fA).symm
    have nAt : A ≠ t := ne_sz fA ft (by decide)
    have nAb : A ≠ b := ne_sz fA fb (by decide)
    refine r_aload_n dX1_refusalOfDust_12 0 rfl ?_
    refine r_get cl_X1 0 (by decide) kf_X1_11 dX1_refusalOfDust_13 mO fO rfl ?_
    refine r_iload_n dX1_refusalOfDust_16 1 rfl ?_
    refine i_aald rfl i rfl dX1_refusalOfDust_17 mA fA (by omega) (by decide) hgi ?_
    refine r_get cl_X8 8 (by decide) kf_X1_72 dX1_refusalOfDust_18 ma fa rfl ?_
    refine i_ifneb dX1_refusalOfDust_21 (tgt := 44) (by decide) (fun c21 => ?_) (fun c21 => ?_)
    · refine i_const (1) dX1_refusalOfDust_44 ?_
      refine r_goto dX1_refusalOfDust_45 (tgt := 49) (by decide) ?_
      refine p_callS (As := [.int (iI 1)]) (rest := []) (w := (some (.ref (K.1 3)))) (st' := [.ref (K.1 3)]) kv_X1_refusalOfDust_101 dX1_refusalOfDust_49 rfl rfl (Nat.le_of_ble_eq_true rfl) (Nat.le_of_ble_eq_true rfl) rfl rfl (c_X1_stateRefusal hGK (c := true)) rfl (fun h9 e9 => ?_)
      rw [show h9 = h from e9]
      refine r_areturn rfl dX1_refusalOfDust_52 ?_
      have e : rDust ((ro, me, fl, ho, ec, bk), Ls) (i : Int) = 3 := by
        have hs2 : sAt ((ro, me, fl, ho, ec, bk), Ls) (i : Int) = (l, ex, wa, fo, du, se, co) := hs.symm
        unfold rDust
        rw [hs2]
        unfold rDustS
        try dsimp only
        try simp only [c5, c21, if_true, if_false, Bool.false_eq_true]
        all_goals (repeat' split) <;> first | rfl | omega | (exfalso; omega) | (exfalso; simp_all)
      rw [e]
      exact ⟨rfl, rfl⟩
    · refine r_aload_n dX1_refusalOfDust_24 0 rfl ?_
      refine r_get cl_X1 0 (by decide) kf_X1_11 dX1_refusalOfDust_25 mO fO rfl ?_
      refine r_iload_n dX1_refusalOfDust_28 1 rfl ?_
      refine i_aald rfl i rfl dX1_refusalOfDust_29 mA fA (by omega) (by decide) hgi ?_
      refine r_get cl_X8 6 (by decide) kf_X1_118 dX1_refusalOfDust_30 ma fa rfl ?_
      refine i_ifneb dX1_refusalOfDust_33 (tgt := 44) (by decide) (fun c33 => ?_) (fun c33 => ?_)
      · refine i_const (1) dX1_refusalOfDust_44 ?_
        refine r_goto dX1_refusalOfDust_45 (tgt := 49) (by decide) ?_
        refine p_callS (As := [.int (iI 1)]) (rest := []) (w := (some (.ref (K.1 3)))) (st' := [.ref (K.1 3)]) kv_X1_refusalOfDust_101 dX1_refusalOfDust_49 rfl rfl (Nat.le_of_ble_eq_true rfl) (Nat.le_of_ble_eq_true rfl) rfl rfl (c_X1_stateRefusal hGK (c := true)) rfl (fun h9 e9 => ?_)
        rw [show h9 = h from e9]
        refine r_areturn rfl dX1_refusalOfDust_52 ?_
        have e : rDust ((ro, me, fl, ho, ec, bk), Ls) (i : Int) = 3 := by
          have hs2 : sAt ((ro, me, fl, ho, ec, bk), Ls) (i : Int) = (l, ex, wa, fo, du, se, co) := hs.symm
          unfold rDust
          rw [hs2]
          unfold rDustS
          try dsimp only
          try simp only [c5, c21, c33, if_true, if_false, Bool.false_eq_true]
          all_goals (repeat' split) <;> first | rfl | omega | (exfalso; omega) | (exfalso; simp_all)
        rw [e]
        exact ⟨rfl, rfl⟩
      · refine r_aload_n dX1_refusalOfDust_36 0 rfl ?_
        refine r_get cl_X1 4 (by decide) kf_X1_41 dX1_refusalOfDust_37 mO fO rfl ?_
        refine i_const (1) dX1_refusalOfDust_40 ?_
        refine i_icmpge dX1_refusalOfDust_41 (tgt := 48) (by decide) (by unfold in32; omega) ⟨by decide, by decide⟩ (fun c41 => ?_) (fun c41 => ?_)
        · refine i_const (0) dX1_refusalOfDust_48 ?_
          refine p_callS (As := [.int (iI 0)]) (rest := []) (w := (some (.ref (K.1 0)))) (st' := [.ref (K.1 0)]) kv_X1_refusalOfDust_101 dX1_refusalOfDust_49 rfl rfl (Nat.le_of_ble_eq_true rfl) (Nat.le_of_ble_eq_true rfl) rfl rfl (c_X1_stateRefusal hGK (c := false)) rfl (fun h9 e9 => ?_)
          rw [show h9 = h from e9]
          refine r_areturn rfl dX1_refusalOfDust_52 ?_
          have e : rDust ((ro, me, fl, ho, ec, bk), Ls) (i : Int) = 0 := by
            have hs2 : sAt ((ro, me, fl, ho, ec, bk), Ls) (i : Int) = (l, ex, wa, fo, du, se, co) := hs.symm
            unfold rDust
            rw [hs2]
            unfold rDustS
            try dsimp only
            try simp only [c5, c21, c33, c41, if_true, if_false, Bool.false_eq_true]
            all_goals (repeat' split) <;> first | rfl | omega | (exfalso; omega) | (exfalso; simp_all)
          rw [e]
          exact ⟨rfl, rfl⟩
        · refine i_const (1) dX1_refusalOfDust_44 ?_
          refine r_goto dX1_refusalOfDust_45 (tgt := 49) (by decide) ?_
          refine p_callS (As := [.int (iI 1)]) (rest := []) (w := (some (.ref (K.1 3)))) (st' := [.ref (K.1 3)]) kv_X1_refusalOfDust_101 dX1_refusalOfDust_49 rfl rfl (Nat.le_of_ble_eq_true rfl) (Nat.le_of_ble_eq_true rfl) rfl rfl (c_X1_stateRefusal hGK (c := true)) rfl (fun h9 e9 => ?_)
          rw [show h9 = h from e9]
          refine r_areturn rfl dX1_refusalOfDust_52 ?_
          have e : rDust ((ro, me, fl, ho, ec, bk), Ls) (i : Int) = 3 := by
            have hs2 : sAt ((ro, me, fl, ho, ec, bk), Ls) (i : Int) = (l, ex, wa, fo, du, se, co) := hs.symm
            unfold rDust
            rw [hs2]
            unfold rDustS
            try dsimp only
            try simp only [c5, c21, c33, c41, if_true, if_false, Bool.false_eq_true]
            all_goals (repeat' split) <;> first | rfl | omega | (exfalso; omega) | (exfalso; simp_all)
          rw [e]
          exact ⟨rfl, rfl⟩
  · refine r_gets (gk_R hGK 1 (by decide)) kg_X1_88 dX1_refusalOfDust_8 ?_
    refine r_areturn rfl dX1_refusalOfDust_11 ?_
    have e : rDust ((ro, me, fl, ho, ec, bk), Ls) z = 1 := by
      unfold rDust
      try dsimp only
      try simp only [c5, if_true, if_false, Bool.false_eq_true]
      all_goals (repeat' split) <;> first | rfl | omega | (exfalso; omega) | (exfalso; simp_all)
    rw [e]
    exact ⟨rfl, rfl⟩
set_option maxRecDepth 20000 in
set_option maxHeartbeats 1000000 in
theorem c_X1_refusalOfSeal {G : xG} {h : xH} {o A : Nat} {fp : List Nat} {B : AB} (hB : BN G h o A fp B) (hWB : WB B) {K : xK} (hGK : GK G K) {z : Int} (hz : in32 z) : CC G MX1_refusalOfSeal [.ref o, .int (iI z)] h (fun o h' => o = .inl (some (.ref (K.1 (rSeal B z)))) ∧ h' = h) := by
  have hWB0 := hWB
  obtain ⟨⟨ro, me, fl, ho, ec, bk⟩, Ls⟩ := B
  have hB0 := hB
  obtain ⟨g, bs, F, hBo⟩ := hB
  have hBo0 := hBo
  obtain ⟨⟨mO, mA⟩, fO, fA, hL6, hLF, hK, hD, hfp⟩ := hBo
  have hL6 : Ls.length ≤ 6 := hL6
  have hLF : ∀ i, i < Ls.length → F i = Ls.getD i dS := hLF
  have fO : h.2 o = .inr (0, [.ref A, .int (iI (Ls.length : Int)), .int (iI ro), .int (iI me), .int (iI fl), .int (iI ho), .int (iI ec), .int (iI bk)]) := fO
  obtain ⟨hWs, hro, hme, hfl, hho⟩ := hWB
  have hro : 0 ≤ ro ∧ ro ≤ 40 := hro
  have hme : 5 ≤ me ∧ me ≤ 35 := hme
  have hfl : 0 ≤ fl ∧ fl ≤ 999 := hfl
  have hho : 0 ≤ ho ∧ ho ≤ 9999 := hho
  have hWs : ∀ s ∈ Ls, WS s := hWs
  have hG := gk_D hGK
  show RR G MX1_refusalOfSeal 0 [(0, .ref o), (1, .int (iI z))] [] h (xm_R MX1_refusalOfSeal).cells (xm_R MX1_refusalOfSeal).slots (fun o h' => o = .inl (some (.ref (K.1 (rSeal ((ro, me, fl, ho, ec, bk), Ls) z)))) ∧ h' = h)
  refine r_aload_n dX1_refusalOfSeal_0 0 rfl ?_
  refine r_iload_n dX1_refusalOfSeal_1 1 rfl ?_
  refine p_callV (As := [.int (iI z)]) (b := o) (rest := []) (w := (some (.int (iI (b2 (hasS ((ro, me, fl, ho, ec, bk), Ls) z)))))) (st' := [.int (iI (b2 (hasS ((ro, me, fl, ho, ec, bk), Ls) z)))]) kv_X1_refusalOfSeal_84 dX1_refusalOfSeal_2 rfl rfl (Nat.le_of_ble_eq_true rfl) (Nat.le_of_ble_eq_true rfl) (x_rv mO fO rfl) rfl rfl (c_X1_hasSheet hB0 hz) rfl (fun h9 e9 => ?_)
  rw [show h9 = h from e9]
  refine i_ifneb dX1_refusalOfSeal_5 (tgt := 12) (by decide) (fun c5 => ?_) (fun c5 => ?_)
  · obtain ⟨hz0, hz1⟩ := hasS_t c5
    have hz1 : z < (Ls.length : Int) := hz1
    obtain ⟨i, rfl⟩ : ∃ i : Nat, z = (i : Int) := ⟨z.toNat, by omega⟩
    have hi : i < Ls.length := (by omega)
    have hi6 : i < 6 := by omega
    obtain ⟨a, t, b, hbs⟩ : ∃ a t b, bs i = (a, t, b) := ⟨_, _, _, rfl⟩
    have hgi : g i = some a := by rw [(hK i hi6).1, hbs]
    obtain ⟨s, hs⟩ : ∃ s, s = Ls.getD i dS := ⟨_, rfl⟩
    have hS : SH G h a t b s := by have z := (hK i hi6).2; rw [hbs, hLF i hi, ← hs] at z; exact z
    have hW : WS s := by rw [hs]; exact hWs _ (getD_memS hi)
    obtain ⟨l, ex, wa, fo, du, se, co⟩ := s
    have hS0 := hS
    obtain ⟨gt, gb, ⟨ma, mt, mb⟩, ⟨nta, nba, ntb⟩, fa, ft, fb, hl, hr⟩ := hS
    have hl : l.length ≤ 200 := hl
    have hr : sr gt gb l := hr
    have fa : h.2 a = .inr (5, [.ref t, .ref b, .int (iI (l.length : Int)), .int (iI ex), .int fo, .int (iI wa), .int (iI (b2 du)), .int (iI (b2 se)), .int (iI (b2 co))]) := fa
    have hW0 := hW
    obtain ⟨h1, hnz, h4, hw0, hw1⟩ := hW
    have h1 : 1 ≤ l.length := h1
    have h4 : hgt l ≤ 4000 := h4
    have hw0 : 0 ≤ wa := hw0
    have hw1 : wa ≤ 40 := hw1
    have hnz : ∀ x ∈ l, x ≠ 0 := hnz
    have hg0 := hgt_nn l
    have hgl := hgt_ge l hnz
    have noa : o ≠ a := ne_oo fO fa (by decide)
    have not : o ≠ t := ne_oi fO ft
    have nob : o ≠ b := ne_oi fO fb
    have nAa : A ≠ a := (ne_oi fa fA).symm
    have nAt : A ≠ t := ne_sz fA ft (by decide)
    have nAb : A ≠ b := ne_sz fA fb (by decide)
    refine r_aload_n dX1_refusalOfSeal_12 0 rfl ?_
    refine r_get cl_X1 0 (by decide) kf_X1_11 dX1_refusalOfSeal_13 mO fO rfl ?_
    refine r_iload_n dX1_refusalOfSeal_16 1 rfl ?_
    refine i_aald rfl i rfl dX1_refusalOfSeal_17 mA fA (by omega) (by decide) hgi ?_
    refine r_get cl_X8 8 (by decide) kf_X1_72 dX1_refusalOfSeal_18 ma fa rfl ?_
    refine i_ifneb dX1_refusalOfSeal_21 (tgt := 36) (by decide) (fun c21 => ?_) (fun c21 => ?_)
    · refine i_const (1) dX1_refusalOfSeal_36 ?_
      refine r_goto dX1_refusalOfSeal_37 (tgt := 41) (by decide) ?_
      refine p_callS (As := [.int (iI 1)]) (rest := []) (w := (some (.ref (K.1 3)))) (st' := [.ref (K.1 3)]) kv_X1_refusalOfSeal_101 dX1_refusalOfSeal_41 rfl rfl (Nat.le_of_ble_eq_true rfl) (Nat.le_of_ble_eq_true rfl) rfl rfl (c_X1_stateRefusal hGK (c := true)) rfl (fun h9 e9 => ?_)
      rw [show h9 = h from e9]
      refine r_areturn rfl dX1_refusalOfSeal_44 ?_
      have e : rSeal ((ro, me, fl, ho, ec, bk), Ls) (i : Int) = 3 := by
        have hs2 : sAt ((ro, me, fl, ho, ec, bk), Ls) (i : Int) = (l, ex, wa, fo, du, se, co) := hs.symm
        unfold rSeal
        rw [hs2]
        unfold rSealS
        try dsimp only
        try simp only [c5, c21, if_true, if_false, Bool.false_eq_true]
        all_goals (repeat' split) <;> first | rfl | omega | (exfalso; omega) | (exfalso; simp_all)
      rw [e]
      exact ⟨rfl, rfl⟩
    · refine r_aload_n dX1_refusalOfSeal_24 0 rfl ?_
      refine r_get cl_X1 0 (by decide) kf_X1_11 dX1_refusalOfSeal_25 mO fO rfl ?_
      refine r_iload_n dX1_refusalOfSeal_28 1 rfl ?_
      refine i_aald rfl i rfl dX1_refusalOfSeal_29 mA fA (by omega) (by decide) hgi ?_
      refine r_get cl_X8 7 (by decide) kf_X1_68 dX1_refusalOfSeal_30 ma fa rfl ?_
      refine i_ifeqb dX1_refusalOfSeal_33 (tgt := 40) (by decide) (fun c33 => ?_) (fun c33 => ?_)
      · refine i_const (0) dX1_refusalOfSeal_40 ?_
        refine p_callS (As := [.int (iI 0)]) (rest := []) (w := (some (.ref (K.1 0)))) (st' := [.ref (K.1 0)]) kv_X1_refusalOfSeal_101 dX1_refusalOfSeal_41 rfl rfl (Nat.le_of_ble_eq_true rfl) (Nat.le_of_ble_eq_true rfl) rfl rfl (c_X1_stateRefusal hGK (c := false)) rfl (fun h9 e9 => ?_)
        rw [show h9 = h from e9]
        refine r_areturn rfl dX1_refusalOfSeal_44 ?_
        have e : rSeal ((ro, me, fl, ho, ec, bk), Ls) (i : Int) = 0 := by
          have hs2 : sAt ((ro, me, fl, ho, ec, bk), Ls) (i : Int) = (l, ex, wa, fo, du, se, co) := hs.symm
          unfold rSeal
          rw [hs2]
          unfold rSealS
          try dsimp only
          try simp only [c5, c21, c33, if_true, if_false, Bool.false_eq_true]
          all_goals (repeat' split) <;> first | rfl | omega | (exfalso; omega) | (exfalso; simp_all)
        rw [e]
        exact ⟨rfl, rfl⟩
      · refine i_const (1) dX1_refusalOfSeal_36 ?_
        refine r_goto dX1_refusalOfSeal_37 (tgt := 41) (by decide) ?_
        refine p_callS (As := [.int (iI 1)]) (rest := []) (w := (some (.ref (K.1 3)))) (st' := [.ref (K.1 3)]) kv_X1_refusalOfSeal_101 dX1_refusalOfSeal_41 rfl rfl (Nat.le_of_ble_eq_true rfl) (Nat.le_of_ble_eq_true rfl) rfl rfl (c_X1_stateRefusal hGK (c := true)) rfl (fun h9 e9 => ?_)
        rw [show h9 = h from e9]
        refine r_areturn rfl dX1_refusalOfSeal_44 ?_
        have e : rSeal ((ro, me, fl, ho, ec, bk), Ls) (i : Int) = 3 := by
          have hs2 : sAt ((ro, me, fl, ho, ec, bk), Ls) (i : Int) = (l, ex, wa, fo, du, se, co) := hs.symm
          unfold rSeal
          rw [hs2]
          unfold rSealS
          try dsimp only
          try simp only [c5, c21, c33, if_true, if_false, Bool.false_eq_true]
          all_goals (repeat' split) <;> first | rfl | omega | (exfalso; omega) | (exfalso; simp_all)
        rw [e]
        exact ⟨rfl, rfl⟩
  · refine r_gets (gk_R hGK 1 (by decide)) kg_X1_88 dX1_refusalOfSeal_8 ?_
    refine r_areturn rfl dX1_refusalOfSeal_11 ?_
    have e : rSeal ((ro, me, fl, ho, ec, bk), Ls) z = 1 := by
      unfold rSeal
      try dsimp only
      try simp only [c5, if_true, if_false, Bool.false_eq_true]
      all_goals (repeat' split) <;> first | rfl | omega | (exfalso; omega) | (exfalso; simp_all)
    rw [e]
    exact ⟨rfl, rfl⟩
set_option maxRecDepth 20000 in
set_option maxHeartbeats 1000000 in
theorem c_X1_refusalOfCool {G : xG} {h : xH} {o A : Nat} {fp : List Nat} {B : AB} (hB : BN G h o A fp B) (hWB : WB B) {K : xK} (hGK : GK G K) {z : Int} (hz : in32 z) : CC G MX1_refusalOfCool [.ref o, .int (iI z)] h (fun o h' => o = .inl (some (.ref (K.1 (rCool B z)))) ∧ h' = h) := by
  have hWB0 := hWB
  obtain ⟨⟨ro, me, fl, ho, ec, bk⟩, Ls⟩ := B
  have hB0 := hB
  obtain ⟨g, bs, F, hBo⟩ := hB
  have hBo0 := hBo
  obtain ⟨⟨mO, mA⟩, fO, fA, hL6, hLF, hK, hD, hfp⟩ := hBo
  have hL6 : Ls.length ≤ 6 := hL6
  have hLF : ∀ i, i < Ls.length → F i = Ls.getD i dS := hLF
  have fO : h.2 o = .inr (0, [.ref A, .int (iI (Ls.length : Int)), .int (iI ro), .int (iI me), .int (iI fl), .int (iI ho), .int (iI ec), .int (iI bk)]) := fO
  obtain ⟨hWs, hro, hme, hfl, hho⟩ := hWB
  have hro : 0 ≤ ro ∧ ro ≤ 40 := hro
  have hme : 5 ≤ me ∧ me ≤ 35 := hme
  have hfl : 0 ≤ fl ∧ fl ≤ 999 := hfl
  have hho : 0 ≤ ho ∧ ho ≤ 9999 := hho
  have hWs : ∀ s ∈ Ls, WS s := hWs
  have hG := gk_D hGK
  show RR G MX1_refusalOfCool 0 [(0, .ref o), (1, .int (iI z))] [] h (xm_R MX1_refusalOfCool).cells (xm_R MX1_refusalOfCool).slots (fun o h' => o = .inl (some (.ref (K.1 (rCool ((ro, me, fl, ho, ec, bk), Ls) z)))) ∧ h' = h)
  refine r_aload_n dX1_refusalOfCool_0 0 rfl ?_
  refine r_iload_n dX1_refusalOfCool_1 1 rfl ?_
  refine p_callV (As := [.int (iI z)]) (b := o) (rest := []) (w := (some (.int (iI (b2 (hasS ((ro, me, fl, ho, ec, bk), Ls) z)))))) (st' := [.int (iI (b2 (hasS ((ro, me, fl, ho, ec, bk), Ls) z)))]) kv_X1_refusalOfCool_84 dX1_refusalOfCool_2 rfl rfl (Nat.le_of_ble_eq_true rfl) (Nat.le_of_ble_eq_true rfl) (x_rv mO fO rfl) rfl rfl (c_X1_hasSheet hB0 hz) rfl (fun h9 e9 => ?_)
  rw [show h9 = h from e9]
  refine i_ifneb dX1_refusalOfCool_5 (tgt := 12) (by decide) (fun c5 => ?_) (fun c5 => ?_)
  · obtain ⟨hz0, hz1⟩ := hasS_t c5
    have hz1 : z < (Ls.length : Int) := hz1
    obtain ⟨i, rfl⟩ : ∃ i : Nat, z = (i : Int) := ⟨z.toNat, by omega⟩
    have hi : i < Ls.length := (by omega)
    have hi6 : i < 6 := by omega
    obtain ⟨a, t, b, hbs⟩ : ∃ a t b, bs i = (a, t, b) := ⟨_, _, _, rfl⟩
    have hgi : g i = some a := by rw [(hK i hi6).1, hbs]
    obtain ⟨s, hs⟩ : ∃ s, s = Ls.getD i dS := ⟨_, rfl⟩
    have hS : SH G h a t b s := by have z := (hK i hi6).2; rw [hbs, hLF i hi, ← hs] at z; exact z
    have hW : WS s := by rw [hs]; exact hWs _ (getD_memS hi)
    obtain ⟨l, ex, wa, fo, du, se, co⟩ := s
    have hS0 := hS
    obtain ⟨gt, gb, ⟨ma, mt, mb⟩, ⟨nta, nba, ntb⟩, fa, ft, fb, hl, hr⟩ := hS
    have hl : l.length ≤ 200 := hl
    have hr : sr gt gb l := hr
    have fa : h.2 a = .inr (5, [.ref t, .ref b, .int (iI (l.length : Int)), .int (iI ex), .int fo, .int (iI wa), .int (iI (b2 du)), .int (iI (b2 se)), .int (iI (b2 co))]) := fa
    have hW0 := hW
    obtain ⟨h1, hnz, h4, hw0, hw1⟩ := hW
    have h1 : 1 ≤ l.length := h1
    have h4 : hgt l ≤ 4000 := h4
    have hw0 : 0 ≤ wa := hw0
    have hw1 : wa ≤ 40 := hw1
    have hnz : ∀ x ∈ l, x ≠ 0 := hnz
    have hg0 := hgt_nn l
    have hgl := hgt_ge l hnz
    have noa : o ≠ a := ne_oo fO fa (by decide)
    have not : o ≠ t := ne_oi fO ft
    have nob : o ≠ b := ne_oi fO fb
    have nAa : A ≠ a := (ne_oi fa fA).symm
    have nAt : A ≠ t := ne_sz fA ft (by decide)
    have nAb : A ≠ b := ne_sz fA fb (by decide)
    have hcb := cnt_b isC Ls
    refine r_aload_n dX1_refusalOfCool_12 0 rfl ?_
    refine r_get cl_X1 0 (by decide) kf_X1_11 dX1_refusalOfCool_13 mO fO rfl ?_
    refine r_iload_n dX1_refusalOfCool_16 1 rfl ?_
    refine i_aald rfl i rfl dX1_refusalOfCool_17 mA fA (by omega) (by decide) hgi ?_
    refine r_get cl_X8 8 (by decide) kf_X1_72 dX1_refusalOfCool_18 ma fa rfl ?_
    refine i_ifneb dX1_refusalOfCool_21 (tgt := 32) (by decide) (fun c21 => ?_) (fun c21 => ?_)
    · refine i_const (1) dX1_refusalOfCool_32 ?_
      refine r_goto dX1_refusalOfCool_33 (tgt := 37) (by decide) ?_
      refine p_callS (As := [.int (iI 1)]) (rest := []) (w := (some (.ref (K.1 3)))) (st' := [.ref (K.1 3)]) kv_X1_refusalOfCool_101 dX1_refusalOfCool_37 rfl rfl (Nat.le_of_ble_eq_true rfl) (Nat.le_of_ble_eq_true rfl) rfl rfl (c_X1_stateRefusal hGK (c := true)) rfl (fun h9 e9 => ?_)
      rw [show h9 = h from e9]
      refine r_areturn rfl dX1_refusalOfCool_40 ?_
      have e : rCool ((ro, me, fl, ho, ec, bk), Ls) (i : Int) = 3 := by
        have hs2 : sAt ((ro, me, fl, ho, ec, bk), Ls) (i : Int) = (l, ex, wa, fo, du, se, co) := hs.symm
        unfold rCool
        rw [hs2]
        unfold rCoolS
        try dsimp only
        try simp only [c5, c21, if_true, if_false, Bool.false_eq_true]
        all_goals (repeat' split) <;> first | rfl | omega | (exfalso; omega) | (exfalso; simp_all)
      rw [e]
      exact ⟨rfl, rfl⟩
    · refine r_aload_n dX1_refusalOfCool_24 0 rfl ?_
      refine p_callV (As := []) (b := o) (rest := []) (w := (some (.int (iI (cnt isC Ls))))) (st' := [.int (iI (cnt isC Ls))]) kv_X1_refusalOfCool_125 dX1_refusalOfCool_25 rfl rfl (Nat.le_of_ble_eq_true rfl) (Nat.le_of_ble_eq_true rfl) (x_rv mO fO rfl) rfl rfl (c_X1_countCooling hB0 hWB0) rfl (fun h9 e9 => ?_)
      rw [show h9 = h from e9]
      refine i_const (3) dX1_refusalOfCool_28 ?_
      refine i_icmplt dX1_refusalOfCool_29 (tgt := 36) (by decide) (by unfold in32; omega) ⟨by decide, by decide⟩ (fun c29 => ?_) (fun c29 => ?_)
      · refine i_const (0) dX1_refusalOfCool_36 ?_
        refine p_callS (As := [.int (iI 0)]) (rest := []) (w := (some (.ref (K.1 0)))) (st' := [.ref (K.1 0)]) kv_X1_refusalOfCool_101 dX1_refusalOfCool_37 rfl rfl (Nat.le_of_ble_eq_true rfl) (Nat.le_of_ble_eq_true rfl) rfl rfl (c_X1_stateRefusal hGK (c := false)) rfl (fun h9 e9 => ?_)
        rw [show h9 = h from e9]
        refine r_areturn rfl dX1_refusalOfCool_40 ?_
        have e : rCool ((ro, me, fl, ho, ec, bk), Ls) (i : Int) = 0 := by
          have hs2 : sAt ((ro, me, fl, ho, ec, bk), Ls) (i : Int) = (l, ex, wa, fo, du, se, co) := hs.symm
          unfold rCool
          rw [hs2]
          unfold rCoolS
          try dsimp only
          try simp only [c5, c21, c29, if_true, if_false, Bool.false_eq_true]
          all_goals (repeat' split) <;> first | rfl | omega | (exfalso; omega) | (exfalso; simp_all)
        rw [e]
        exact ⟨rfl, rfl⟩
      · refine i_const (1) dX1_refusalOfCool_32 ?_
        refine r_goto dX1_refusalOfCool_33 (tgt := 37) (by decide) ?_
        refine p_callS (As := [.int (iI 1)]) (rest := []) (w := (some (.ref (K.1 3)))) (st' := [.ref (K.1 3)]) kv_X1_refusalOfCool_101 dX1_refusalOfCool_37 rfl rfl (Nat.le_of_ble_eq_true rfl) (Nat.le_of_ble_eq_true rfl) rfl rfl (c_X1_stateRefusal hGK (c := true)) rfl (fun h9 e9 => ?_)
        rw [show h9 = h from e9]
        refine r_areturn rfl dX1_refusalOfCool_40 ?_
        have e : rCool ((ro, me, fl, ho, ec, bk), Ls) (i : Int) = 3 := by
          have hs2 : sAt ((ro, me, fl, ho, ec, bk), Ls) (i : Int) = (l, ex, wa, fo, du, se, co) := hs.symm
          unfold rCool
          rw [hs2]
          unfold rCoolS
          try dsimp only
          try simp only [c5, c21, c29, if_true, if_false, Bool.false_eq_true]
          all_goals (repeat' split) <;> first | rfl | omega | (exfalso; omega) | (exfalso; simp_all)
        rw [e]
        exact ⟨rfl, rfl⟩
  · refine r_gets (gk_R hGK 1 (by decide)) kg_X1_88 dX1_refusalOfCool_8 ?_
    refine r_areturn rfl dX1_refusalOfCool_11 ?_
    have e : rCool ((ro, me, fl, ho, ec, bk), Ls) z = 1 := by
      unfold rCool
      try dsimp only
      try simp only [c5, if_true, if_false, Bool.false_eq_true]
      all_goals (repeat' split) <;> first | rfl | omega | (exfalso; omega) | (exfalso; simp_all)
    rw [e]
    exact ⟨rfl, rfl⟩
set_option maxRecDepth 20000 in
set_option maxHeartbeats 1000000 in
theorem c_X1_refusalOfTakeOut {G : xG} {h : xH} {o A : Nat} {fp : List Nat} {B : AB} (hB : BN G h o A fp B) (hWB : WB B) {K : xK} (hGK : GK G K) {z : Int} (hz : in32 z) : CC G MX1_refusalOfTakeOut [.ref o, .int (iI z)] h (fun o h' => o = .inl (some (.ref (K.1 (rTake B z)))) ∧ h' = h) := by
  have hWB0 := hWB
  obtain ⟨⟨ro, me, fl, ho, ec, bk⟩, Ls⟩ := B
  have hB0 := hB
  obtain ⟨g, bs, F, hBo⟩ := hB
  have hBo0 := hBo
  obtain ⟨⟨mO, mA⟩, fO, fA, hL6, hLF, hK, hD, hfp⟩ := hBo
  have hL6 : Ls.length ≤ 6 := hL6
  have hLF : ∀ i, i < Ls.length → F i = Ls.getD i dS := hLF
  have fO : h.2 o = .inr (0, [.ref A, .int (iI (Ls.length : Int)), .int (iI ro), .int (iI me), .int (iI fl), .int (iI ho), .int (iI ec), .int (iI bk)]) := fO
  obtain ⟨hWs, hro, hme, hfl, hho⟩ := hWB
  have hro : 0 ≤ ro ∧ ro ≤ 40 := hro
  have hme : 5 ≤ me ∧ me ≤ 35 := hme
  have hfl : 0 ≤ fl ∧ fl ≤ 999 := hfl
  have hho : 0 ≤ ho ∧ ho ≤ 9999 := hho
  have hWs : ∀ s ∈ Ls, WS s := hWs
  have hG := gk_D hGK
  show RR G MX1_refusalOfTakeOut 0 [(0, .ref o), (1, .int (iI z))] [] h (xm_R MX1_refusalOfTakeOut).cells (xm_R MX1_refusalOfTakeOut).slots (fun o h' => o = .inl (some (.ref (K.1 (rTake ((ro, me, fl, ho, ec, bk), Ls) z)))) ∧ h' = h)
  refine r_aload_n dX1_refusalOfTakeOut_0 0 rfl ?_
  refine r_iload_n dX1_refusalOfTakeOut_1 1 rfl ?_
  refine p_callV (As := [.int (iI z)]) (b := o) (rest := []) (w := (some (.int (iI (b2 (hasS ((ro, me, fl, ho, ec, bk), Ls) z)))))) (st' := [.int (iI (b2 (hasS ((ro, me, fl, ho, ec, bk), Ls) z)))]) kv_X1_refusalOfTakeOut_84 dX1_refusalOfTakeOut_2 rfl rfl (Nat.le_of_ble_eq_true rfl) (Nat.le_of_ble_eq_true rfl) (x_rv mO fO rfl) rfl rfl (c_X1_hasSheet hB0 hz) rfl (fun h9 e9 => ?_)
  rw [show h9 = h from e9]
  refine i_ifneb dX1_refusalOfTakeOut_5 (tgt := 12) (by decide) (fun c5 => ?_) (fun c5 => ?_)
  · obtain ⟨hz0, hz1⟩ := hasS_t c5
    have hz1 : z < (Ls.length : Int) := hz1
    obtain ⟨i, rfl⟩ : ∃ i : Nat, z = (i : Int) := ⟨z.toNat, by omega⟩
    have hi : i < Ls.length := (by omega)
    have hi6 : i < 6 := by omega
    obtain ⟨a, t, b, hbs⟩ : ∃ a t b, bs i = (a, t, b) := ⟨_, _, _, rfl⟩
    have hgi : g i = some a := by rw [(hK i hi6).1, hbs]
    obtain ⟨s, hs⟩ : ∃ s, s = Ls.getD i dS := ⟨_, rfl⟩
    have hS : SH G h a t b s := by have z := (hK i hi6).2; rw [hbs, hLF i hi, ← hs] at z; exact z
    have hW : WS s := by rw [hs]; exact hWs _ (getD_memS hi)
    obtain ⟨l, ex, wa, fo, du, se, co⟩ := s
    have hS0 := hS
    obtain ⟨gt, gb, ⟨ma, mt, mb⟩, ⟨nta, nba, ntb⟩, fa, ft, fb, hl, hr⟩ := hS
    have hl : l.length ≤ 200 := hl
    have hr : sr gt gb l := hr
    have fa : h.2 a = .inr (5, [.ref t, .ref b, .int (iI (l.length : Int)), .int (iI ex), .int fo, .int (iI wa), .int (iI (b2 du)), .int (iI (b2 se)), .int (iI (b2 co))]) := fa
    have hW0 := hW
    obtain ⟨h1, hnz, h4, hw0, hw1⟩ := hW
    have h1 : 1 ≤ l.length := h1
    have h4 : hgt l ≤ 4000 := h4
    have hw0 : 0 ≤ wa := hw0
    have hw1 : wa ≤ 40 := hw1
    have hnz : ∀ x ∈ l, x ≠ 0 := hnz
    have hg0 := hgt_nn l
    have hgl := hgt_ge l hnz
    have noa : o ≠ a := ne_oo fO fa (by decide)
    have not : o ≠ t := ne_oi fO ft
    have nob : o ≠ b := ne_oi fO fb
    have nAa : A ≠ a := (ne_oi fa fA).symm
    have nAt : A ≠ t := ne_sz fA ft (by decide)
    have nAb : A ≠ b := ne_sz fA fb (by decide)
    refine r_aload_n dX1_refusalOfTakeOut_12 0 rfl ?_
    refine r_get cl_X1 0 (by decide) kf_X1_11 dX1_refusalOfTakeOut_13 mO fO rfl ?_
    refine r_iload_n dX1_refusalOfTakeOut_16 1 rfl ?_
    refine i_aald rfl i rfl dX1_refusalOfTakeOut_17 mA fA (by omega) (by decide) hgi ?_
    refine r_get cl_X8 8 (by decide) kf_X1_72 dX1_refusalOfTakeOut_18 ma fa rfl ?_
    refine i_ifneb dX1_refusalOfTakeOut_21 (tgt := 28) (by decide) (fun c21 => ?_) (fun c21 => ?_)
    · refine i_const (0) dX1_refusalOfTakeOut_28 ?_
      refine p_callS (As := [.int (iI 0)]) (rest := []) (w := (some (.ref (K.1 0)))) (st' := [.ref (K.1 0)]) kv_X1_refusalOfTakeOut_101 dX1_refusalOfTakeOut_29 rfl rfl (Nat.le_of_ble_eq_true rfl) (Nat.le_of_ble_eq_true rfl) rfl rfl (c_X1_stateRefusal hGK (c := false)) rfl (fun h9 e9 => ?_)
      rw [show h9 = h from e9]
      refine r_areturn rfl dX1_refusalOfTakeOut_32 ?_
      have e : rTake ((ro, me, fl, ho, ec, bk), Ls) (i : Int) = 0 := by
        have hs2 : sAt ((ro, me, fl, ho, ec, bk), Ls) (i : Int) = (l, ex, wa, fo, du, se, co) := hs.symm
        unfold rTake
        rw [hs2]
        unfold rTakeS
        try dsimp only
        try simp only [c5, c21, if_true, if_false, Bool.false_eq_true]
        all_goals (repeat' split) <;> first | rfl | omega | (exfalso; omega) | (exfalso; simp_all)
      rw [e]
      exact ⟨rfl, rfl⟩
    · refine i_const (1) dX1_refusalOfTakeOut_24 ?_
      refine r_goto dX1_refusalOfTakeOut_25 (tgt := 29) (by decide) ?_
      refine p_callS (As := [.int (iI 1)]) (rest := []) (w := (some (.ref (K.1 3)))) (st' := [.ref (K.1 3)]) kv_X1_refusalOfTakeOut_101 dX1_refusalOfTakeOut_29 rfl rfl (Nat.le_of_ble_eq_true rfl) (Nat.le_of_ble_eq_true rfl) rfl rfl (c_X1_stateRefusal hGK (c := true)) rfl (fun h9 e9 => ?_)
      rw [show h9 = h from e9]
      refine r_areturn rfl dX1_refusalOfTakeOut_32 ?_
      have e : rTake ((ro, me, fl, ho, ec, bk), Ls) (i : Int) = 3 := by
        have hs2 : sAt ((ro, me, fl, ho, ec, bk), Ls) (i : Int) = (l, ex, wa, fo, du, se, co) := hs.symm
        unfold rTake
        rw [hs2]
        unfold rTakeS
        try dsimp only
        try simp only [c5, c21, if_true, if_false, Bool.false_eq_true]
        all_goals (repeat' split) <;> first | rfl | omega | (exfalso; omega) | (exfalso; simp_all)
      rw [e]
      exact ⟨rfl, rfl⟩
  · refine r_gets (gk_R hGK 1 (by decide)) kg_X1_88 dX1_refusalOfTakeOut_8 ?_
    refine r_areturn rfl dX1_refusalOfTakeOut_11 ?_
    have e : rTake ((ro, me, fl, ho, ec, bk), Ls) z = 1 := by
      unfold rTake
      try dsimp only
      try simp only [c5, if_true, if_false, Bool.false_eq_true]
      all_goals (repeat' split) <;> first | rfl | omega | (exfalso; omega) | (exfalso; simp_all)
    rw [e]
    exact ⟨rfl, rfl⟩
set_option maxRecDepth 20000 in
set_option maxHeartbeats 1000000 in
theorem c_X1_refusalOfCut {G : xG} {h : xH} {o A : Nat} {fp : List Nat} {B : AB} (hB : BN G h o A fp B) (hWB : WB B) {K : xK} (hGK : GK G K) {z : Int} (hz : in32 z) : CC G MX1_refusalOfCut [.ref o, .int (iI z)] h (fun o h' => o = .inl (some (.ref (K.1 (rCut B z)))) ∧ h' = h) := by
  have hWB0 := hWB
  obtain ⟨⟨ro, me, fl, ho, ec, bk⟩, Ls⟩ := B
  have hB0 := hB
  obtain ⟨g, bs, F, hBo⟩ := hB
  have hBo0 := hBo
  obtain ⟨⟨mO, mA⟩, fO, fA, hL6, hLF, hK, hD, hfp⟩ := hBo
  have hL6 : Ls.length ≤ 6 := hL6
  have hLF : ∀ i, i < Ls.length → F i = Ls.getD i dS := hLF
  have fO : h.2 o = .inr (0, [.ref A, .int (iI (Ls.length : Int)), .int (iI ro), .int (iI me), .int (iI fl), .int (iI ho), .int (iI ec), .int (iI bk)]) := fO
  obtain ⟨hWs, hro, hme, hfl, hho⟩ := hWB
  have hro : 0 ≤ ro ∧ ro ≤ 40 := hro
  have hme : 5 ≤ me ∧ me ≤ 35 := hme
  have hfl : 0 ≤ fl ∧ fl ≤ 999 := hfl
  have hho : 0 ≤ ho ∧ ho ≤ 9999 := hho
  have hWs : ∀ s ∈ Ls, WS s := hWs
  have hG := gk_D hGK
  show RR G MX1_refusalOfCut 0 [(0, .ref o), (1, .int (iI z))] [] h (xm_R MX1_refusalOfCut).cells (xm_R MX1_refusalOfCut).slots (fun o h' => o = .inl (some (.ref (K.1 (rCut ((ro, me, fl, ho, ec, bk), Ls) z)))) ∧ h' = h)
  refine r_aload_n dX1_refusalOfCut_0 0 rfl ?_
  refine r_iload_n dX1_refusalOfCut_1 1 rfl ?_
  refine p_callV (As := [.int (iI z)]) (b := o) (rest := []) (w := (some (.int (iI (b2 (hasS ((ro, me, fl, ho, ec, bk), Ls) z)))))) (st' := [.int (iI (b2 (hasS ((ro, me, fl, ho, ec, bk), Ls) z)))]) kv_X1_refusalOfCut_84 dX1_refusalOfCut_2 rfl rfl (Nat.le_of_ble_eq_true rfl) (Nat.le_of_ble_eq_true rfl) (x_rv mO fO rfl) rfl rfl (c_X1_hasSheet hB0 hz) rfl (fun h9 e9 => ?_)
  rw [show h9 = h from e9]
  refine i_ifneb dX1_refusalOfCut_5 (tgt := 12) (by decide) (fun c5 => ?_) (fun c5 => ?_)
  · obtain ⟨hz0, hz1⟩ := hasS_t c5
    have hz1 : z < (Ls.length : Int) := hz1
    obtain ⟨i, rfl⟩ : ∃ i : Nat, z = (i : Int) := ⟨z.toNat, by omega⟩
    have hi : i < Ls.length := (by omega)
    have hi6 : i < 6 := by omega
    obtain ⟨a, t, b, hbs⟩ : ∃ a t b, bs i = (a, t, b) := ⟨_, _, _, rfl⟩
    have hgi : g i = some a := by rw [(hK i hi6).1, hbs]
    obtain ⟨s, hs⟩ : ∃ s, s = Ls.getD i dS := ⟨_, rfl⟩
    have hS : SH G h a t b s := by have z := (hK i hi6).2; rw [hbs, hLF i hi, ← hs] at z; exact z
    have hW : WS s := by rw [hs]; exact hWs _ (getD_memS hi)
    obtain ⟨l, ex, wa, fo, du, se, co⟩ := s
    have hS0 := hS
    obtain ⟨gt, gb, ⟨ma, mt, mb⟩, ⟨nta, nba, ntb⟩, fa, ft, fb, hl, hr⟩ := hS
    have hl : l.length ≤ 200 := hl
    have hr : sr gt gb l := hr
    have fa : h.2 a = .inr (5, [.ref t, .ref b, .int (iI (l.length : Int)), .int (iI ex), .int fo, .int (iI wa), .int (iI (b2 du)), .int (iI (b2 se)), .int (iI (b2 co))]) := fa
    have hW0 := hW
    obtain ⟨h1, hnz, h4, hw0, hw1⟩ := hW
    have h1 : 1 ≤ l.length := h1
    have h4 : hgt l ≤ 4000 := h4
    have hw0 : 0 ≤ wa := hw0
    have hw1 : wa ≤ 40 := hw1
    have hnz : ∀ x ∈ l, x ≠ 0 := hnz
    have hg0 := hgt_nn l
    have hgl := hgt_ge l hnz
    have noa : o ≠ a := ne_oo fO fa (by decide)
    have not : o ≠ t := ne_oi fO ft
    have nob : o ≠ b := ne_oi fO fb
    have nAa : A ≠ a := (ne_oi fa fA).symm
    have nAt : A ≠ t := ne_sz fA ft (by decide)
    have nAb : A ≠ b := ne_sz fA fb (by decide)
    refine r_aload_n dX1_refusalOfCut_12 0 rfl ?_
    refine r_get cl_X1 0 (by decide) kf_X1_11 dX1_refusalOfCut_13 mO fO rfl ?_
    refine r_iload_n dX1_refusalOfCut_16 1 rfl ?_
    refine i_aald rfl i rfl dX1_refusalOfCut_17 mA fA (by omega) (by decide) hgi ?_
    refine r_get cl_X8 8 (by decide) kf_X1_72 dX1_refusalOfCut_18 ma fa rfl ?_
    refine i_ifneb dX1_refusalOfCut_21 (tgt := 33) (by decide) (fun c21 => ?_) (fun c21 => ?_)
    · refine i_const (1) dX1_refusalOfCut_33 ?_
      refine r_goto dX1_refusalOfCut_34 (tgt := 38) (by decide) ?_
      refine p_callS (As := [.int (iI 1)]) (rest := []) (w := (some (.ref (K.1 3)))) (st' := [.ref (K.1 3)]) kv_X1_refusalOfCut_101 dX1_refusalOfCut_38 rfl rfl (Nat.le_of_ble_eq_true rfl) (Nat.le_of_ble_eq_true rfl) rfl rfl (c_X1_stateRefusal hGK (c := true)) rfl (fun h9 e9 => ?_)
      rw [show h9 = h from e9]
      refine r_areturn rfl dX1_refusalOfCut_41 ?_
      have e : rCut ((ro, me, fl, ho, ec, bk), Ls) (i : Int) = 3 := by
        have hs2 : sAt ((ro, me, fl, ho, ec, bk), Ls) (i : Int) = (l, ex, wa, fo, du, se, co) := hs.symm
        unfold rCut
        rw [hs2]
        unfold rCutS
        try dsimp only
        try simp only [c5, c21, if_true, if_false, Bool.false_eq_true]
        all_goals (repeat' split) <;> first | rfl | omega | (exfalso; omega) | (exfalso; simp_all)
      rw [e]
      exact ⟨rfl, rfl⟩
    · refine r_aload_n dX1_refusalOfCut_24 0 rfl ?_
      refine r_get cl_X1 1 (by decide) kf_X1_31 dX1_refusalOfCut_25 mO fO rfl ?_
      refine i_bipush (6) (by decide) dX1_refusalOfCut_28 ?_
      refine i_icmplt dX1_refusalOfCut_30 (tgt := 37) (by decide) (by unfold in32; omega) ⟨by decide, by decide⟩ (fun c30 => ?_) (fun c30 => ?_)
      · refine i_const (0) dX1_refusalOfCut_37 ?_
        refine p_callS (As := [.int (iI 0)]) (rest := []) (w := (some (.ref (K.1 0)))) (st' := [.ref (K.1 0)]) kv_X1_refusalOfCut_101 dX1_refusalOfCut_38 rfl rfl (Nat.le_of_ble_eq_true rfl) (Nat.le_of_ble_eq_true rfl) rfl rfl (c_X1_stateRefusal hGK (c := false)) rfl (fun h9 e9 => ?_)
        rw [show h9 = h from e9]
        refine r_areturn rfl dX1_refusalOfCut_41 ?_
        have e : rCut ((ro, me, fl, ho, ec, bk), Ls) (i : Int) = 0 := by
          have hs2 : sAt ((ro, me, fl, ho, ec, bk), Ls) (i : Int) = (l, ex, wa, fo, du, se, co) := hs.symm
          unfold rCut
          rw [hs2]
          unfold rCutS
          try dsimp only
          try simp only [c5, c21, c30, if_true, if_false, Bool.false_eq_true]
          all_goals (repeat' split) <;> first | rfl | omega | (exfalso; omega) | (exfalso; simp_all)
        rw [e]
        exact ⟨rfl, rfl⟩
      · refine i_const (1) dX1_refusalOfCut_33 ?_
        refine r_goto dX1_refusalOfCut_34 (tgt := 38) (by decide) ?_
        refine p_callS (As := [.int (iI 1)]) (rest := []) (w := (some (.ref (K.1 3)))) (st' := [.ref (K.1 3)]) kv_X1_refusalOfCut_101 dX1_refusalOfCut_38 rfl rfl (Nat.le_of_ble_eq_true rfl) (Nat.le_of_ble_eq_true rfl) rfl rfl (c_X1_stateRefusal hGK (c := true)) rfl (fun h9 e9 => ?_)
        rw [show h9 = h from e9]
        refine r_areturn rfl dX1_refusalOfCut_41 ?_
        have e : rCut ((ro, me, fl, ho, ec, bk), Ls) (i : Int) = 3 := by
          have hs2 : sAt ((ro, me, fl, ho, ec, bk), Ls) (i : Int) = (l, ex, wa, fo, du, se, co) := hs.symm
          unfold rCut
          rw [hs2]
          unfold rCutS
          try dsimp only
          try simp only [c5, c21, c30, if_true, if_false, Bool.false_eq_true]
          all_goals (repeat' split) <;> first | rfl | omega | (exfalso; omega) | (exfalso; simp_all)
        rw [e]
        exact ⟨rfl, rfl⟩
  · refine r_gets (gk_R hGK 1 (by decide)) kg_X1_88 dX1_refusalOfCut_8 ?_
    refine r_areturn rfl dX1_refusalOfCut_11 ?_
    have e : rCut ((ro, me, fl, ho, ec, bk), Ls) z = 1 := by
      unfold rCut
      try dsimp only
      try simp only [c5, if_true, if_false, Bool.false_eq_true]
      all_goals (repeat' split) <;> first | rfl | omega | (exfalso; omega) | (exfalso; simp_all)
    rw [e]
    exact ⟨rfl, rfl⟩
set_option maxRecDepth 20000 in
set_option maxHeartbeats 1000000 in
theorem c_X1_refusalOfHours {G : xG} {h : xH} {o A : Nat} {fp : List Nat} {B : AB} (hB : BN G h o A fp B) (hWB : WB B) {K : xK} (hGK : GK G K) {z : Int} (hz : in32 z) : CC G MX1_refusalOfHours [.ref o, .int (iI z)] h (fun o h' => o = .inl (some (.ref (K.1 (rHours B z)))) ∧ h' = h) := by
  have hWB0 := hWB
  obtain ⟨⟨ro, me, fl, ho, ec, bk⟩, Ls⟩ := B
  have hB0 := hB
  obtain ⟨g, bs, F, hBo⟩ := hB
  have hBo0 := hBo
  obtain ⟨⟨mO, mA⟩, fO, fA, hL6, hLF, hK, hD, hfp⟩ := hBo
  have hL6 : Ls.length ≤ 6 := hL6
  have hLF : ∀ i, i < Ls.length → F i = Ls.getD i dS := hLF
  have fO : h.2 o = .inr (0, [.ref A, .int (iI (Ls.length : Int)), .int (iI ro), .int (iI me), .int (iI fl), .int (iI ho), .int (iI ec), .int (iI bk)]) := fO
  obtain ⟨hWs, hro, hme, hfl, hho⟩ := hWB
  have hro : 0 ≤ ro ∧ ro ≤ 40 := hro
  have hme : 5 ≤ me ∧ me ≤ 35 := hme
  have hfl : 0 ≤ fl ∧ fl ≤ 999 := hfl
  have hho : 0 ≤ ho ∧ ho ≤ 9999 := hho
  have hWs : ∀ s ∈ Ls, WS s := hWs
  have hG := gk_D hGK
  show RR G MX1_refusalOfHours 0 [(0, .ref o), (1, .int (iI z))] [] h (xm_R MX1_refusalOfHours).cells (xm_R MX1_refusalOfHours).slots (fun o h' => o = .inl (some (.ref (K.1 (rHours ((ro, me, fl, ho, ec, bk), Ls) z)))) ∧ h' = h)
  refine r_iload_n dX1_refusalOfHours_0 1 rfl ?_
  refine i_const (1) dX1_refusalOfHours_1 ?_
  refine i_icmplt dX1_refusalOfHours_2 (tgt := 11) (by decide) (by first | assumption | (unfold in32 at *; omega)) ⟨by decide, by decide⟩ (fun c2 => ?_) (fun c2 => ?_)
  · refine r_gets (gk_R hGK 2 (by decide)) kg_X1_94 dX1_refusalOfHours_11 ?_
    refine r_areturn rfl dX1_refusalOfHours_14 ?_
    have e : rHours ((ro, me, fl, ho, ec, bk), Ls) z = 2 := by
      unfold rHours
      try dsimp only
      try simp only [c2, if_true, if_false, Bool.false_eq_true]
      all_goals (repeat' split) <;> first | rfl | omega | (exfalso; omega) | (exfalso; simp_all)
    rw [e]
    exact ⟨rfl, rfl⟩
  · refine r_iload_n dX1_refusalOfHours_5 1 rfl ?_
    refine i_bipush (24) (by decide) dX1_refusalOfHours_6 ?_
    refine i_icmple dX1_refusalOfHours_8 (tgt := 15) (by decide) (by first | assumption | (unfold in32 at *; omega)) ⟨by decide, by decide⟩ (fun c8 => ?_) (fun c8 => ?_)
    · refine r_aload_n dX1_refusalOfHours_15 0 rfl ?_
      refine r_get cl_X1 5 (by decide) kf_X1_44 dX1_refusalOfHours_16 mO fO rfl ?_
      refine r_iload_n dX1_refusalOfHours_19 1 rfl ?_
      refine i_add dX1_refusalOfHours_20 ?_
      refine i_sipush (9999) (by decide) dX1_refusalOfHours_21 ?_
      refine i_icmple dX1_refusalOfHours_24 (tgt := 31) (by decide) (by first | assumption | (unfold in32 at *; omega)) ⟨by decide, by decide⟩ (fun c24 => ?_) (fun c24 => ?_)
      · refine i_const (0) dX1_refusalOfHours_31 ?_
        refine p_callS (As := [.int (iI 0)]) (rest := []) (w := (some (.ref (K.1 0)))) (st' := [.ref (K.1 0)]) kv_X1_refusalOfHours_101 dX1_refusalOfHours_32 rfl rfl (Nat.le_of_ble_eq_true rfl) (Nat.le_of_ble_eq_true rfl) rfl rfl (c_X1_stateRefusal hGK (c := false)) rfl (fun h9 e9 => ?_)
        rw [show h9 = h from e9]
        refine r_areturn rfl dX1_refusalOfHours_35 ?_
        have e : rHours ((ro, me, fl, ho, ec, bk), Ls) z = 0 := by
          unfold rHours
          try dsimp only
          try simp only [c2, c8, c24, if_true, if_false, Bool.false_eq_true]
          all_goals (repeat' split) <;> first | rfl | omega | (exfalso; omega) | (exfalso; simp_all)
        rw [e]
        exact ⟨rfl, rfl⟩
      · refine i_const (1) dX1_refusalOfHours_27 ?_
        refine r_goto dX1_refusalOfHours_28 (tgt := 32) (by decide) ?_
        refine p_callS (As := [.int (iI 1)]) (rest := []) (w := (some (.ref (K.1 3)))) (st' := [.ref (K.1 3)]) kv_X1_refusalOfHours_101 dX1_refusalOfHours_32 rfl rfl (Nat.le_of_ble_eq_true rfl) (Nat.le_of_ble_eq_true rfl) rfl rfl (c_X1_stateRefusal hGK (c := true)) rfl (fun h9 e9 => ?_)
        rw [show h9 = h from e9]
        refine r_areturn rfl dX1_refusalOfHours_35 ?_
        have e : rHours ((ro, me, fl, ho, ec, bk), Ls) z = 3 := by
          unfold rHours
          try dsimp only
          try simp only [c2, c8, c24, if_true, if_false, Bool.false_eq_true]
          all_goals (repeat' split) <;> first | rfl | omega | (exfalso; omega) | (exfalso; simp_all)
        rw [e]
        exact ⟨rfl, rfl⟩
    · refine r_gets (gk_R hGK 2 (by decide)) kg_X1_94 dX1_refusalOfHours_11 ?_
      refine r_areturn rfl dX1_refusalOfHours_14 ?_
      have e : rHours ((ro, me, fl, ho, ec, bk), Ls) z = 2 := by
        unfold rHours
        try dsimp only
        try simp only [c2, c8, if_true, if_false, Bool.false_eq_true]
        all_goals (repeat' split) <;> first | rfl | omega | (exfalso; omega) | (exfalso; simp_all)
      rw [e]
      exact ⟨rfl, rfl⟩
set_option maxRecDepth 20000 in
set_option maxHeartbeats 1000000 in
theorem c_X1_refusalOfFlour {G : xG} {h : xH} {o A : Nat} {fp : List Nat} {B : AB} (hB : BN G h o A fp B) (hWB : WB B) {K : xK} (hGK : GK G K) {z : Int} (hz : in32 z) : CC G MX1_refusalOfFlour [.ref o, .int (iI z)] h (fun o h' => o = .inl (some (.ref (K.1 (rFlour B z)))) ∧ h' = h) := by
  have hWB0 := hWB
  obtain ⟨⟨ro, me, fl, ho, ec, bk⟩, Ls⟩ := B
  have hB0 := hB
  obtain ⟨g, bs, F, hBo⟩ := hB
  have hBo0 := hBo
  obtain ⟨⟨mO, mA⟩, fO, fA, hL6, hLF, hK, hD, hfp⟩ := hBo
  have hL6 : Ls.length ≤ 6 := hL6
  have hLF : ∀ i, i < Ls.length → F i = Ls.getD i dS := hLF
  have fO : h.2 o = .inr (0, [.ref A, .int (iI (Ls.length : Int)), .int (iI ro), .int (iI me), .int (iI fl), .int (iI ho), .int (iI ec), .int (iI bk)]) := fO
  obtain ⟨hWs, hro, hme, hfl, hho⟩ := hWB
  have hro : 0 ≤ ro ∧ ro ≤ 40 := hro
  have hme : 5 ≤ me ∧ me ≤ 35 := hme
  have hfl : 0 ≤ fl ∧ fl ≤ 999 := hfl
  have hho : 0 ≤ ho ∧ ho ≤ 9999 := hho
  have hWs : ∀ s ∈ Ls, WS s := hWs
  have hG := gk_D hGK
  show RR G MX1_refusalOfFlour 0 [(0, .ref o), (1, .int (iI z))] [] h (xm_R MX1_refusalOfFlour).cells (xm_R MX1_refusalOfFlour).slots (fun o h' => o = .inl (some (.ref (K.1 (rFlour ((ro, me, fl, ho, ec, bk), Ls) z)))) ∧ h' = h)
  refine r_iload_n dX1_refusalOfFlour_0 1 rfl ?_
  refine i_const (1) dX1_refusalOfFlour_1 ?_
  refine i_icmplt dX1_refusalOfFlour_2 (tgt := 11) (by decide) (by first | assumption | (unfold in32 at *; omega)) ⟨by decide, by decide⟩ (fun c2 => ?_) (fun c2 => ?_)
  · refine r_gets (gk_R hGK 2 (by decide)) kg_X1_94 dX1_refusalOfFlour_11 ?_
    refine r_areturn rfl dX1_refusalOfFlour_14 ?_
    have e : rFlour ((ro, me, fl, ho, ec, bk), Ls) z = 2 := by
      unfold rFlour
      try dsimp only
      try simp only [c2, if_true, if_false, Bool.false_eq_true]
      all_goals (repeat' split) <;> first | rfl | omega | (exfalso; omega) | (exfalso; simp_all)
    rw [e]
    exact ⟨rfl, rfl⟩
  · refine r_iload_n dX1_refusalOfFlour_5 1 rfl ?_
    refine i_bipush (50) (by decide) dX1_refusalOfFlour_6 ?_
    refine i_icmple dX1_refusalOfFlour_8 (tgt := 15) (by decide) (by first | assumption | (unfold in32 at *; omega)) ⟨by decide, by decide⟩ (fun c8 => ?_) (fun c8 => ?_)
    · refine r_aload_n dX1_refusalOfFlour_15 0 rfl ?_
      refine r_get cl_X1 4 (by decide) kf_X1_41 dX1_refusalOfFlour_16 mO fO rfl ?_
      refine r_iload_n dX1_refusalOfFlour_19 1 rfl ?_
      refine i_add dX1_refusalOfFlour_20 ?_
      refine i_sipush (999) (by decide) dX1_refusalOfFlour_21 ?_
      refine i_icmple dX1_refusalOfFlour_24 (tgt := 31) (by decide) (by first | assumption | (unfold in32 at *; omega)) ⟨by decide, by decide⟩ (fun c24 => ?_) (fun c24 => ?_)
      · refine i_const (0) dX1_refusalOfFlour_31 ?_
        refine p_callS (As := [.int (iI 0)]) (rest := []) (w := (some (.ref (K.1 0)))) (st' := [.ref (K.1 0)]) kv_X1_refusalOfFlour_101 dX1_refusalOfFlour_32 rfl rfl (Nat.le_of_ble_eq_true rfl) (Nat.le_of_ble_eq_true rfl) rfl rfl (c_X1_stateRefusal hGK (c := false)) rfl (fun h9 e9 => ?_)
        rw [show h9 = h from e9]
        refine r_areturn rfl dX1_refusalOfFlour_35 ?_
        have e : rFlour ((ro, me, fl, ho, ec, bk), Ls) z = 0 := by
          unfold rFlour
          try dsimp only
          try simp only [c2, c8, c24, if_true, if_false, Bool.false_eq_true]
          all_goals (repeat' split) <;> first | rfl | omega | (exfalso; omega) | (exfalso; simp_all)
        rw [e]
        exact ⟨rfl, rfl⟩
      · refine i_const (1) dX1_refusalOfFlour_27 ?_
        refine r_goto dX1_refusalOfFlour_28 (tgt := 32) (by decide) ?_
        refine p_callS (As := [.int (iI 1)]) (rest := []) (w := (some (.ref (K.1 3)))) (st' := [.ref (K.1 3)]) kv_X1_refusalOfFlour_101 dX1_refusalOfFlour_32 rfl rfl (Nat.le_of_ble_eq_true rfl) (Nat.le_of_ble_eq_true rfl) rfl rfl (c_X1_stateRefusal hGK (c := true)) rfl (fun h9 e9 => ?_)
        rw [show h9 = h from e9]
        refine r_areturn rfl dX1_refusalOfFlour_35 ?_
        have e : rFlour ((ro, me, fl, ho, ec, bk), Ls) z = 3 := by
          unfold rFlour
          try dsimp only
          try simp only [c2, c8, c24, if_true, if_false, Bool.false_eq_true]
          all_goals (repeat' split) <;> first | rfl | omega | (exfalso; omega) | (exfalso; simp_all)
        rw [e]
        exact ⟨rfl, rfl⟩
    · refine r_gets (gk_R hGK 2 (by decide)) kg_X1_94 dX1_refusalOfFlour_11 ?_
      refine r_areturn rfl dX1_refusalOfFlour_14 ?_
      have e : rFlour ((ro, me, fl, ho, ec, bk), Ls) z = 2 := by
        unfold rFlour
        try dsimp only
        try simp only [c2, c8, if_true, if_false, Bool.false_eq_true]
        all_goals (repeat' split) <;> first | rfl | omega | (exfalso; omega) | (exfalso; simp_all)
      rw [e]
      exact ⟨rfl, rfl⟩
set_option maxRecDepth 20000 in
set_option maxHeartbeats 1000000 in
theorem c_X1_refusalOfButter {G : xG} {h : xH} {o A : Nat} {fp : List Nat} {B : AB} (hB : BN G h o A fp B) (hWB : WB B) {K : xK} (hGK : GK G K) {z : Int} (hz : in32 z) {q : Int} (hq : in32 q) : CC G MX1_refusalOfButter [.ref o, .int (iI z), .int (iI q)] h (fun o h' => o = .inl (some (.ref (K.1 (rBut B z q)))) ∧ h' = h) := by
  have hWB0 := hWB
  obtain ⟨⟨ro, me, fl, ho, ec, bk⟩, Ls⟩ := B
  have hB0 := hB
  obtain ⟨g, bs, F, hBo⟩ := hB
  have hBo0 := hBo
  obtain ⟨⟨mO, mA⟩, fO, fA, hL6, hLF, hK, hD, hfp⟩ := hBo
  have hL6 : Ls.length ≤ 6 := hL6
  have hLF : ∀ i, i < Ls.length → F i = Ls.getD i dS := hLF
  have fO : h.2 o = .inr (0, [.ref A, .int (iI (Ls.length : Int)), .int (iI ro), .int (iI me), .int (iI fl), .int (iI ho), .int (iI ec), .int (iI bk)]) := fO
  obtain ⟨hWs, hro, hme, hfl, hho⟩ := hWB
  have hro : 0 ≤ ro ∧ ro ≤ 40 := hro
  have hme : 5 ≤ me ∧ me ≤ 35 := hme
  have hfl : 0 ≤ fl ∧ fl ≤ 999 := hfl
  have hho : 0 ≤ ho ∧ ho ≤ 9999 := hho
  have hWs : ∀ s ∈ Ls, WS s := hWs
  have hG := gk_D hGK
  show RR G MX1_refusalOfButter 0 [(0, .ref o), (1, .int (iI z)), (2, .int (iI q))] [] h (xm_R MX1_refusalOfButter).cells (xm_R MX1_refusalOfButter).slots (fun o h' => o = .inl (some (.ref (K.1 (rBut ((ro, me, fl, ho, ec, bk), Ls) z q)))) ∧ h' = h)
  refine r_aload_n dX1_refusalOfButter_0 0 rfl ?_
  refine r_iload_n dX1_refusalOfButter_1 1 rfl ?_
  refine p_callV (As := [.int (iI z)]) (b := o) (rest := []) (w := (some (.int (iI (b2 (hasS ((ro, me, fl, ho, ec, bk), Ls) z)))))) (st' := [.int (iI (b2 (hasS ((ro, me, fl, ho, ec, bk), Ls) z)))]) kv_X1_refusalOfButter_84 dX1_refusalOfButter_2 rfl rfl (Nat.le_of_ble_eq_true rfl) (Nat.le_of_ble_eq_true rfl) (x_rv mO fO rfl) rfl rfl (c_X1_hasSheet hB0 hz) rfl (fun h9 e9 => ?_)
  rw [show h9 = h from e9]
  refine i_ifneb dX1_refusalOfButter_5 (tgt := 12) (by decide) (fun c5 => ?_) (fun c5 => ?_)
  · refine r_iload_n dX1_refusalOfButter_12 2 rfl ?_
    refine i_const (1) dX1_refusalOfButter_13 ?_
    refine i_icmplt dX1_refusalOfButter_14 (tgt := 24) (by decide) (by first | assumption | (unfold in32 at *; omega)) ⟨by decide, by decide⟩ (fun c14 => ?_) (fun c14 => ?_)
    · refine r_gets (gk_R hGK 2 (by decide)) kg_X1_94 dX1_refusalOfButter_24 ?_
      refine r_areturn rfl dX1_refusalOfButter_27 ?_
      have e : rBut ((ro, me, fl, ho, ec, bk), Ls) z q = 2 := by
        unfold rBut
        try dsimp only
        try simp only [c5, c14, if_true, if_false, Bool.false_eq_true]
        all_goals (repeat' split) <;> first | rfl | omega | (exfalso; omega) | (exfalso; simp_all)
      rw [e]
      exact ⟨rfl, rfl⟩
    · refine r_iload_n dX1_refusalOfButter_17 2 rfl ?_
      refine i_sipush (400) (by decide) dX1_refusalOfButter_18 ?_
      refine i_icmple dX1_refusalOfButter_21 (tgt := 28) (by decide) (by first | assumption | (unfold in32 at *; omega)) ⟨by decide, by decide⟩ (fun c21 => ?_) (fun c21 => ?_)
      · obtain ⟨hz0, hz1⟩ := hasS_t c5
        have hz1 : z < (Ls.length : Int) := hz1
        obtain ⟨i, rfl⟩ : ∃ i : Nat, z = (i : Int) := ⟨z.toNat, by omega⟩
        have hi : i < Ls.length := (by omega)
        have hi6 : i < 6 := by omega
        obtain ⟨a, t, b, hbs⟩ : ∃ a t b, bs i = (a, t, b) := ⟨_, _, _, rfl⟩
        have hgi : g i = some a := by rw [(hK i hi6).1, hbs]
        obtain ⟨s, hs⟩ : ∃ s, s = Ls.getD i dS := ⟨_, rfl⟩
        have hS : SH G h a t b s := by have z := (hK i hi6).2; rw [hbs, hLF i hi, ← hs] at z; exact z
        have hW : WS s := by rw [hs]; exact hWs _ (getD_memS hi)
        obtain ⟨l, ex, wa, fo, du, se, co⟩ := s
        have hS0 := hS
        obtain ⟨gt, gb, ⟨ma, mt, mb⟩, ⟨nta, nba, ntb⟩, fa, ft, fb, hl, hr⟩ := hS
        have hl : l.length ≤ 200 := hl
        have hr : sr gt gb l := hr
        have fa : h.2 a = .inr (5, [.ref t, .ref b, .int (iI (l.length : Int)), .int (iI ex), .int fo, .int (iI wa), .int (iI (b2 du)), .int (iI (b2 se)), .int (iI (b2 co))]) := fa
        have hW0 := hW
        obtain ⟨h1, hnz, h4, hw0, hw1⟩ := hW
        have h1 : 1 ≤ l.length := h1
        have h4 : hgt l ≤ 4000 := h4
        have hw0 : 0 ≤ wa := hw0
        have hw1 : wa ≤ 40 := hw1
        have hnz : ∀ x ∈ l, x ≠ 0 := hnz
        have hg0 := hgt_nn l
        have hgl := hgt_ge l hnz
        have noa : o ≠ a := ne_oo fO fa (by decide)
        have not : o ≠ t := ne_oi fO ft
        have nob : o ≠ b := ne_oi fO fb
        have nAa : A ≠ a := (ne_oi fa fA).symm
        have nAt : A ≠ t := ne_sz fA ft (by decide)
        have nAb : A ≠ b := ne_sz fA fb (by decide)
        refine r_aload_n dX1_refusalOfButter_28 0 rfl ?_
        refine r_get cl_X1 0 (by decide) kf_X1_11 dX1_refusalOfButter_29 mO fO rfl ?_
        refine r_iload_n dX1_refusalOfButter_32 1 rfl ?_
        refine i_aald rfl i rfl dX1_refusalOfButter_33 mA fA (by omega) (by decide) hgi ?_
        refine r_astore_n (ls' := [(0, .ref o), (1, .int (iI ((i : Int)))), (2, .int (iI q)), (3, .ref a)]) dX1_refusalOfButter_34 (by decide) rfl ?_
        refine r_aload_n dX1_refusalOfButter_35 3 rfl ?_
        refine r_get cl_X8 2 (by decide) kf_X1_65 dX1_refusalOfButter_36 ma fa rfl ?_
        refine i_sipush (200) (by decide) dX1_refusalOfButter_39 ?_
        refine i_icmplt dX1_refusalOfButter_42 (tgt := 49) (by decide) (by first | assumption | (unfold in32 at *; omega)) ⟨by decide, by decide⟩ (fun c42 => ?_) (fun c42 => ?_)
        · refine i_const (0) dX1_refusalOfButter_49 ?_
          refine r_istore (ls' := [(0, .ref o), (1, .int (iI ((i : Int)))), (2, .int (iI q)), (3, .ref a), (4, .int (iI 0))]) dX1_refusalOfButter_50 (by decide) rfl ?_
          refine r_aload_n dX1_refusalOfButter_52 3 rfl ?_
          refine r_get cl_X8 8 (by decide) kf_X1_72 dX1_refusalOfButter_53 ma fa rfl ?_
          refine i_ifneb dX1_refusalOfButter_56 (tgt := 76) (by decide) (fun c56 => ?_) (fun c56 => ?_)
          · refine i_const (1) dX1_refusalOfButter_76 ?_
            refine r_goto dX1_refusalOfButter_77 (tgt := 81) (by decide) ?_
            refine p_callS (As := [.int (iI 1)]) (rest := []) (w := (some (.ref (K.1 3)))) (st' := [.ref (K.1 3)]) kv_X1_refusalOfButter_101 dX1_refusalOfButter_81 rfl rfl (Nat.le_of_ble_eq_true rfl) (Nat.le_of_ble_eq_true rfl) rfl rfl (c_X1_stateRefusal hGK (c := true)) rfl (fun h9 e9 => ?_)
            rw [show h9 = h from e9]
            refine r_areturn rfl dX1_refusalOfButter_84 ?_
            have e : rBut ((ro, me, fl, ho, ec, bk), Ls) (i : Int) q = 3 := by
              have hs2 : sAt ((ro, me, fl, ho, ec, bk), Ls) (i : Int) = (l, ex, wa, fo, du, se, co) := hs.symm
              unfold rBut
              rw [hs2]
              unfold rButS
              try dsimp only
              try simp only [c5, c14, c21, c42, c56, if_true, if_false, Bool.false_eq_true]
              all_goals (repeat' split) <;> first | rfl | omega | (exfalso; omega) | (exfalso; simp_all)
            rw [e]
            exact ⟨rfl, rfl⟩
          · refine r_iload dX1_refusalOfButter_59 4 rfl ?_
            refine i_ifne dX1_refusalOfButter_61 (tgt := 76) (by decide) ⟨by decide, by decide⟩ (fun c => absurd c (by decide)) (fun _ => ?_)
            refine r_aload_n dX1_refusalOfButter_64 3 rfl ?_
            refine p_callV (As := []) (b := a) (rest := []) (w := (some (.int (iI (hgt l))))) (st' := [.int (iI (hgt l))]) kv_X1_refusalOfButter_138 dX1_refusalOfButter_65 rfl rfl (Nat.le_of_ble_eq_true rfl) (Nat.le_of_ble_eq_true rfl) (x_rv ma fa rfl) rfl rfl (c_X8_totalHeight hS0) rfl (fun h9 e9 => ?_)
            rw [show h9 = h from e9]
            refine r_iload_n dX1_refusalOfButter_68 2 rfl ?_
            refine i_add dX1_refusalOfButter_69 ?_
            refine i_sipush (4000) (by decide) dX1_refusalOfButter_70 ?_
            refine i_icmple dX1_refusalOfButter_73 (tgt := 80) (by decide) (by first | assumption | (unfold in32 at *; omega)) ⟨by decide, by decide⟩ (fun c73 => ?_) (fun c73 => ?_)
            · refine i_const (0) dX1_refusalOfButter_80 ?_
              refine p_callS (As := [.int (iI 0)]) (rest := []) (w := (some (.ref (K.1 0)))) (st' := [.ref (K.1 0)]) kv_X1_refusalOfButter_101 dX1_refusalOfButter_81 rfl rfl (Nat.le_of_ble_eq_true rfl) (Nat.le_of_ble_eq_true rfl) rfl rfl (c_X1_stateRefusal hGK (c := false)) rfl (fun h9 e9 => ?_)
              rw [show h9 = h from e9]
              refine r_areturn rfl dX1_refusalOfButter_84 ?_
              have e : rBut ((ro, me, fl, ho, ec, bk), Ls) (i : Int) q = 0 := by
                have hs2 : sAt ((ro, me, fl, ho, ec, bk), Ls) (i : Int) = (l, ex, wa, fo, du, se, co) := hs.symm
                unfold rBut
                rw [hs2]
                unfold rButS
                try dsimp only
                try simp only [c5, c14, c21, c42, c56, c73, if_true, if_false, Bool.false_eq_true]
                all_goals (repeat' split) <;> first | rfl | omega | (exfalso; omega) | (exfalso; simp_all)
              rw [e]
              exact ⟨rfl, rfl⟩
            · refine i_const (1) dX1_refusalOfButter_76 ?_
              refine r_goto dX1_refusalOfButter_77 (tgt := 81) (by decide) ?_
              refine p_callS (As := [.int (iI 1)]) (rest := []) (w := (some (.ref (K.1 3)))) (st' := [.ref (K.1 3)]) kv_X1_refusalOfButter_101 dX1_refusalOfButter_81 rfl rfl (Nat.le_of_ble_eq_true rfl) (Nat.le_of_ble_eq_true rfl) rfl rfl (c_X1_stateRefusal hGK (c := true)) rfl (fun h9 e9 => ?_)
              rw [show h9 = h from e9]
              refine r_areturn rfl dX1_refusalOfButter_84 ?_
              have e : rBut ((ro, me, fl, ho, ec, bk), Ls) (i : Int) q = 3 := by
                have hs2 : sAt ((ro, me, fl, ho, ec, bk), Ls) (i : Int) = (l, ex, wa, fo, du, se, co) := hs.symm
                unfold rBut
                rw [hs2]
                unfold rButS
                try dsimp only
                try simp only [c5, c14, c21, c42, c56, c73, if_true, if_false, Bool.false_eq_true]
                all_goals (repeat' split) <;> first | rfl | omega | (exfalso; omega) | (exfalso; simp_all)
              rw [e]
              exact ⟨rfl, rfl⟩
        · refine i_const (1) dX1_refusalOfButter_45 ?_
          refine r_goto dX1_refusalOfButter_46 (tgt := 50) (by decide) ?_
          refine r_istore (ls' := [(0, .ref o), (1, .int (iI ((i : Int)))), (2, .int (iI q)), (3, .ref a), (4, .int (iI 1))]) dX1_refusalOfButter_50 (by decide) rfl ?_
          refine r_aload_n dX1_refusalOfButter_52 3 rfl ?_
          refine r_get cl_X8 8 (by decide) kf_X1_72 dX1_refusalOfButter_53 ma fa rfl ?_
          refine i_ifneb dX1_refusalOfButter_56 (tgt := 76) (by decide) (fun c56 => ?_) (fun c56 => ?_)
          · refine i_const (1) dX1_refusalOfButter_76 ?_
            refine r_goto dX1_refusalOfButter_77 (tgt := 81) (by decide) ?_
            refine p_callS (As := [.int (iI 1)]) (rest := []) (w := (some (.ref (K.1 3)))) (st' := [.ref (K.1 3)]) kv_X1_refusalOfButter_101 dX1_refusalOfButter_81 rfl rfl (Nat.le_of_ble_eq_true rfl) (Nat.le_of_ble_eq_true rfl) rfl rfl (c_X1_stateRefusal hGK (c := true)) rfl (fun h9 e9 => ?_)
            rw [show h9 = h from e9]
            refine r_areturn rfl dX1_refusalOfButter_84 ?_
            have e : rBut ((ro, me, fl, ho, ec, bk), Ls) (i : Int) q = 3 := by
              have hs2 : sAt ((ro, me, fl, ho, ec, bk), Ls) (i : Int) = (l, ex, wa, fo, du, se, co) := hs.symm
              unfold rBut
              rw [hs2]
              unfold rButS
              try dsimp only
              try simp only [c5, c14, c21, c42, c56, if_true, if_false, Bool.false_eq_true]
              all_goals (repeat' split) <;> first | rfl | omega | (exfalso; omega) | (exfalso; simp_all)
            rw [e]
            exact ⟨rfl, rfl⟩
          · refine r_iload dX1_refusalOfButter_59 4 rfl ?_
            refine i_ifne dX1_refusalOfButter_61 (tgt := 76) (by decide) ⟨by decide, by decide⟩ (fun _ => ?_) (fun c => absurd c (by decide))
            refine i_const (1) dX1_refusalOfButter_76 ?_
            refine r_goto dX1_refusalOfButter_77 (tgt := 81) (by decide) ?_
            refine p_callS (As := [.int (iI 1)]) (rest := []) (w := (some (.ref (K.1 3)))) (st' := [.ref (K.1 3)]) kv_X1_refusalOfButter_101 dX1_refusalOfButter_81 rfl rfl (Nat.le_of_ble_eq_true rfl) (Nat.le_of_ble_eq_true rfl) rfl rfl (c_X1_stateRefusal hGK (c := true)) rfl (fun h9 e9 => ?_)
            rw [show h9 = h from e9]
            refine r_areturn rfl dX1_refusalOfButter_84 ?_
            have e : rBut ((ro, me, fl, ho, ec, bk), Ls) (i : Int) q = 3 := by
              have hs2 : sAt ((ro, me, fl, ho, ec, bk), Ls) (i : Int) = (l, ex, wa, fo, du, se, co) := hs.symm
              unfold rBut
              rw [hs2]
              unfold rButS
              try dsimp only
              try simp only [c5, c14, c21, c42, c56, if_true, if_false, Bool.false_eq_true]
              all_goals (repeat' split) <;> first | rfl | omega | (exfalso; omega) | (exfalso; simp_all)
            rw [e]
            exact ⟨rfl, rfl⟩
      · refine r_gets (gk_R hGK 2 (by decide)) kg_X1_94 dX1_refusalOfButter_24 ?_
        refine r_areturn rfl dX1_refusalOfButter_27 ?_
        have e : rBut ((ro, me, fl, ho, ec, bk), Ls) z q = 2 := by
          unfold rBut
          try dsimp only
          try simp only [c5, c14, c21, if_true, if_false, Bool.false_eq_true]
          all_goals (repeat' split) <;> first | rfl | omega | (exfalso; omega) | (exfalso; simp_all)
        rw [e]
        exact ⟨rfl, rfl⟩
  · refine r_gets (gk_R hGK 1 (by decide)) kg_X1_88 dX1_refusalOfButter_8 ?_
    refine r_areturn rfl dX1_refusalOfButter_11 ?_
    have e : rBut ((ro, me, fl, ho, ec, bk), Ls) z q = 1 := by
      unfold rBut
      try dsimp only
      try simp only [c5, if_true, if_false, Bool.false_eq_true]
      all_goals (repeat' split) <;> first | rfl | omega | (exfalso; omega) | (exfalso; simp_all)
    rw [e]
    exact ⟨rfl, rfl⟩
