/-! ===== tokens of a text ===== -/
def isSepB (c : Int) : Bool := decide (c = 32) || decide (c = 10)
def isLetB (c : Int) : Bool := decide (97 ≤ c) && decide (c ≤ 122)
def isDigB (c : Int) : Bool := decide (48 ≤ c) && decide (c ≤ 57)
def runE (p : Int → Bool) (T : List Int) : Nat → Nat → Nat
  | 0, i => i
  | f + 1, i => if i < T.length ∧ p (T.getD i 0) = true then runE p T f (i + 1) else i
/-- where the run of bytes with p that begins at i ends -/
def endR (p : Int → Bool) (T : List Int) (i : Nat) : Nat := runE p T (T.length - i) i
theorem endR_t {p : Int → Bool} {T : List Int} {i : Nat} (h : i < T.length) (e : p (T.getD i 0) = true) : endR p T i = endR p T (i + 1) := by
  unfold endR
  rw [show T.length - i = (T.length - (i + 1)) + 1 by omega, runE, if_pos ⟨h, e⟩]
theorem endR_f {p : Int → Bool} {T : List Int} {i : Nat} (e : p (T.getD i 0) = false) : endR p T i = i := by
  unfold endR
  cases h : T.length - i with
  | zero => rfl
  | succ n => rw [runE, if_neg (by rw [e]; simp)]
theorem endR_n {p : Int → Bool} {T : List Int} {i : Nat} (h : T.length ≤ i) : endR p T i = i := by
  unfold endR
  rw [show T.length - i = 0 by omega]; rfl
theorem endR_b (p : Int → Bool) (T : List Int) (i : Nat) : i ≤ endR p T i ∧ (i ≤ T.length → endR p T i ≤ T.length) := by
  have key : ∀ d i, T.length - i ≤ d → i ≤ endR p T i ∧ (i ≤ T.length → endR p T i ≤ T.length) := by
    intro d
    induction d with
    | zero => intro i hi; rw [endR_n (by omega)]; omega
    | succ d ih =>
      intro i hi
      by_cases h : i < T.length
      · cases e : p (T.getD i 0)
        · rw [endR_f e]; omega
        · rw [endR_t h e]; have := ih (i + 1) (by omega); omega
      · rw [endR_n (by omega)]; omega
  exact key _ i (Nat.le_refl _)
/-- the number of k digits from s on -/
def valU (T : List Int) (s : Nat) : Nat → Int
  | 0 => 0
  | k + 1 => valU T s k * 10 + (T.getD (s + k) 0 - 48)
/-- the token behind place p: its kind (0 word, 1 number, 2 semicolon, 3 invalid, 4 end), where it begins, where it ends -/
def tokS (T : List Int) (S : Nat) : Nat × Nat × Nat := if T.length ≤ S then (4, S, S) else if isLetB (T.getD S 0) then (0, S, endR isLetB T (S + 1)) else if isDigB (T.getD S 0) then (1, S, endR isDigB T (S + 1)) else if T.getD S 0 = 59 then (2, S, S + 1) else (3, S, S + 1)
def tokAt (T : List Int) (p : Nat) : Nat × Nat × Nat := tokS T (endR isSepB T p)
def INP (G : xG) (h : xH) (I : Nat) (T : List Int) : Prop := ∃ g : Nat → Int32, I ∈ h.1 ∧ h.2 I = .inl (G.2.1 0, 500, .inl g) ∧ T.length ≤ 500 ∧ (∀ k, k < T.length → g k = iI (T.getD k 0)) ∧ ∀ k, k < T.length → 0 ≤ T.getD k 0 ∧ T.getD k 0 ≤ 255
theorem INP.fr {G : xG} {h h' : xH} {I : Nat} {fp : List Nat} {T : List Int} (hI : INP G h I T) (hF : FRp fp h h') (h1 : I ∉ fp) : INP G h' I T := by
  obtain ⟨g, m, f, r⟩ := hI
  exact ⟨g, by rw [hF.1]; exact m, (hF.2 I h1).trans f, r⟩
def TKO (G : xG) (h : xH) (K : xK) (o I : Nat) (T : List Int) (t : Nat × Nat × Nat) : Prop := ∃ v : Int, o ∈ h.1 ∧ h.2 o = .inr (6, [.ref I, .int (iI (T.length : Int)), .int (iI (t.2.2 : Int)), .ref (K.2.1 t.1), .int (iI (t.2.1 : Int)), .int (iI v)]) ∧ (t.1 = 1 → v = min 1000000 (valU T t.2.1 (t.2.2 - t.2.1)))
theorem tokAt_b (T : List Int) {p : Nat} (hp : p ≤ T.length) : (tokAt T p).1 < 5 ∧ p ≤ (tokAt T p).2.1 ∧ (tokAt T p).2.1 ≤ (tokAt T p).2.2 ∧ (tokAt T p).2.2 ≤ T.length ∧ ((tokAt T p).1 ≠ 4 → (tokAt T p).2.1 < (tokAt T p).2.2) ∧ ((tokAt T p).1 = 4 → (tokAt T p).2.1 = T.length) := by
  have h1 := endR_b isSepB T p
  unfold tokAt
  generalize endR isSepB T p = S at h1 ⊢
  have h2 := endR_b isLetB T (S + 1)
  have h3 := endR_b isDigB T (S + 1)
  unfold tokS
  repeat' split
  all_goals (simp only []; omega)
theorem dig_t {c : Int} (h : isDigB c = true) : 48 ≤ c ∧ c ≤ 57 := by simpa [isDigB] using h
theorem let_t {c : Int} (h : isLetB c = true) : 97 ≤ c ∧ c ≤ 122 := by simpa [isLetB] using h
theorem valU_nn (T : List Int) (s k : Nat) (h : ∀ i, i < k → isDigB (T.getD (s + i) 0) = true) : 0 ≤ valU T s k := by
  induction k with
  | zero => exact Int.le_refl _
  | succ k ih =>
    have h1 := ih (fun i hi => h i (by omega))
    have h2 := dig_t (h k (Nat.lt_succ_self k))
    unfold valU; omega
set_option maxRecDepth 20000 in
set_option maxHeartbeats 1000000 in
theorem c_X10_isSeparator {G : xG} {h : xH} {c : Int} (hc : 0 ≤ c ∧ c ≤ 255) : CC G MX10_isSeparator [.int (iI c)] h (qI (b2 (isSepB c)) h) := by
  show RR G MX10_isSeparator 0 [(0, .int (iI c))] [] h (xm_R MX10_isSeparator).cells (xm_R MX10_isSeparator).slots (qI (b2 (isSepB c)) h)
  refine r_iload_n dX10_isSeparator_0 0 rfl ?_
  refine i_bipush (32) (by decide) dX10_isSeparator_1 ?_
  refine i_icmpeq dX10_isSeparator_3 (tgt := 12) (by decide) (by unfold in32; omega) ⟨by decide, by decide⟩ (fun c3 => ?_) (fun c3 => ?_)
  · refine i_const (1) dX10_isSeparator_12 ?_
    refine r_goto dX10_isSeparator_13 (tgt := 17) (by decide) ?_
    refine r_ireturn rfl (b2_nar true) dX10_isSeparator_17 ?_
    have e : isSepB c = true := by simp [isSepB]; omega
    rw [e]
    exact ⟨rfl, rfl⟩
  · refine r_iload_n dX10_isSeparator_6 0 rfl ?_
    refine i_bipush (10) (by decide) dX10_isSeparator_7 ?_
    refine i_icmpne dX10_isSeparator_9 (tgt := 16) (by decide) (by unfold in32; omega) ⟨by decide, by decide⟩ (fun c9 => ?_) (fun c9 => ?_)
    · refine i_const (0) dX10_isSeparator_16 ?_
      refine r_ireturn rfl (b2_nar false) dX10_isSeparator_17 ?_
      have e : isSepB c = false := by simp [isSepB]; omega
      rw [e]
      exact ⟨rfl, rfl⟩
    · refine i_const (1) dX10_isSeparator_12 ?_
      refine r_goto dX10_isSeparator_13 (tgt := 17) (by decide) ?_
      refine r_ireturn rfl (b2_nar true) dX10_isSeparator_17 ?_
      have e : isSepB c = true := by simp [isSepB]; omega
      rw [e]
      exact ⟨rfl, rfl⟩
set_option maxRecDepth 20000 in
set_option maxHeartbeats 1000000 in
theorem c_X10_isLetter {G : xG} {h : xH} {c : Int} (hc : 0 ≤ c ∧ c ≤ 255) : CC G MX10_isLetter [.int (iI c)] h (qI (b2 (isLetB c)) h) := by
  show RR G MX10_isLetter 0 [(0, .int (iI c))] [] h (xm_R MX10_isLetter).cells (xm_R MX10_isLetter).slots (qI (b2 (isLetB c)) h)
  refine r_iload_n dX10_isLetter_0 0 rfl ?_
  refine i_bipush (97) (by decide) dX10_isLetter_1 ?_
  refine i_icmplt dX10_isLetter_3 (tgt := 16) (by decide) (by unfold in32; omega) ⟨by decide, by decide⟩ (fun c3 => ?_) (fun c3 => ?_)
  · refine i_const (0) dX10_isLetter_16 ?_
    refine r_ireturn rfl (b2_nar false) dX10_isLetter_17 ?_
    have e : isLetB c = false := by simp [isLetB]; omega
    rw [e]
    exact ⟨rfl, rfl⟩
  · refine r_iload_n dX10_isLetter_6 0 rfl ?_
    refine i_bipush (122) (by decide) dX10_isLetter_7 ?_
    refine i_icmpgt dX10_isLetter_9 (tgt := 16) (by decide) (by unfold in32; omega) ⟨by decide, by decide⟩ (fun c9 => ?_) (fun c9 => ?_)
    · refine i_const (0) dX10_isLetter_16 ?_
      refine r_ireturn rfl (b2_nar false) dX10_isLetter_17 ?_
      have e : isLetB c = false := by simp [isLetB]; omega
      rw [e]
      exact ⟨rfl, rfl⟩
    · refine i_const (1) dX10_isLetter_12 ?_
      refine r_goto dX10_isLetter_13 (tgt := 17) (by decide) ?_
      refine r_ireturn rfl (b2_nar true) dX10_isLetter_17 ?_
      have e : isLetB c = true := by simp [isLetB]; omega
      rw [e]
      exact ⟨rfl, rfl⟩
set_option maxRecDepth 20000 in
set_option maxHeartbeats 1000000 in
theorem c_X10_isDigit {G : xG} {h : xH} {c : Int} (hc : 0 ≤ c ∧ c ≤ 255) : CC G MX10_isDigit [.int (iI c)] h (qI (b2 (isDigB c)) h) := by
  show RR G MX10_isDigit 0 [(0, .int (iI c))] [] h (xm_R MX10_isDigit).cells (xm_R MX10_isDigit).slots (qI (b2 (isDigB c)) h)
  refine r_iload_n dX10_isDigit_0 0 rfl ?_
  refine i_bipush (48) (by decide) dX10_isDigit_1 ?_
  refine i_icmplt dX10_isDigit_3 (tgt := 16) (by decide) (by unfold in32; omega) ⟨by decide, by decide⟩ (fun c3 => ?_) (fun c3 => ?_)
  · refine i_const (0) dX10_isDigit_16 ?_
    refine r_ireturn rfl (b2_nar false) dX10_isDigit_17 ?_
    have e : isDigB c = false := by simp [isDigB]; omega
    rw [e]
    exact ⟨rfl, rfl⟩
  · refine r_iload_n dX10_isDigit_6 0 rfl ?_
    refine i_bipush (57) (by decide) dX10_isDigit_7 ?_
    refine i_icmpgt dX10_isDigit_9 (tgt := 16) (by decide) (by unfold in32; omega) ⟨by decide, by decide⟩ (fun c9 => ?_) (fun c9 => ?_)
    · refine i_const (0) dX10_isDigit_16 ?_
      refine r_ireturn rfl (b2_nar false) dX10_isDigit_17 ?_
      have e : isDigB c = false := by simp [isDigB]; omega
      rw [e]
      exact ⟨rfl, rfl⟩
    · refine i_const (1) dX10_isDigit_12 ?_
      refine r_goto dX10_isDigit_13 (tgt := 17) (by decide) ?_
      refine r_ireturn rfl (b2_nar true) dX10_isDigit_17 ?_
      have e : isDigB c = true := by simp [isDigB]; omega
      rw [e]
      exact ⟨rfl, rfl⟩
set_option maxRecDepth 20000 in
set_option maxHeartbeats 1000000 in
theorem c_X10_advance {G : xG} {h : xH} {K : xK} (hGK : GK G K) {o I : Nat} {T : List Int} (hI : INP G h I T) {p kk : Nat} (hp : p ≤ T.length) {s v : Int} (mo0 : o ∈ h.1) (f0 : h.2 o = .inr (6, [.ref I, .int (iI (T.length : Int)), .int (iI (p : Int)), .ref kk, .int (iI s), .int (iI v)])) : CC G MX10_advance [.ref o] h (fun o' h' => o' = .inl none ∧ TKO G h' K o I T (tokAt T p) ∧ FRp [o] h h') := by
  obtain ⟨g, mI0, fI0, hT5, hg, hb⟩ := hI
  have nIo : I ≠ o := (ne_oi f0 fI0).symm
  have LW : ∀ S, endR isSepB T p = S → S < T.length → isLetB (T.getD S 0) = true → ∀ (c v : Int) (i : Nat), i ≤ T.length → endR isLetB T i = endR isLetB T (S + 1) → ∀ hh : xH, hh.2 o = .inr (6, [.ref I, .int (iI (T.length : Int)), .int (iI (i : Int)), .ref (K.2.1 0), .int (iI (S : Int)), .int (iI v)]) → FRp [o] h hh → RR G MX10_advance 100 [(0, .ref o), (1, .int (iI c))] [] hh (xm_R MX10_advance).cells (xm_R MX10_advance).slots (fun o' h' => o' = .inl none ∧ TKO G h' K o I T (tokAt T p) ∧ FRp [o] h h') := by
    intro S hS hSn hSl c v
    refine down (fun i hi ih => ?_)
    intro hE hh fo hF
    have mo : o ∈ hh.1 := by rw [hF.1]; exact mo0
    have mI : I ∈ hh.1 := by rw [hF.1]; exact mI0
    have fI := (hF.2 I (fun z => nIo (List.mem_singleton.mp z))).trans fI0
    refine r_aload_n dX10_advance_100 0 rfl ?_
    refine r_get cl_X10 2 (by decide) kf_X10_34 dX10_advance_101 mo fo rfl ?_
    refine r_aload_n dX10_advance_104 0 rfl ?_
    refine r_get cl_X10 1 (by decide) kf_X10_30 dX10_advance_105 mo fo rfl ?_
    refine i_icmpge dX10_advance_108 (tgt := 248) (by decide) (by unfold in32; omega) (by unfold in32; omega) (fun c108 => ?_) (fun c108 => ?_)
    · refine r_return rfl dX10_advance_248 ?_
      rw [endR_n (by omega)] at hE
      have et : tokAt T p = (0, S, i) := by show tokS T (endR isSepB T p) = _; rw [hS]; unfold tokS; rw [if_neg (by omega), if_pos hSl, hE]
      rw [et]
      exact ⟨rfl, ⟨_, mo, fo, (fun z => absurd (show (0 : Nat) = 1 from z) (by decide))⟩, hF⟩
    · refine r_aload_n dX10_advance_111 0 rfl ?_
      refine r_get cl_X10 0 (by decide) kf_X10_9 dX10_advance_112 mo fo rfl ?_
      refine r_aload_n dX10_advance_115 0 rfl ?_
      refine r_get cl_X10 2 (by decide) kf_X10_34 dX10_advance_116 mo fo rfl ?_
      refine i_iald i rfl dX10_advance_119 mI fI (by omega) (by decide) (hg i (by omega)) ?_
      refine p_callS (As := [.int (iI (T.getD i 0))]) (rest := []) (w := (some (.int (iI (b2 (isLetB (T.getD i 0))))))) (st' := [.int (iI (b2 (isLetB (T.getD i 0))))]) kv_X10_advance_47 dX10_advance_120 rfl rfl (Nat.le_of_ble_eq_true rfl) (Nat.le_of_ble_eq_true rfl) rfl rfl (c_X10_isLetter (hb _ (by omega))) rfl (fun h9 e9 => ?_)
      rw [show h9 = hh from e9]
      refine i_ifeqb dX10_advance_123 (tgt := 248) (by decide) (fun c123 => ?_) (fun c123 => ?_)
      · refine r_return rfl dX10_advance_248 ?_
        rw [endR_f c123] at hE
        have et : tokAt T p = (0, S, i) := by show tokS T (endR isSepB T p) = _; rw [hS]; unfold tokS; rw [if_neg (by omega), if_pos hSl, hE]
        rw [et]
        exact ⟨rfl, ⟨_, mo, fo, (fun z => absurd (show (0 : Nat) = 1 from z) (by decide))⟩, hF⟩
      · refine r_aload_n dX10_advance_126 0 rfl ?_
        refine r_dup dX10_advance_127 rfl ?_
        refine r_get cl_X10 2 (by decide) kf_X10_34 dX10_advance_128 mo fo rfl ?_
        refine i_const (1) dX10_advance_131 ?_
        refine i_add dX10_advance_132 ?_
        refine i_put [.ref I, .int (iI ((T.length : Int))), .int (iI ((i : Int) + 1)), .ref ((K.2.1 0)), .int (iI ((S : Int))), .int (iI v)] cl_X10 2 (by decide) kf_X10_34 rfl dX10_advance_133 mo fo rfl rfl (by simp) rfl (fun h1 e0_1 e1_1 e2_1 => ?_)
        have mo_1 : o ∈ h1.1 := by rw [e0_1]; exact mo
        have mI_1 : I ∈ h1.1 := by rw [e0_1]; exact mI
        have fI_1 := (e2_1 _ nIo).trans fI
        refine r_goto dX10_advance_136 (tgt := 100) (by decide) ?_
        exact ih (i + 1) (by omega) (by omega) ((endR_t (by omega) c123).symm.trans hE) _ e1_1 (FRp.tr hF (FRp.w List.mem_cons_self e0_1 e2_1))
  have LN : ∀ S, endR isSepB T p = S → S < T.length → isLetB (T.getD S 0) = false → isDigB (T.getD S 0) = true → ∀ (c : Int) (i : Nat), i ≤ T.length → S + 1 ≤ i → endR isDigB T i = endR isDigB T (S + 1) → (∀ k, k < i - S → isDigB (T.getD (S + k) 0) = true) → ∀ hh : xH, hh.2 o = .inr (6, [.ref I, .int (iI (T.length : Int)), .int (iI (i : Int)), .ref (K.2.1 1), .int (iI (S : Int)), .int (iI (min 1000000 (valU T S (i - S))))]) → FRp [o] h hh → RR G MX10_advance 161 [(0, .ref o), (1, .int (iI c))] [] hh (xm_R MX10_advance).cells (xm_R MX10_advance).slots (fun o' h' => o' = .inl none ∧ TKO G h' K o I T (tokAt T p) ∧ FRp [o] h h') := by
    intro S hS hSn hSl hSd c
    refine down (fun i hi ih => ?_)
    intro hiS hE hdg hh fo hF
    have hvn := valU_nn T S (i - S) hdg
    have mo : o ∈ hh.1 := by rw [hF.1]; exact mo0
    have mI : I ∈ hh.1 := by rw [hF.1]; exact mI0
    have fI := (hF.2 I (fun z => nIo (List.mem_singleton.mp z))).trans fI0
    refine r_aload_n dX10_advance_161 0 rfl ?_
    refine r_get cl_X10 2 (by decide) kf_X10_34 dX10_advance_162 mo fo rfl ?_
    refine r_aload_n dX10_advance_165 0 rfl ?_
    refine r_get cl_X10 1 (by decide) kf_X10_30 dX10_advance_166 mo fo rfl ?_
    refine i_icmpge dX10_advance_169 (tgt := 248) (by decide) (by unfold in32; omega) (by unfold in32; omega) (fun c169 => ?_) (fun c169 => ?_)
    · refine r_return rfl dX10_advance_248 ?_
      rw [endR_n (by omega)] at hE
      have et : tokAt T p = (1, S, i) := by show tokS T (endR isSepB T p) = _; rw [hS]; unfold tokS; rw [if_neg (by omega), if_neg (by rw [hSl]; decide), if_pos hSd, hE]
      rw [et]
      exact ⟨rfl, ⟨_, mo, fo, (fun _ => rfl)⟩, hF⟩
    · refine r_aload_n dX10_advance_172 0 rfl ?_
      refine r_get cl_X10 0 (by decide) kf_X10_9 dX10_advance_173 mo fo rfl ?_
      refine r_aload_n dX10_advance_176 0 rfl ?_
      refine r_get cl_X10 2 (by decide) kf_X10_34 dX10_advance_177 mo fo rfl ?_
      refine i_iald i rfl dX10_advance_180 mI fI (by omega) (by decide) (hg i (by omega)) ?_
      refine p_callS (As := [.int (iI (T.getD i 0))]) (rest := []) (w := (some (.int (iI (b2 (isDigB (T.getD i 0))))))) (st' := [.int (iI (b2 (isDigB (T.getD i 0))))]) kv_X10_advance_53 dX10_advance_181 rfl rfl (Nat.le_of_ble_eq_true rfl) (Nat.le_of_ble_eq_true rfl) rfl rfl (c_X10_isDigit (hb _ (by omega))) rfl (fun h9 e9 => ?_)
      rw [show h9 = hh from e9]
      refine i_ifeqb dX10_advance_184 (tgt := 248) (by decide) (fun c184 => ?_) (fun c184 => ?_)
      · refine r_return rfl dX10_advance_248 ?_
        rw [endR_f c184] at hE
        have et : tokAt T p = (1, S, i) := by show tokS T (endR isSepB T p) = _; rw [hS]; unfold tokS; rw [if_neg (by omega), if_neg (by rw [hSl]; decide), if_pos hSd, hE]
        rw [et]
        exact ⟨rfl, ⟨_, mo, fo, (fun _ => rfl)⟩, hF⟩
      · have hcd := dig_t c184
        refine r_aload_n dX10_advance_187 0 rfl ?_
        refine i_ldc (1000000) (by decide) kk_X10_62 dX10_advance_188 ?_
        refine r_aload_n dX10_advance_190 0 rfl ?_
        refine r_get cl_X10 5 (by decide) kf_X10_59 dX10_advance_191 mo fo rfl ?_
        refine i_bipush (10) (by decide) dX10_advance_194 ?_
        refine i_mul dX10_advance_196 ?_
        refine r_aload_n dX10_advance_197 0 rfl ?_
        refine r_get cl_X10 0 (by decide) kf_X10_9 dX10_advance_198 mo fo rfl ?_
        refine r_aload_n dX10_advance_201 0 rfl ?_
        refine r_get cl_X10 2 (by decide) kf_X10_34 dX10_advance_202 mo fo rfl ?_
        refine i_iald i rfl dX10_advance_205 mI fI (by omega) (by decide) (hg i (by omega)) ?_
        refine i_add dX10_advance_206 ?_
        refine i_bipush (48) (by decide) dX10_advance_207 ?_
        refine i_sub dX10_advance_209 ?_
        refine i_min (kv_X10_advance_24 1 (by decide)) rfl dX10_advance_210 ⟨by decide, by decide⟩ (by unfold in32; omega) ?_
        refine i_put [.ref I, .int (iI ((T.length : Int))), .int (iI ((i : Int))), .ref ((K.2.1 1)), .int (iI ((S : Int))), .int (iI (min 1000000 ((((min 1000000 (valU T S (i - S))) * 10) + (T.getD i 0)) - 48)))] cl_X10 5 (by decide) kf_X10_59 rfl dX10_advance_213 mo fo rfl rfl (by simp) rfl (fun h1 e0_1 e1_1 e2_1 => ?_)
        have mo_1 : o ∈ h1.1 := by rw [e0_1]; exact mo
        have mI_1 : I ∈ h1.1 := by rw [e0_1]; exact mI
        have fI_1 := (e2_1 _ nIo).trans fI
        refine r_aload_n dX10_advance_216 0 rfl ?_
        refine r_dup dX10_advance_217 rfl ?_
        refine r_get cl_X10 2 (by decide) kf_X10_34 dX10_advance_218 mo_1 e1_1 rfl ?_
        refine i_const (1) dX10_advance_221 ?_
        refine i_add dX10_advance_222 ?_
        refine i_put [.ref I, .int (iI ((T.length : Int))), .int (iI ((i : Int) + 1)), .ref ((K.2.1 1)), .int (iI ((S : Int))), .int (iI (min 1000000 ((((min 1000000 (valU T S (i - S))) * 10) + (T.getD i 0)) - 48)))] cl_X10 2 (by decide) kf_X10_34 rfl dX10_advance_223 mo_1 e1_1 rfl rfl (by simp) rfl (fun h2 e0_2 e1_2 e2_2 => ?_)
        have mo_2 : o ∈ h2.1 := by rw [e0_2]; exact mo_1
        have mI_2 : I ∈ h2.1 := by rw [e0_2]; exact mI_1
        have fI_2 := (e2_2 _ nIo).trans fI_1
        refine r_goto dX10_advance_226 (tgt := 161) (by decide) ?_
        have hd9 : T.getD i 0 = T.getD (S + (i - S)) 0 := by rw [show S + (i - S) = i by omega]
        have hv9 : valU T S (i + 1 - S) = valU T S (i - S) * 10 + (T.getD i 0 - 48) := by rw [show i + 1 - S = (i - S) + 1 by omega, valU, ← hd9]
        have hv8 : min (1000000 : Int) (min 1000000 (valU T S (i - S)) * 10 + T.getD i 0 - 48) = min 1000000 (valU T S (i + 1 - S)) := by rw [hv9]; have z := dig_t c184; omega
        have fz := e1_2
        rw [hv8] at fz
        refine ih (i + 1) (by omega) (by omega) (by omega) ((endR_t (by omega) c184).symm.trans hE) (fun k hk => ?_) _ fz (FRp.tr hF (FRp.tr (FRp.w List.mem_cons_self e0_1 e2_1) (FRp.w List.mem_cons_self e0_2 e2_2)))
        by_cases z : k = i - S
        · rw [z, show S + (i - S) = i by omega]; exact c184
        · exact hdg k (by omega)
  have LS : ∀ (kk : Nat) (s v : Int) (i : Nat), i ≤ T.length → endR isSepB T i = endR isSepB T p → ∀ hh : xH, hh.2 o = .inr (6, [.ref I, .int (iI (T.length : Int)), .int (iI (i : Int)), .ref kk, .int (iI s), .int (iI v)]) → FRp [o] h hh → RR G MX10_advance 0 [(0, .ref o)] [] hh (xm_R MX10_advance).cells (xm_R MX10_advance).slots (fun o' h' => o' = .inl none ∧ TKO G h' K o I T (tokAt T p) ∧ FRp [o] h h') := by
    intro kk s v
    refine down (fun i hi ih => ?_)
    intro hE hh fo hF
    have mo : o ∈ hh.1 := by rw [hF.1]; exact mo0
    have mI : I ∈ hh.1 := by rw [hF.1]; exact mI0
    have fI := (hF.2 I (fun z => nIo (List.mem_singleton.mp z))).trans fI0
    refine r_aload_n dX10_advance_0 0 rfl ?_
    refine r_get cl_X10 2 (by decide) kf_X10_34 dX10_advance_1 mo fo rfl ?_
    refine r_aload_n dX10_advance_4 0 rfl ?_
    refine r_get cl_X10 1 (by decide) kf_X10_30 dX10_advance_5 mo fo rfl ?_
    refine i_icmpge dX10_advance_8 (tgt := 39) (by decide) (by unfold in32; omega) (by unfold in32; omega) (fun c8 => ?_) (fun c8 => ?_)
    · have hS : endR isSepB T p = i := by rw [← hE]; exact endR_n (by omega)
      refine r_aload_n dX10_advance_39 0 rfl ?_
      refine r_aload_n dX10_advance_40 0 rfl ?_
      refine r_get cl_X10 2 (by decide) kf_X10_34 dX10_advance_41 mo fo rfl ?_
      refine i_put [.ref I, .int (iI ((T.length : Int))), .int (iI ((i : Int))), .ref kk, .int (iI ((i : Int))), .int (iI v)] cl_X10 4 (by decide) kf_X10_44 rfl dX10_advance_44 mo fo rfl rfl (by simp) rfl (fun h1 e0_1 e1_1 e2_1 => ?_)
      have mo_1 : o ∈ h1.1 := by rw [e0_1]; exact mo
      have mI_1 : I ∈ h1.1 := by rw [e0_1]; exact mI
      have fI_1 := (e2_1 _ nIo).trans fI
      refine r_aload_n dX10_advance_47 0 rfl ?_
      refine r_get cl_X10 2 (by decide) kf_X10_34 dX10_advance_48 mo_1 e1_1 rfl ?_
      refine r_aload_n dX10_advance_51 0 rfl ?_
      refine r_get cl_X10 1 (by decide) kf_X10_30 dX10_advance_52 mo_1 e1_1 rfl ?_
      refine i_icmplt dX10_advance_55 (tgt := 66) (by decide) (by unfold in32; omega) (by unfold in32; omega) (fun c55 => ?_) (fun c55 => ?_)
      · have hbi := hb i (by omega)
        refine r_aload_n dX10_advance_66 0 rfl ?_
        refine r_get cl_X10 0 (by decide) kf_X10_9 dX10_advance_67 mo_1 e1_1 rfl ?_
        refine r_aload_n dX10_advance_70 0 rfl ?_
        refine r_get cl_X10 2 (by decide) kf_X10_34 dX10_advance_71 mo_1 e1_1 rfl ?_
        refine i_iald i rfl dX10_advance_74 mI_1 fI_1 (by omega) (by decide) (hg i (by omega)) ?_
        refine r_istore_n (ls' := [(0, .ref o), (1, .int (iI (T.getD i 0)))]) dX10_advance_75 (by decide) rfl ?_
        refine r_aload_n dX10_advance_76 0 rfl ?_
        refine r_dup dX10_advance_77 rfl ?_
        refine r_get cl_X10 2 (by decide) kf_X10_34 dX10_advance_78 mo_1 e1_1 rfl ?_
        refine i_const (1) dX10_advance_81 ?_
        refine i_add dX10_advance_82 ?_
        refine i_put [.ref I, .int (iI ((T.length : Int))), .int (iI ((i : Int) + 1)), .ref kk, .int (iI ((i : Int))), .int (iI v)] cl_X10 2 (by decide) kf_X10_34 rfl dX10_advance_83 mo_1 e1_1 rfl rfl (by simp) rfl (fun h2 e0_2 e1_2 e2_2 => ?_)
        have mo_2 : o ∈ h2.1 := by rw [e0_2]; exact mo_1
        have mI_2 : I ∈ h2.1 := by rw [e0_2]; exact mI_1
        have fI_2 := (e2_2 _ nIo).trans fI_1
        refine r_iload_n dX10_advance_86 1 rfl ?_
        refine p_callS (As := [.int (iI (T.getD i 0))]) (rest := []) (w := (some (.int (iI (b2 (isLetB (T.getD i 0))))))) (st' := [.int (iI (b2 (isLetB (T.getD i 0))))]) kv_X10_advance_47 dX10_advance_87 rfl rfl (Nat.le_of_ble_eq_true rfl) (Nat.le_of_ble_eq_true rfl) rfl rfl (c_X10_isLetter (hb _ (by omega))) rfl (fun h9 e9 => ?_)
        rw [show h9 = h2 from e9]
        refine i_ifeqb dX10_advance_90 (tgt := 139) (by decide) (fun c90 => ?_) (fun c90 => ?_)
        · refine r_iload_n dX10_advance_139 1 rfl ?_
          refine p_callS (As := [.int (iI (T.getD i 0))]) (rest := []) (w := (some (.int (iI (b2 (isDigB (T.getD i 0))))))) (st' := [.int (iI (b2 (isDigB (T.getD i 0))))]) kv_X10_advance_53 dX10_advance_140 rfl rfl (Nat.le_of_ble_eq_true rfl) (Nat.le_of_ble_eq_true rfl) rfl rfl (c_X10_isDigit (hb _ (by omega))) rfl (fun h9 e9 => ?_)
          rw [show h9 = h2 from e9]
          refine i_ifeqb dX10_advance_143 (tgt := 229) (by decide) (fun c143 => ?_) (fun c143 => ?_)
          · refine r_aload_n dX10_advance_229 0 rfl ?_
            refine r_iload_n dX10_advance_230 1 rfl ?_
            refine i_bipush (59) (by decide) dX10_advance_231 ?_
            refine i_icmpne dX10_advance_233 (tgt := 242) (by decide) (by unfold in32; omega) ⟨by decide, by decide⟩ (fun c233 => ?_) (fun c233 => ?_)
            · refine r_gets (gk_T hGK 3 (by decide)) kg_X10_66 dX10_advance_242 ?_
              refine i_put [.ref I, .int (iI ((T.length : Int))), .int (iI ((i : Int) + 1)), .ref (K.2.1 3), .int (iI ((i : Int))), .int (iI v)] cl_X10 3 (by decide) kf_X10_21 rfl dX10_advance_245 mo_2 e1_2 rfl rfl (by simp) rfl (fun h3 e0_3 e1_3 e2_3 => ?_)
              have mo_3 : o ∈ h3.1 := by rw [e0_3]; exact mo_2
              have mI_3 : I ∈ h3.1 := by rw [e0_3]; exact mI_2
              have fI_3 := (e2_3 _ nIo).trans fI_2
              refine r_return rfl dX10_advance_248 ?_
              have et : tokAt T p = (3, i, (i + 1)) := by show tokS T (endR isSepB T p) = _; rw [hS]; unfold tokS; rw [if_neg (by omega), if_neg (by rw [c90]; decide), if_neg (by rw [c143]; decide), if_neg c233]
              rw [et]
              exact ⟨rfl, ⟨_, mo_3, e1_3, (fun z => absurd (show (3 : Nat) = 1 from z) (by decide))⟩, FRp.tr hF (FRp.tr (FRp.tr (FRp.w List.mem_cons_self e0_1 e2_1) (FRp.w List.mem_cons_self e0_2 e2_2)) (FRp.w List.mem_cons_self e0_3 e2_3))⟩
            · refine r_gets (gk_T hGK 2 (by decide)) kg_X10_63 dX10_advance_236 ?_
              refine r_goto dX10_advance_239 (tgt := 245) (by decide) ?_
              refine i_put [.ref I, .int (iI ((T.length : Int))), .int (iI ((i : Int) + 1)), .ref (K.2.1 2), .int (iI ((i : Int))), .int (iI v)] cl_X10 3 (by decide) kf_X10_21 rfl dX10_advance_245 mo_2 e1_2 rfl rfl (by simp) rfl (fun h4 e0_4 e1_4 e2_4 => ?_)
              have mo_4 : o ∈ h4.1 := by rw [e0_4]; exact mo_2
              have mI_4 : I ∈ h4.1 := by rw [e0_4]; exact mI_2
              have fI_4 := (e2_4 _ nIo).trans fI_2
              refine r_return rfl dX10_advance_248 ?_
              have et : tokAt T p = (2, i, (i + 1)) := by show tokS T (endR isSepB T p) = _; rw [hS]; unfold tokS; rw [if_neg (by omega), if_neg (by rw [c90]; decide), if_neg (by rw [c143]; decide), if_pos c233]
              rw [et]
              exact ⟨rfl, ⟨_, mo_4, e1_4, (fun z => absurd (show (2 : Nat) = 1 from z) (by decide))⟩, FRp.tr hF (FRp.tr (FRp.tr (FRp.w List.mem_cons_self e0_1 e2_1) (FRp.w List.mem_cons_self e0_2 e2_2)) (FRp.w List.mem_cons_self e0_4 e2_4))⟩
          · refine r_aload_n dX10_advance_146 0 rfl ?_
            refine r_gets (gk_T hGK 1 (by decide)) kg_X10_56 dX10_advance_147 ?_
            refine i_put [.ref I, .int (iI ((T.length : Int))), .int (iI ((i : Int) + 1)), .ref (K.2.1 1), .int (iI ((i : Int))), .int (iI v)] cl_X10 3 (by decide) kf_X10_21 rfl dX10_advance_150 mo_2 e1_2 rfl rfl (by simp) rfl (fun h5 e0_5 e1_5 e2_5 => ?_)
            have mo_5 : o ∈ h5.1 := by rw [e0_5]; exact mo_2
            have mI_5 : I ∈ h5.1 := by rw [e0_5]; exact mI_2
            have fI_5 := (e2_5 _ nIo).trans fI_2
            refine r_aload_n dX10_advance_153 0 rfl ?_
            refine r_iload_n dX10_advance_154 1 rfl ?_
            refine i_bipush (48) (by decide) dX10_advance_155 ?_
            refine i_sub dX10_advance_157 ?_
            refine i_put [.ref I, .int (iI ((T.length : Int))), .int (iI ((i : Int) + 1)), .ref (K.2.1 1), .int (iI ((i : Int))), .int (iI ((T.getD i 0) - 48))] cl_X10 5 (by decide) kf_X10_59 rfl dX10_advance_158 mo_5 e1_5 rfl rfl (by simp) rfl (fun h6 e0_6 e1_6 e2_6 => ?_)
            have mo_6 : o ∈ h6.1 := by rw [e0_6]; exact mo_5
            have mI_6 : I ∈ h6.1 := by rw [e0_6]; exact mI_5
            have fI_6 := (e2_6 _ nIo).trans fI_5
            have hdg : ∀ k, k < i + 1 - i → isDigB (T.getD (i + k) 0) = true := fun k hk => by rw [show k = 0 by omega]; exact c143
            have hcd := dig_t c143
            have fz := e1_6
            rw [show T.getD i 0 - 48 = min 1000000 (valU T i (i + 1 - i)) by rw [show i + 1 - i = 1 by omega]; simp only [valU, Nat.add_zero]; omega] at fz
            exact LN i hS (by omega) c90 c143 _ (i + 1) (by omega) (by omega) rfl hdg _ fz (FRp.tr hF (FRp.tr (FRp.tr (FRp.tr (FRp.w List.mem_cons_self e0_1 e2_1) (FRp.w List.mem_cons_self e0_2 e2_2)) (FRp.w List.mem_cons_self e0_5 e2_5)) (FRp.w List.mem_cons_self e0_6 e2_6)))
        · refine r_aload_n dX10_advance_93 0 rfl ?_
          refine r_gets (gk_T hGK 0 (by decide)) kg_X10_50 dX10_advance_94 ?_
          refine i_put [.ref I, .int (iI ((T.length : Int))), .int (iI ((i : Int) + 1)), .ref (K.2.1 0), .int (iI ((i : Int))), .int (iI v)] cl_X10 3 (by decide) kf_X10_21 rfl dX10_advance_97 mo_2 e1_2 rfl rfl (by simp) rfl (fun h7 e0_7 e1_7 e2_7 => ?_)
          have mo_7 : o ∈ h7.1 := by rw [e0_7]; exact mo_2
          have mI_7 : I ∈ h7.1 := by rw [e0_7]; exact mI_2
          have fI_7 := (e2_7 _ nIo).trans fI_2
          exact LW i hS (by omega) c90 _ _ (i + 1) (by omega) rfl _ e1_7 (FRp.tr hF (FRp.tr (FRp.tr (FRp.w List.mem_cons_self e0_1 e2_1) (FRp.w List.mem_cons_self e0_2 e2_2)) (FRp.w List.mem_cons_self e0_7 e2_7)))
      · refine r_aload_n dX10_advance_58 0 rfl ?_
        refine r_gets (gk_T hGK 4 (by decide)) kg_X10_15 dX10_advance_59 ?_
        refine i_put [.ref I, .int (iI ((T.length : Int))), .int (iI ((i : Int))), .ref (K.2.1 4), .int (iI ((i : Int))), .int (iI v)] cl_X10 3 (by decide) kf_X10_21 rfl dX10_advance_62 mo_1 e1_1 rfl rfl (by simp) rfl (fun h8 e0_8 e1_8 e2_8 => ?_)
        have mo_8 : o ∈ h8.1 := by rw [e0_8]; exact mo_1
        have mI_8 : I ∈ h8.1 := by rw [e0_8]; exact mI_1
        have fI_8 := (e2_8 _ nIo).trans fI_1
        refine r_return rfl dX10_advance_65 ?_
        have et : tokAt T p = (4, i, i) := by show tokS T (endR isSepB T p) = _; rw [hS]; unfold tokS; rw [if_pos (by omega)]
        rw [et]
        exact ⟨rfl, ⟨_, mo_8, e1_8, (fun z => absurd (show (4 : Nat) = 1 from z) (by decide))⟩, FRp.tr hF (FRp.tr (FRp.w List.mem_cons_self e0_1 e2_1) (FRp.w List.mem_cons_self e0_8 e2_8))⟩
    · refine r_aload_n dX10_advance_11 0 rfl ?_
      refine r_get cl_X10 0 (by decide) kf_X10_9 dX10_advance_12 mo fo rfl ?_
      refine r_aload_n dX10_advance_15 0 rfl ?_
      refine r_get cl_X10 2 (by decide) kf_X10_34 dX10_advance_16 mo fo rfl ?_
      refine i_iald i rfl dX10_advance_19 mI fI (by omega) (by decide) (hg i (by omega)) ?_
      refine p_callS (As := [.int (iI (T.getD i 0))]) (rest := []) (w := (some (.int (iI (b2 (isSepB (T.getD i 0))))))) (st' := [.int (iI (b2 (isSepB (T.getD i 0))))]) kv_X10_advance_40 dX10_advance_20 rfl rfl (Nat.le_of_ble_eq_true rfl) (Nat.le_of_ble_eq_true rfl) rfl rfl (c_X10_isSeparator (hb _ (by omega))) rfl (fun h9 e9 => ?_)
      rw [show h9 = hh from e9]
      refine i_ifeqb dX10_advance_23 (tgt := 39) (by decide) (fun c23 => ?_) (fun c23 => ?_)
      · have hS : endR isSepB T p = i := by rw [← hE]; exact endR_f c23
        refine r_aload_n dX10_advance_39 0 rfl ?_
        refine r_aload_n dX10_advance_40 0 rfl ?_
        refine r_get cl_X10 2 (by decide) kf_X10_34 dX10_advance_41 mo fo rfl ?_
        refine i_put [.ref I, .int (iI ((T.length : Int))), .int (iI ((i : Int))), .ref kk, .int (iI ((i : Int))), .int (iI v)] cl_X10 4 (by decide) kf_X10_44 rfl dX10_advance_44 mo fo rfl rfl (by simp) rfl (fun h9 e0_9 e1_9 e2_9 => ?_)
        have mo_9 : o ∈ h9.1 := by rw [e0_9]; exact mo
        have mI_9 : I ∈ h9.1 := by rw [e0_9]; exact mI
        have fI_9 := (e2_9 _ nIo).trans fI
        refine r_aload_n dX10_advance_47 0 rfl ?_
        refine r_get cl_X10 2 (by decide) kf_X10_34 dX10_advance_48 mo_9 e1_9 rfl ?_
        refine r_aload_n dX10_advance_51 0 rfl ?_
        refine r_get cl_X10 1 (by decide) kf_X10_30 dX10_advance_52 mo_9 e1_9 rfl ?_
        refine i_icmplt dX10_advance_55 (tgt := 66) (by decide) (by unfold in32; omega) (by unfold in32; omega) (fun c55 => ?_) (fun c55 => ?_)
        · have hbi := hb i (by omega)
          refine r_aload_n dX10_advance_66 0 rfl ?_
          refine r_get cl_X10 0 (by decide) kf_X10_9 dX10_advance_67 mo_9 e1_9 rfl ?_
          refine r_aload_n dX10_advance_70 0 rfl ?_
          refine r_get cl_X10 2 (by decide) kf_X10_34 dX10_advance_71 mo_9 e1_9 rfl ?_
          refine i_iald i rfl dX10_advance_74 mI_9 fI_9 (by omega) (by decide) (hg i (by omega)) ?_
          refine r_istore_n (ls' := [(0, .ref o), (1, .int (iI (T.getD i 0)))]) dX10_advance_75 (by decide) rfl ?_
          refine r_aload_n dX10_advance_76 0 rfl ?_
          refine r_dup dX10_advance_77 rfl ?_
          refine r_get cl_X10 2 (by decide) kf_X10_34 dX10_advance_78 mo_9 e1_9 rfl ?_
          refine i_const (1) dX10_advance_81 ?_
          refine i_add dX10_advance_82 ?_
          refine i_put [.ref I, .int (iI ((T.length : Int))), .int (iI ((i : Int) + 1)), .ref kk, .int (iI ((i : Int))), .int (iI v)] cl_X10 2 (by decide) kf_X10_34 rfl dX10_advance_83 mo_9 e1_9 rfl rfl (by simp) rfl (fun h10 e0_10 e1_10 e2_10 => ?_)
          have mo_10 : o ∈ h10.1 := by rw [e0_10]; exact mo_9
          have mI_10 : I ∈ h10.1 := by rw [e0_10]; exact mI_9
          have fI_10 := (e2_10 _ nIo).trans fI_9
          refine r_iload_n dX10_advance_86 1 rfl ?_
          refine p_callS (As := [.int (iI (T.getD i 0))]) (rest := []) (w := (some (.int (iI (b2 (isLetB (T.getD i 0))))))) (st' := [.int (iI (b2 (isLetB (T.getD i 0))))]) kv_X10_advance_47 dX10_advance_87 rfl rfl (Nat.le_of_ble_eq_true rfl) (Nat.le_of_ble_eq_true rfl) rfl rfl (c_X10_isLetter (hb _ (by omega))) rfl (fun h9 e9 => ?_)
          rw [show h9 = h10 from e9]
          refine i_ifeqb dX10_advance_90 (tgt := 139) (by decide) (fun c90 => ?_) (fun c90 => ?_)
          · refine r_iload_n dX10_advance_139 1 rfl ?_
            refine p_callS (As := [.int (iI (T.getD i 0))]) (rest := []) (w := (some (.int (iI (b2 (isDigB (T.getD i 0))))))) (st' := [.int (iI (b2 (isDigB (T.getD i 0))))]) kv_X10_advance_53 dX10_advance_140 rfl rfl (Nat.le_of_ble_eq_true rfl) (Nat.le_of_ble_eq_true rfl) rfl rfl (c_X10_isDigit (hb _ (by omega))) rfl (fun h9 e9 => ?_)
            rw [show h9 = h10 from e9]
            refine i_ifeqb dX10_advance_143 (tgt := 229) (by decide) (fun c143 => ?_) (fun c143 => ?_)
            · refine r_aload_n dX10_advance_229 0 rfl ?_
              refine r_iload_n dX10_advance_230 1 rfl ?_
              refine i_bipush (59) (by decide) dX10_advance_231 ?_
              refine i_icmpne dX10_advance_233 (tgt := 242) (by decide) (by unfold in32; omega) ⟨by decide, by decide⟩ (fun c233 => ?_) (fun c233 => ?_)
              · refine r_gets (gk_T hGK 3 (by decide)) kg_X10_66 dX10_advance_242 ?_
                refine i_put [.ref I, .int (iI ((T.length : Int))), .int (iI ((i : Int) + 1)), .ref (K.2.1 3), .int (iI ((i : Int))), .int (iI v)] cl_X10 3 (by decide) kf_X10_21 rfl dX10_advance_245 mo_10 e1_10 rfl rfl (by simp) rfl (fun h11 e0_11 e1_11 e2_11 => ?_)
                have mo_11 : o ∈ h11.1 := by rw [e0_11]; exact mo_10
                have mI_11 : I ∈ h11.1 := by rw [e0_11]; exact mI_10
                have fI_11 := (e2_11 _ nIo).trans fI_10
                refine r_return rfl dX10_advance_248 ?_
                have et : tokAt T p = (3, i, (i + 1)) := by show tokS T (endR isSepB T p) = _; rw [hS]; unfold tokS; rw [if_neg (by omega), if_neg (by rw [c90]; decide), if_neg (by rw [c143]; decide), if_neg c233]
                rw [et]
                exact ⟨rfl, ⟨_, mo_11, e1_11, (fun z => absurd (show (3 : Nat) = 1 from z) (by decide))⟩, FRp.tr hF (FRp.tr (FRp.tr (FRp.w List.mem_cons_self e0_9 e2_9) (FRp.w List.mem_cons_self e0_10 e2_10)) (FRp.w List.mem_cons_self e0_11 e2_11))⟩
              · refine r_gets (gk_T hGK 2 (by decide)) kg_X10_63 dX10_advance_236 ?_
                refine r_goto dX10_advance_239 (tgt := 245) (by decide) ?_
                refine i_put [.ref I, .int (iI ((T.length : Int))), .int (iI ((i : Int) + 1)), .ref (K.2.1 2), .int (iI ((i : Int))), .int (iI v)] cl_X10 3 (by decide) kf_X10_21 rfl dX10_advance_245 mo_10 e1_10 rfl rfl (by simp) rfl (fun h12 e0_12 e1_12 e2_12 => ?_)
                have mo_12 : o ∈ h12.1 := by rw [e0_12]; exact mo_10
                have mI_12 : I ∈ h12.1 := by rw [e0_12]; exact mI_10
                have fI_12 := (e2_12 _ nIo).trans fI_10
                refine r_return rfl dX10_advance_248 ?_
                have et : tokAt T p = (2, i, (i + 1)) := by show tokS T (endR isSepB T p) = _; rw [hS]; unfold tokS; rw [if_neg (by omega), if_neg (by rw [c90]; decide), if_neg (by rw [c143]; decide), if_pos c233]
                rw [et]
                exact ⟨rfl, ⟨_, mo_12, e1_12, (fun z => absurd (show (2 : Nat) = 1 from z) (by decide))⟩, FRp.tr hF (FRp.tr (FRp.tr (FRp.w List.mem_cons_self e0_9 e2_9) (FRp.w List.mem_cons_self e0_10 e2_10)) (FRp.w List.mem_cons_self e0_12 e2_12))⟩
            · refine r_aload_n dX10_advance_146 0 rfl ?_
              refine r_gets (gk_T hGK 1 (by decide)) kg_X10_56 dX10_advance_147 ?_
              refine i_put [.ref I, .int (iI ((T.length : Int))), .int (iI ((i : Int) + 1)), .ref (K.2.1 1), .int (iI ((i : Int))), .int (iI v)] cl_X10 3 (by decide) kf_X10_21 rfl dX10_advance_150 mo_10 e1_10 rfl rfl (by simp) rfl (fun h13 e0_13 e1_13 e2_13 => ?_)
              have mo_13 : o ∈ h13.1 := by rw [e0_13]; exact mo_10
              have mI_13 : I ∈ h13.1 := by rw [e0_13]; exact mI_10
              have fI_13 := (e2_13 _ nIo).trans fI_10
              refine r_aload_n dX10_advance_153 0 rfl ?_
              refine r_iload_n dX10_advance_154 1 rfl ?_
              refine i_bipush (48) (by decide) dX10_advance_155 ?_
              refine i_sub dX10_advance_157 ?_
              refine i_put [.ref I, .int (iI ((T.length : Int))), .int (iI ((i : Int) + 1)), .ref (K.2.1 1), .int (iI ((i : Int))), .int (iI ((T.getD i 0) - 48))] cl_X10 5 (by decide) kf_X10_59 rfl dX10_advance_158 mo_13 e1_13 rfl rfl (by simp) rfl (fun h14 e0_14 e1_14 e2_14 => ?_)
              have mo_14 : o ∈ h14.1 := by rw [e0_14]; exact mo_13
              have mI_14 : I ∈ h14.1 := by rw [e0_14]; exact mI_13
              have fI_14 := (e2_14 _ nIo).trans fI_13
              have hdg : ∀ k, k < i + 1 - i → isDigB (T.getD (i + k) 0) = true := fun k hk => by rw [show k = 0 by omega]; exact c143
              have hcd := dig_t c143
              have fz := e1_14
              rw [show T.getD i 0 - 48 = min 1000000 (valU T i (i + 1 - i)) by rw [show i + 1 - i = 1 by omega]; simp only [valU, Nat.add_zero]; omega] at fz
              exact LN i hS (by omega) c90 c143 _ (i + 1) (by omega) (by omega) rfl hdg _ fz (FRp.tr hF (FRp.tr (FRp.tr (FRp.tr (FRp.w List.mem_cons_self e0_9 e2_9) (FRp.w List.mem_cons_self e0_10 e2_10)) (FRp.w List.mem_cons_self e0_13 e2_13)) (FRp.w List.mem_cons_self e0_14 e2_14)))
          · refine r_aload_n dX10_advance_93 0 rfl ?_
            refine r_gets (gk_T hGK 0 (by decide)) kg_X10_50 dX10_advance_94 ?_
            refine i_put [.ref I, .int (iI ((T.length : Int))), .int (iI ((i : Int) + 1)), .ref (K.2.1 0), .int (iI ((i : Int))), .int (iI v)] cl_X10 3 (by decide) kf_X10_21 rfl dX10_advance_97 mo_10 e1_10 rfl rfl (by simp) rfl (fun h15 e0_15 e1_15 e2_15 => ?_)
            have mo_15 : o ∈ h15.1 := by rw [e0_15]; exact mo_10
            have mI_15 : I ∈ h15.1 := by rw [e0_15]; exact mI_10
            have fI_15 := (e2_15 _ nIo).trans fI_10
            exact LW i hS (by omega) c90 _ _ (i + 1) (by omega) rfl _ e1_15 (FRp.tr hF (FRp.tr (FRp.tr (FRp.w List.mem_cons_self e0_9 e2_9) (FRp.w List.mem_cons_self e0_10 e2_10)) (FRp.w List.mem_cons_self e0_15 e2_15)))
        · refine r_aload_n dX10_advance_58 0 rfl ?_
          refine r_gets (gk_T hGK 4 (by decide)) kg_X10_15 dX10_advance_59 ?_
          refine i_put [.ref I, .int (iI ((T.length : Int))), .int (iI ((i : Int))), .ref (K.2.1 4), .int (iI ((i : Int))), .int (iI v)] cl_X10 3 (by decide) kf_X10_21 rfl dX10_advance_62 mo_9 e1_9 rfl rfl (by simp) rfl (fun h16 e0_16 e1_16 e2_16 => ?_)
          have mo_16 : o ∈ h16.1 := by rw [e0_16]; exact mo_9
          have mI_16 : I ∈ h16.1 := by rw [e0_16]; exact mI_9
          have fI_16 := (e2_16 _ nIo).trans fI_9
          refine r_return rfl dX10_advance_65 ?_
          have et : tokAt T p = (4, i, i) := by show tokS T (endR isSepB T p) = _; rw [hS]; unfold tokS; rw [if_pos (by omega)]
          rw [et]
          exact ⟨rfl, ⟨_, mo_16, e1_16, (fun z => absurd (show (4 : Nat) = 1 from z) (by decide))⟩, FRp.tr hF (FRp.tr (FRp.w List.mem_cons_self e0_9 e2_9) (FRp.w List.mem_cons_self e0_16 e2_16))⟩
      · refine r_aload_n dX10_advance_26 0 rfl ?_
        refine r_dup dX10_advance_27 rfl ?_
        refine r_get cl_X10 2 (by decide) kf_X10_34 dX10_advance_28 mo fo rfl ?_
        refine i_const (1) dX10_advance_31 ?_
        refine i_add dX10_advance_32 ?_
        refine i_put [.ref I, .int (iI ((T.length : Int))), .int (iI ((i : Int) + 1)), .ref kk, .int (iI s), .int (iI v)] cl_X10 2 (by decide) kf_X10_34 rfl dX10_advance_33 mo fo rfl rfl (by simp) rfl (fun h17 e0_17 e1_17 e2_17 => ?_)
        have mo_17 : o ∈ h17.1 := by rw [e0_17]; exact mo
        have mI_17 : I ∈ h17.1 := by rw [e0_17]; exact mI
        have fI_17 := (e2_17 _ nIo).trans fI
        refine r_goto dX10_advance_36 (tgt := 0) (by decide) ?_
        exact ih (i + 1) (by omega) (by omega) ((endR_t (by omega) c23).symm.trans hE) _ e1_17 (FRp.tr hF (FRp.w List.mem_cons_self e0_17 e2_17))
  exact LS kk s v p hp rfl h f0 FRp.rf
set_option maxRecDepth 20000 in
set_option maxHeartbeats 1000000 in
theorem c_X10_begin {G : xG} {h : xH} {K : xK} (hGK : GK G K) {o I I0 : Nat} {T : List Int} (hI : INP G h I T) {kk : Nat} {x1 x2 : Int32} {s v : Int} (mo : o ∈ h.1) (f0 : h.2 o = .inr (6, [.ref I0, .int x1, .int x2, .ref kk, .int (iI s), .int (iI v)])) : CC G MX10_begin [.ref o, .ref I, .int (iI (T.length : Int))] h (fun o' h' => o' = .inl none ∧ TKO G h' K o I T (tokAt T 0) ∧ FRp [o] h h') := by
  have hI0 := hI
  obtain ⟨g, mI, fI, hT5, hg, hb⟩ := hI
  have nIo : I ≠ o := (ne_oi f0 fI).symm
  show RR G MX10_begin 0 [(0, .ref o), (1, .ref I), (2, .int (iI ((T.length : Int))))] [] h (xm_R MX10_begin).cells (xm_R MX10_begin).slots (fun o' h' => o' = .inl none ∧ TKO G h' K o I T (tokAt T 0) ∧ FRp [o] h h')
  refine r_aload_n dX10_begin_0 0 rfl ?_
  refine r_aload_n dX10_begin_1 1 rfl ?_
  refine i_put [.ref I, .int x1, .int x2, .ref kk, .int (iI s), .int (iI v)] cl_X10 0 (by decide) kf_X10_9 rfl dX10_begin_2 mo f0 rfl rfl (by simp) rfl (fun h1 e0_1 e1_1 e2_1 => ?_)
  have mo_1 : o ∈ h1.1 := by rw [e0_1]; exact mo
  have mI_1 : I ∈ h1.1 := by rw [e0_1]; exact mI
  have fI_1 := (e2_1 _ nIo).trans fI
  refine r_aload_n dX10_begin_5 0 rfl ?_
  refine r_iload_n dX10_begin_6 2 rfl ?_
  refine r_aload_n dX10_begin_7 1 rfl ?_
  refine r_alen (t := 0) (v := iI 500) rfl dX10_begin_8 mI_1 fI_1 (by decide) ?_
  refine i_min (kv_X10_begin_24 1 (by decide)) rfl dX10_begin_9 (by unfold in32; omega) ⟨by decide, by decide⟩ ?_
  refine i_put [.ref I, .int (iI (min (T.length : Int) 500)), .int x2, .ref kk, .int (iI s), .int (iI v)] cl_X10 1 (by decide) kf_X10_30 rfl dX10_begin_12 mo_1 e1_1 rfl rfl (by simp) rfl (fun h2 e0_2 e1_2 e2_2 => ?_)
  have mo_2 : o ∈ h2.1 := by rw [e0_2]; exact mo_1
  have mI_2 : I ∈ h2.1 := by rw [e0_2]; exact mI_1
  have fI_2 := (e2_2 _ nIo).trans fI_1
  refine r_aload_n dX10_begin_15 0 rfl ?_
  refine i_const (0) dX10_begin_16 ?_
  refine i_put [.ref I, .int (iI (min (T.length : Int) 500)), .int (iI 0), .ref kk, .int (iI s), .int (iI v)] cl_X10 2 (by decide) kf_X10_34 rfl dX10_begin_17 mo_2 e1_2 rfl rfl (by simp) rfl (fun h3 e0_3 e1_3 e2_3 => ?_)
  have mo_3 : o ∈ h3.1 := by rw [e0_3]; exact mo_2
  have mI_3 : I ∈ h3.1 := by rw [e0_3]; exact mI_2
  have fI_3 := (e2_3 _ nIo).trans fI_2
  refine r_aload_n dX10_begin_20 0 rfl ?_
  have fz := e1_3
  rw [show min (T.length : Int) 500 = (T.length : Int) by omega] at fz
  have hF9 : FRp [o] h h3 := (FRp.tr (FRp.tr (FRp.w List.mem_cons_self e0_1 e2_1) (FRp.w List.mem_cons_self e0_2 e2_2)) (FRp.w List.mem_cons_self e0_3 e2_3))
  have hI9 := hI0.fr hF9 (fun z => nIo (List.mem_singleton.mp z))
  refine p_callV (As := []) (b := o) (rest := []) (w := none) (st' := []) kv_X10_begin_37 dX10_begin_21 rfl rfl (Nat.le_of_ble_eq_true rfl) (Nat.le_of_ble_eq_true rfl) (x_rv mo_3 e1_3 rfl) rfl rfl (c_X10_advance hGK hI9 (p := 0) (s := s) (v := v) (by omega) mo_3 fz) rfl (fun h9 e9 => ?_)
  refine r_return rfl dX10_begin_24 ?_
  exact ⟨rfl, e9.1, FRp.tr hF9 e9.2⟩
