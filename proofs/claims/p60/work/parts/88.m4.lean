/-! ===== the law's changes are never refused, and keep what must hold ===== -/
theorem fac_i {p : Int} (h : 2 ≤ p ∧ p ≤ 4) : isFac p = true := by unfold isFac; simp; exact h
theorem R_fold {B : AB} {k p : Int} (hs : hasS B k = true) (hp : 2 ≤ p ∧ p ≤ 4) (ho : obst (sAt B k) p = 0) : rCmd 0 B k p = 0 := by
  show rFold B k p = 0
  unfold rFold
  rw [if_pos hs, if_pos (fac_i hp), if_pos ho]
theorem R_roll {B : AB} {k p : Int} (hs : hasS B k = true) (hp : 2 ≤ p ∧ p ≤ 4) (hc : (sAt B k).2.2.2.2.2.2 = false) (h0 : sumF (rt p (loss (sAt B k) B.1.2.1)) (sAt B k).1 ≠ 0) : rCmd 1 B k p = 0 := by
  show rRoll B k p = 0
  unfold rRoll rRollS
  rw [if_pos hs, if_pos (fac_i hp), hc, if_neg (by simp), if_neg h0]
theorem R_dust {B : AB} {k : Int} (hs : hasS B k = true) (hc : (sAt B k).2.2.2.2.2.2 = false) (hd : (sAt B k).2.2.2.2.1 = false) (hf : 1 ≤ B.1.2.2.1) : rCmd 2 B k 0 = 0 := by
  show rDust B k = 0
  unfold rDust rDustS
  rw [if_pos hs, hc, hd, if_neg (by simp), if_neg (by simp), if_neg (by omega)]
theorem R_seal {B : AB} {k : Int} (hs : hasS B k = true) (hc : (sAt B k).2.2.2.2.2.2 = false) (hd : (sAt B k).2.2.2.2.2.1 = false) : rCmd 3 B k 0 = 0 := by
  show rSeal B k = 0
  unfold rSeal rSealS
  rw [if_pos hs, hc, hd, if_neg (by simp), if_neg (by simp)]
theorem R_cool {B : AB} {k : Int} (hs : hasS B k = true) (hc : (sAt B k).2.2.2.2.2.2 = false) (h3 : cnt isC B.2 < 3) : rCmd 4 B k 0 = 0 := by
  show rCool B k = 0
  unfold rCool rCoolS
  rw [if_pos hs, hc, if_neg (by simp), if_neg (by omega)]
theorem R_take {B : AB} {k : Int} (hs : hasS B k = true) (hc : (sAt B k).2.2.2.2.2.2 = true) : rCmd 5 B k 0 = 0 := by
  show rTake B k = 0
  unfold rTake rTakeS
  rw [if_pos hs, hc, if_pos rfl]
theorem R_hours {B : AB} {n : Int} (h1 : 1 ≤ n ∧ n ≤ 24) (h2 : B.1.2.2.2.1 + n ≤ 9999) : rCmd 6 B n 0 = 0 := by
  show rHours B n = 0
  unfold rHours
  rw [if_neg (by omega), if_neg (by omega), if_neg (by omega)]
theorem R_cut {B : AB} {k : Int} (hs : hasS B k = true) (hc : (sAt B k).2.2.2.2.2.2 = false) (h6 : (B.2.length : Int) < 6) : rCmd 7 B k 0 = 0 := by
  show rCut B k = 0
  unfold rCut rCutS
  rw [if_pos hs, hc, if_neg (by simp), if_neg (by omega)]
theorem R_stackS {s s' : AS} (hc : s.2.2.2.2.2.2 = false) (hc' : s'.2.2.2.2.2.2 = false) (hh : hgt s.1 + hgt s'.1 ≤ 4000) (hl : (s.1.length : Int) + s'.1.length ≤ 200) : rStackS s s' = 0 := by
  unfold rStackS
  rw [hc, hc', if_neg (by simp), if_neg (by simp), if_neg (by split <;> omega), if_neg (by omega)]
theorem R_stack {B : AB} {k i : Int} (hs : hasS B k = true) (hs' : hasS B i = true) (hne : k ≠ i) (h0 : rStackS (sAt B k) (sAt B i) = 0) : rCmd 8 B k i = 0 := by
  show rStack B k i = 0
  unfold rStack
  rw [if_pos hs, if_pos hs', if_neg hne, h0]
theorem R_but {B : AB} {k T : Int} (hs : hasS B k = true) (hT : 1 ≤ T ∧ T ≤ 400) (hc : (sAt B k).2.2.2.2.2.2 = false) (hl : ((sAt B k).1.length : Int) < 200) (hh : hgt (sAt B k).1 + T ≤ 4000) : rBut B k T = 0 := by
  unfold rBut rButS
  rw [if_pos hs, if_neg (by omega), if_neg (by omega), hc, if_neg (by simp), if_neg (by omega), if_neg (by omega)]
theorem R_flo {B : AB} {n : Int} (h1 : 1 ≤ n ∧ n ≤ 50) (h2 : B.1.2.2.1 + n ≤ 999) : rFlour B n = 0 := by
  unfold rFlour
  rw [if_neg (by omega), if_neg (by omega), if_neg (by omega)]
/-- what the law keeps: the state's facts, expected layers, hours -/
def LI (S : XS) (H : Int) : Prop := IV S ∧ EB S.2.2.1 ∧ S.2.2.1.1.2.2.2.1 ≤ H ∧ (∀ s ∈ S.2.2.1.2, s.1.length ≤ 200) ∧ S.2.2.1.2.length ≤ 6
theorem LI.at {S : XS} {H : Int} (h : LI S H) {z : Int} (hs : hasS S.2.2.1 z = true) : (sAt S.2.2.1 z).1.length ≤ 200 := h.2.2.2.1 _ (getD_memS (hasS_n hs).1)
theorem hr_cmd {k : Nat} {B : AB} {a b : Int} (hk : k < 9) (h6 : k ≠ 6) : (aCmd k B a b).1.2.2.2.1 = B.1.2.2.2.1 := by
  rcases (show k = 0 ∨ k = 1 ∨ k = 2 ∨ k = 3 ∨ k = 4 ∨ k = 5 ∨ k = 7 ∨ k = 8 by omega) with rfl | rfl | rfl | rfl | rfl | rfl | rfl | rfl <;> rfl
/-- a change that is allowed keeps what must hold -/
def GOOD (B B' : AB) : Prop := WB B' ∧ cnt isC B'.2 ≤ 3 ∧ EB B' ∧ B'.1.2.2.2.1 ≤ B.1.2.2.2.1 + 10
theorem good_cmd {k : Nat} {B : AB} {a b : Int} (hk : k < 9) (h6 : k ≠ 6) (hW : WB B) (hC : cnt isC B.2 ≤ 3) (hE : EB B) (h : rCmd k B a b = 0) : GOOD B (aCmd k B a b) := ⟨hW.cmd h, CB_cmd h hC, EB.cmd hk hW hE h, by rw [hr_cmd hk h6]; omega⟩
theorem act_good {B : AB} (hW : WB B) (hC : cnt isC B.2 ≤ 3) (hE : EB B) (hH : B.1.2.2.2.1 ≤ 9900) (h6 : (B.2.length : Int) ≤ 6) (h2 : ∀ z, hasS B z = true → (sAt B z).1.length ≤ 200) (v : Int32) {B' : AB} (h : actR B v = some B') : GOOD B B' := by
  obtain ⟨k0, k1, hs⟩ := aK_b hE v
  have hp := aP_b v
  have hT := aT_b v
  have hq := aQ_b hE h6 v
  have m10 := mst_b (aU v) (m := 10) (by decide)
  have m50 := mst_b (aU v) (m := 50) (by decide)
  have hl := h2 _ hs
  have hfl := hW.2.2.2.1
  revert hq hs hl k0 k1
  generalize hK : aK B v = k at *
  generalize hP : aP v = p at *
  generalize hQ : aQ B v = q at *
  generalize hT9 : aT v = T at *
  intro k0 k1 hs hq hl
  unfold actR at h
  rw [hK, hP, hQ, hT9] at h
  by_cases c0 : mst v 24 < 5 ∧ ((sAt B k).1.length : Int) < 60
  · rw [if_pos c0] at h
    by_cases d : 0 < obst (sAt B k) p
    · rw [if_pos d] at h; cases h
    · rw [if_neg d] at h
      cases h
      have := obst_nn (sAt B k) p
      exact good_cmd (by decide) (by decide) hW hC hE (R_fold hs hp (by omega))
  rw [if_neg c0] at h
  by_cases c1 : mst v 24 < 10
  · rw [if_pos c1] at h
    by_cases d : (sAt B k).2.2.2.2.2.2 = true ∨ sumF (rt p (loss (sAt B k) B.1.2.1)) (sAt B k).1 = 0
    · rw [if_pos d] at h; cases h
    · rw [if_neg d] at h
      cases h
      obtain ⟨d1, d2⟩ := not_or.mp d
      exact good_cmd (by decide) (by decide) hW hC hE (R_roll hs hp (Bool.eq_false_iff.mpr d1) d2)
  rw [if_neg c1] at h
  by_cases c2 : mst v 24 = 10
  · rw [if_pos c2] at h
    by_cases d : (sAt B k).2.2.2.2.2.2 = true ∨ (sAt B k).2.2.2.2.1 = true ∨ B.1.2.2.1 = 0
    · rw [if_pos d] at h; cases h
    · rw [if_neg d] at h
      cases h
      obtain ⟨d1, d2⟩ := not_or.mp d
      obtain ⟨d2, d3⟩ := not_or.mp d2
      exact good_cmd (by decide) (by decide) hW hC hE (R_dust hs (Bool.eq_false_iff.mpr d1) (Bool.eq_false_iff.mpr d2) (by omega))
  rw [if_neg c2] at h
  by_cases c3 : mst v 24 = 11
  · rw [if_pos c3] at h
    by_cases d : (sAt B k).2.2.2.2.2.2 = true ∨ (sAt B k).2.2.2.2.2.1 = true
    · rw [if_pos d] at h; cases h
    · rw [if_neg d] at h
      cases h
      obtain ⟨d1, d2⟩ := not_or.mp d
      exact good_cmd (by decide) (by decide) hW hC hE (R_seal hs (Bool.eq_false_iff.mpr d1) (Bool.eq_false_iff.mpr d2))
  rw [if_neg c3] at h
  by_cases c4 : mst v 24 < 14
  · rw [if_pos c4] at h
    by_cases d : (sAt B k).2.2.2.2.2.2 = true
    · rw [if_pos d] at h
      cases h
      exact good_cmd (by decide) (by decide) hW hC hE (R_take hs d)
    · rw [if_neg d] at h
      by_cases d2 : cnt isC B.2 = 3
      · rw [if_pos d2] at h; cases h
      · rw [if_neg d2] at h
        cases h
        exact good_cmd (by decide) (by decide) hW hC hE (R_cool hs (Bool.eq_false_iff.mpr d) (by omega))
  rw [if_neg c4] at h
  by_cases c5 : mst v 24 < 17
  · rw [if_pos c5] at h
    cases h
    have hr := R_hours (B := B) (n := 1 + mst (aU v) 10) (by omega) (by omega)
    refine ⟨hW.cmd hr, CB_cmd hr hC, EB.cmd (by decide) hW hE hr, ?_⟩
    show B.1.2.2.2.1 + (((1 + mst (aU v) 10).toNat : Nat) : Int) ≤ _
    omega
  rw [if_neg c5] at h
  by_cases c6 : mst v 24 = 17
  · rw [if_pos c6] at h
    by_cases d : (sAt B k).2.2.2.2.2.2 = true ∨ (B.2.length : Int) = 6
    · rw [if_pos d] at h; cases h
    · rw [if_neg d] at h
      cases h
      obtain ⟨d1, d2⟩ := not_or.mp d
      exact good_cmd (by decide) (by decide) hW hC hE (R_cut hs (Bool.eq_false_iff.mpr d1) (by omega))
  rw [if_neg c6] at h
  by_cases c7 : mst v 24 < 20 ∧ 1 < (B.2.length : Int)
  · rw [if_pos c7] at h
    obtain ⟨q0, q1, hs2, hne⟩ := hq c7.2
    by_cases d : (sAt B k).2.2.2.2.2.2 = true ∨ (sAt B q).2.2.2.2.2.2 = true ∨ 4000 < hgt (sAt B k).1 + hgt (sAt B q).1 ∨ 200 < ((sAt B k).1.length : Int) + ((sAt B q).1.length : Int)
    · rw [if_pos d] at h; cases h
    · rw [if_neg d] at h
      cases h
      obtain ⟨d1, d2⟩ := not_or.mp d
      obtain ⟨d2, d3⟩ := not_or.mp d2
      exact good_cmd (by decide) (by decide) hW hC hE (R_stack hs hs2 hne (R_stackS (Bool.eq_false_iff.mpr d1) (Bool.eq_false_iff.mpr d2) (by omega) (by omega)))
  rw [if_neg c7] at h
  by_cases c8 : mst v 24 < 23
  · rw [if_pos c8] at h
    by_cases d : (sAt B k).2.2.2.2.2.2 = true ∨ ((sAt B k).1.length : Int) = 200 ∨ 4000 < hgt (sAt B k).1 + T
    · rw [if_pos d] at h; cases h
    · rw [if_neg d] at h
      cases h
      obtain ⟨d1, d2⟩ := not_or.mp d
      have hr := R_but hs (T := T) (by omega) (Bool.eq_false_iff.mpr d1) (by omega) (by omega)
      exact ⟨hW.but hr, CB_but hr hC, hE.but hr, by show B.1.2.2.2.1 ≤ _; omega⟩
  rw [if_neg c8] at h
  by_cases c9 : 900 < B.1.2.2.1
  · rw [if_pos c9] at h; cases h
  · rw [if_neg c9] at h
    cases h
    have hr := R_flo (B := B) (n := 1 + mst (aU v) 50) (by omega) (by omega)
    exact ⟨hW.flo hr, hC, hE.flo, by show B.1.2.2.2.1 ≤ _; omega⟩
