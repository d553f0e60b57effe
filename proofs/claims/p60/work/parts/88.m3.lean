/-! ===== what the law does to a bench, and what it says of it ===== -/
def ES (s : AS) : Prop := s.2.1 = (s.1.length : Int)
def EB (B : AB) : Prop := (∀ s ∈ B.2, ES s) ∧ 1 ≤ B.2.length
theorem EB.at {B : AB} (h : EB B) {z : Int} (hs : hasS B z = true) : ES (sAt B z) := h.1 _ (getD_memS (hasS_n hs).1)
theorem WB.at {B : AB} (h : WB B) {z : Int} (hs : hasS B z = true) : WS (sAt B z) := h.1 _ (getD_memS (hasS_n hs).1)
theorem set_ES {L : List AS} {i : Nat} {s : AS} (h : ∀ x ∈ L, ES x) (hs : ES s) : ∀ x ∈ L.set i s, ES x := fun x hx => by
  rcases List.mem_or_eq_of_mem_set hx with z | z
  · exact h x z
  · rw [z]; exact hs
theorem has_iff {B B' : AB} (e : B'.2.length = B.2.length) (z : Int) : hasS B' z = hasS B z := by unfold hasS; rw [e]
theorem sAt_set {B : AB} {c : Int × Int × Int × Int × Int × Int} {z : Int} {s : AS} (hs : hasS B z = true) : sAt (c, B.2.set z.toNat s) z = s := by
  have := (hasS_n hs).1
  unfold sAt
  simp [this]
theorem ES.fold {s : AS} {q : Int} (h : ES s) (h1 : 1 ≤ s.1.length) (hq : 2 ≤ q ∧ q ≤ 4) : ES (foldS s q.toNat) := by
  obtain ⟨f1, f2, -⟩ := fold_len h1 hq
  show s.2.1 * ((q.toNat : Nat) : Int) - (foldP s.1 (!s.2.2.2.2.1) q.toNat).2 = ((foldS s q.toNat).1.length : Int)
  rw [f1, f2, h, show ((q.toNat : Nat) : Int) = q by omega]
  rfl
theorem ES.roll {s : AS} {f m : Int} (h : ES s) (hW : WS s) (hf : 2 ≤ f ∧ f ≤ 4) (hm : 0 ≤ m ∧ m ≤ 40) : ES (rollS s f m) := by
  obtain ⟨-, -, -, -, r5⟩ := roll_all hW hf hm
  show s.2.1 - ((rollR f (loss s m) s.1 s.1.length).2.1 + (rollR f (loss s m) s.1 s.1.length).2.2.1) = _
  rw [r5, h]
theorem ES.carry {s s' : AS} (h : ES s) (h' : ES s') : ES (carryS s s') := by
  have hp := putA_len s.1 s'.1 (!s.2.2.2.2.1)
  show s.2.1 + (s'.2.1 - (putA s.1 s'.1 (!s.2.2.2.2.1)).2) = (((putA s.1 s'.1 (!s.2.2.2.2.1)).1.length : Nat) : Int)
  rw [h, h']; omega
theorem putN_len2 (l : List Int) (x : Int) (m : Bool) : ((putN l x m).1.length : Int) = l.length + (if (putN l x m).2 then 0 else 1) := by
  unfold putN
  split
  · simp
  · simp
theorem ES.but {s : AS} {T : Int} (h : ES s) : ES (butS s T) := by
  show s.2.1 + (if (putN s.1 (-T) (!s.2.2.2.2.1)).2 then 0 else 1) = (((putN s.1 (-T) (!s.2.2.2.2.1)).1.length : Nat) : Int)
  rw [putN_len2, h]
theorem EB.cmd {k : Nat} {B : AB} {a b : Int} (hk : k < 9) (hW : WB B) (hE : EB B) (h : rCmd k B a b = 0) : EB (aCmd k B a b) := by
  have hm : 0 ≤ B.1.2.1 ∧ B.1.2.1 ≤ 40 := ⟨by have := hW.2.2.1; omega, by have := hW.2.2.1; omega⟩
  rcases (show k = 0 ∨ k = 1 ∨ k = 2 ∨ k = 3 ∨ k = 4 ∨ k = 5 ∨ k = 6 ∨ k = 7 ∨ k = 8 by omega) with rfl | rfl | rfl | rfl | rfl | rfl | rfl | rfl | rfl
  · obtain ⟨hs, hf, ho⟩ := rF0 h
    exact ⟨set_ES hE.1 ((hE.at hs).fold (hW.at hs).1 (fac_t hf)), by show 1 ≤ (B.2.set _ _).length; rw [List.length_set]; exact hE.2⟩
  · obtain ⟨hs, hf, ho⟩ := rR0 h
    exact ⟨set_ES hE.1 ((hE.at hs).roll (hW.at hs) (fac_t hf) hm), by show 1 ≤ (B.2.set _ _).length; rw [List.length_set]; exact hE.2⟩
  · obtain ⟨hs, -⟩ := rD0 h
    exact ⟨set_ES hE.1 (hE.at hs), by show 1 ≤ (B.2.set _ _).length; rw [List.length_set]; exact hE.2⟩
  · have hs := rSe0 h
    exact ⟨set_ES hE.1 (hE.at hs), by show 1 ≤ (B.2.set _ _).length; rw [List.length_set]; exact hE.2⟩
  · have hs := rCo0 h
    exact ⟨set_ES hE.1 (hE.at hs), by show 1 ≤ (B.2.set _ _).length; rw [List.length_set]; exact hE.2⟩
  · have hs := rTa0 h
    exact ⟨set_ES hE.1 (hE.at hs), by show 1 ≤ (B.2.set _ _).length; rw [List.length_set]; exact hE.2⟩
  · refine ⟨fun x hx => ?_, by show 1 ≤ (B.2.map _).length; rw [List.length_map]; exact hE.2⟩
    obtain ⟨y, hy, rfl⟩ := List.mem_map.mp hx
    exact hE.1 y hy
  · obtain ⟨hs, -⟩ := rCu0 h
    refine ⟨fun x hx => ?_, by show 1 ≤ (B.2.set _ _ ++ [_]).length; rw [List.length_append, List.length_set]; have := hE.2; omega⟩
    rcases List.mem_append.mp hx with z | z
    · exact set_ES (s := seS (sAt B a) false) hE.1 (hE.at hs) x z
    · rw [List.mem_singleton.mp z]; exact hE.at hs
  · obtain ⟨hs, hs', hne, -⟩ := rSt0 h
    have h1 := hasS_t hs
    have h2 := hasS_t hs'
    refine ⟨fun x hx => ?_, ?_⟩
    · have hx2 : x ∈ B.2.set a.toNat (carryS (B.2.getD a.toNat dS) (B.2.getD b.toNat dS)) := List.eraseIdx_subset hx
      exact set_ES hE.1 ((hE.at hs).carry (hE.at hs')) x hx2
    · show 1 ≤ ((B.2.set _ _).eraseIdx _).length
      rw [List.length_eraseIdx, List.length_set]
      split <;> omega
theorem EB.but {B : AB} {a T : Int} (hE : EB B) (h : rBut B a T = 0) : EB (aBut B a.toNat T) := by
  obtain ⟨hs, -⟩ := rBu0 h
  exact ⟨set_ES hE.1 (hE.at hs).but, by show 1 ≤ (B.2.set _ _).length; rw [List.length_set]; exact hE.2⟩
theorem EB.flo {B : AB} {n : Int} (hE : EB B) : EB (aFlour B n) := hE
/-! what is told before a change, and what is so behind it -/
theorem L_fold {B : AB} {k p : Int} (hW : WB B) (hs : hasS B k = true) (hp : 2 ≤ p ∧ p ≤ 4) (ho : obst (sAt B k) p = 0) :
    hasS (aCmd 0 B k p) k = true ∧ vCmd 0 B k p = lafS (sAt B k) p ∧ hgt (sAt (aCmd 0 B k p) k).1 = p * hgt (sAt B k).1 ∧ (sAt (aCmd 0 B k p) k).2.2.2.1 = (sAt B k).2.2.2.1 + iI 1 ∧ (sAt (aCmd 0 B k p) k).2.2.2.2.1 = false ∧ fps (sAt (aCmd 0 B k p) k) p = fps (sAt B k) p - 1 ∧ (p % 2 ≠ 1 ∨ symL (sAt B k).1 = true → symL (sAt (aCmd 0 B k p) k).1 = true) := by
  have e : sAt (aCmd 0 B k p) k = foldS (sAt B k) p.toNat := sAt_set hs
  have hS := hW.at hs
  obtain ⟨f1, -, f3⟩ := fold_len hS.1 hp
  have hl : (sAt B k).1 ≠ [] := fun z => by have := hS.1; rw [z] at this; simp at this
  refine ⟨by rw [has_iff (List.length_set)]; exact hs, ?_, ?_, ?_, ?_, ?_, ?_⟩
  · show ((foldS (sAt B k) p.toNat).1.length : Int) = _
    rw [f1]; unfold lafS; rw [if_pos ho]
  · rw [e, f3]
  · rw [e]; rfl
  · rw [e]; rfl
  · rw [e]; exact fps_s hS.1 hS.2.1 hp ho
  · intro z
    rw [e]
    show symL (foldP (sAt B k).1 (!(sAt B k).2.2.2.2.1) p.toNat).1 = true
    have : p = 2 ∨ p = 3 ∨ p = 4 := by omega
    rcases this with rfl | rfl | rfl
    · exact fold_sym2 _ _
    · rcases z with z | z
      · exact absurd (by decide) z
      · exact fold_sym3 hl _ z
    · exact fold_sym4 hl _
theorem L_roll {B : AB} {k p : Int} (hW : WB B) (hs : hasS B k = true) (hp : 2 ≤ p ∧ p ≤ 4) :
    hasS (aCmd 1 B k p) k = true ∧ vCmd 1 B k p = ((sAt (aCmd 1 B k p) k).1.length : Int) ∧ ((sAt (aCmd 1 B k p) k).1.length : Int) ≤ (sAt B k).1.length - sumF (brF p (loss (sAt B k) B.1.2.1)) (sAt B k).1 ∧ hgt (sAt (aCmd 1 B k p) k).1 = sumF (rt p (loss (sAt B k) B.1.2.1)) (sAt B k).1
    ∧ (aCmd 1 B k p).1.2.2.2.2.1 = B.1.2.2.2.2.1 + sumF (escF (loss (sAt B k) B.1.2.1)) (sAt B k).1 ∧ (aCmd 1 B k p).1.2.2.2.2.2 = B.1.2.2.2.2.2 + sumF (brF p (loss (sAt B k) B.1.2.1)) (sAt B k).1 ∧ (sAt (aCmd 1 B k p) k).2.2.2.2.2.1 = false ∧ nBut (sAt (aCmd 1 B k p) k).1 ≤ nBut (sAt B k).1 - sumF (brF p (loss (sAt B k) B.1.2.1)) (sAt B k).1 := by
  have e : sAt (aCmd 1 B k p) k = rollS (sAt B k) p B.1.2.1 := sAt_set hs
  have hm : 0 ≤ B.1.2.1 ∧ B.1.2.1 ≤ 40 := ⟨by have := hW.2.2.1; omega, by have := hW.2.2.1; omega⟩
  obtain ⟨r1, r2, r3, r4, -⟩ := roll_all (hW.at hs) hp hm
  refine ⟨by rw [has_iff (List.length_set)]; exact hs, by rw [e]; rfl, by rw [e]; exact r3, by rw [e]; exact r1, rfl, ?_, by rw [e]; rfl, by rw [e]; exact r4⟩
  show B.1.2.2.2.2.2 + (rollR p (loss (sAt B k) B.1.2.1) (sAt B k).1 (sAt B k).1.length).2.1 = _
  rw [r2]
theorem L_dust {B : AB} {k : Int} (hs : hasS B k = true) : hasS (aCmd 2 B k 0) k = true ∧ vCmd 2 B k 0 = B.1.2.2.1 - 1 ∧ (sAt (aCmd 2 B k 0) k).2.2.2.2.1 = true := by
  have e : sAt (aCmd 2 B k 0) k = duS (sAt B k) := sAt_set hs
  exact ⟨by rw [has_iff (List.length_set)]; exact hs, rfl, by rw [e]; rfl⟩
theorem cnt_pos {f : AS → Bool} {L : List AS} {i : Nat} (hi : i < L.length) (h : f (L.getD i dS) = true) : 0 < cnt f L := by
  have hm : L.getD i dS ∈ L.filter f := List.mem_filter.mpr ⟨getD_memS hi, h⟩
  have : 0 < (L.filter f).length := List.length_pos_of_mem hm
  unfold cnt; omega
theorem L_seal {B : AB} {k : Int} (hs : hasS B k = true) : hasS (aCmd 3 B k 0) k = true ∧ 0 < vCmd 3 B k 0 ∧ (sAt (aCmd 3 B k 0) k).2.2.2.2.2.1 = true ∧ sumF (escF (loss (sAt (aCmd 3 B k 0) k) (aCmd 3 B k 0).1.2.1)) (sAt (aCmd 3 B k 0) k).1 = 0 := by
  have e : sAt (aCmd 3 B k 0) k = seS (sAt B k) true := sAt_set hs
  refine ⟨by rw [has_iff (List.length_set)]; exact hs, ?_, by rw [e]; rfl, ?_⟩
  · show 0 < cnt isSe (B.2.set k.toNat (seS (B.2.getD k.toNat dS) true))
    have hi := (hasS_n hs).1
    exact cnt_pos (i := k.toNat) (by rw [List.length_set]; exact hi) (by simp [hi]; rfl)
  · rw [e]
    have : loss (seS (sAt B k) true) (aCmd 3 B k 0).1.2.1 = 0 := rfl
    rw [this]; exact esc_0 _
theorem L_take {B : AB} {k : Int} (hs : hasS B k = true) : hasS (aCmd 5 B k 0) k = true ∧ vCmd 5 B k 0 = (sAt (aCmd 5 B k 0) k).2.2.1 ∧ (sAt (aCmd 5 B k 0) k).2.2.2.2.2.2 = false := by
  have e : sAt (aCmd 5 B k 0) k = coS (sAt B k) false := sAt_set hs
  exact ⟨by rw [has_iff (List.length_set)]; exact hs, by rw [e]; rfl, by rw [e]; rfl⟩
theorem L_cool {B : AB} {k : Int} (hs : hasS B k = true) (hc : (sAt B k).2.2.2.2.2.2 = false) : hasS (aCmd 4 B k 0) k = true ∧ vCmd 4 B k 0 = cnt isC B.2 + 1 ∧ obst (sAt (aCmd 4 B k 0) k) 2 = 1 := by
  have e : sAt (aCmd 4 B k 0) k = coS (sAt B k) true := sAt_set hs
  refine ⟨by rw [has_iff (List.length_set)]; exact hs, ?_, by rw [e]; rfl⟩
  have := cnt_set isC (coS (B.2.getD k.toNat dS) true) B.2 k.toNat (hasS_n hs).1
  have e1 : isC (B.2.getD k.toNat dS) = false := hc
  have e2 : isC (coS (B.2.getD k.toNat dS) true) = true := rfl
  rw [e1, e2] at this
  rw [if_neg (by simp), if_pos rfl] at this
  show cnt isC (B.2.set k.toNat (coS (B.2.getD k.toNat dS) true)) = _
  omega
theorem L_hours {B : AB} {k n : Int} (hW : WB B) (hs : hasS B k = true) (hn : 0 ≤ n) : hasS (aCmd 6 B n 0) k = true ∧ (sAt (aCmd 6 B n 0) k).2.2.1 = warmAt (sAt B k) B.1.1 n.toNat ∧ (aCmd 6 B n 0).1.2.2.2.1 = B.1.2.2.2.1 + n ∧ (aCmd 6 B n 0).1.2.1 = B.1.2.1 ∧ ((sAt B k).2.2.2.2.2.2 = true → (warmAt (sAt B k) B.1.1 n.toNat ≤ B.1.2.1 ↔ safeH B.1.2.1 40 (sAt B k).2.2.1 ≤ n)) := by
  have hi := (hasS_n hs).1
  refine ⟨by rw [has_iff (List.length_map _)]; exact hs, ?_, ?_, rfl, ?_⟩
  · have e : (B.2.map (hrS B.1.1 n.toNat)).getD k.toNat dS = hrS B.1.1 n.toNat (sAt B k) := by
      unfold sAt
      rw [List.getD_eq_getElem?_getD, List.getElem?_map, List.getD_eq_getElem?_getD, List.getElem?_eq_getElem hi]; rfl
    show ((B.2.map (hrS B.1.1 n.toNat)).getD k.toNat dS).2.2.1 = _
    rw [e]; rfl
  · show B.1.2.2.2.1 + ((n.toNat : Nat) : Int) = _
    omega
  · intro hc
    have h1 := (hW.at hs).2.2.2
    have h2 := hW.2.2.1
    have := safe_cit (m := B.1.2.1) h2.1 40 (sAt B k).2.2.1 (by omega) n.toNat
    rw [warm_cit hc, this]
    omega
theorem L_cut {B : AB} {k : Int} (hs : hasS B k = true) : hasS (aCmd 7 B k 0) k = true ∧ hasS (aCmd 7 B k 0) (B.2.length : Int) = true ∧ vCmd 7 B k 0 = (B.2.length : Int) ∧ sAt (aCmd 7 B k 0) k = seS (sAt B k) false ∧ sAt (aCmd 7 B k 0) (B.2.length : Int) = seS (sAt B k) false := by
  have hi := hasS_n hs
  have hl : (aCmd 7 B k 0).2.length = B.2.length + 1 := by show (B.2.set _ _ ++ [_]).length = _; rw [List.length_append, List.length_set]; rfl
  refine ⟨?_, ?_, rfl, ?_, ?_⟩
  · have := hasS_t hs
    unfold hasS; rw [hl]; simp; omega
  · unfold hasS; rw [hl]; simp; omega
  · show ((B.2.set k.toNat (seS (B.2.getD k.toNat dS) false) ++ [seS (B.2.getD k.toNat dS) false]).getD k.toNat dS) = _
    rw [List.getD_eq_getElem?_getD, List.getElem?_append_left (by rw [List.length_set]; exact hi.1), List.getElem?_set_self hi.1]; rfl
  · show ((B.2.set k.toNat (seS (B.2.getD k.toNat dS) false) ++ [seS (B.2.getD k.toNat dS) false]).getD ((B.2.length : Int)).toNat dS) = _
    rw [Int.toNat_natCast, List.getD_eq_getElem?_getD, List.getElem?_append_right (by rw [List.length_set]; exact Nat.le_refl _)]
    simp; rfl
/-- where the lower sheet is behind a stacking -/
def nowK (k i : Int) : Int := if i < k then k - 1 else k
theorem L_stack {B : AB} {k i : Int} (hW : WB B) (hs : hasS B k = true) (hs' : hasS B i = true) (hne : k ≠ i) (h0 : rStackS (sAt B k) (sAt B i) = 0) :
    hasS (aCmd 8 B k i) (nowK k i) = true ∧ ((aCmd 8 B k i).2.length : Int) = B.2.length - 1 ∧ vCmd 8 B k i = ((sAt B k).1.length : Int) + (sAt B i).1.length - (if jW (sAt B k) (sAt B i) then 1 else 0) ∧ hgt (sAt (aCmd 8 B k i) (nowK k i)).1 = hgt (sAt B k).1 + hgt (sAt B i).1 ∧ ((sAt (aCmd 8 B k i) (nowK k i)).1.length : Int) = vCmd 8 B k i := by
  have hk := hasS_t hs
  have hi := hasS_t hs'
  have hkn := hasS_n hs
  have hin := hasS_n hs'
  have hl : (aCmd 8 B k i).2.length = B.2.length - 1 := by
    show ((B.2.set _ _).eraseIdx _).length = _
    rw [List.length_eraseIdx, List.length_set, if_pos hin.1]
  have e : sAt (aCmd 8 B k i) (nowK k i) = carryS (sAt B k) (sAt B i) := by
    show ((B.2.set k.toNat (carryS (B.2.getD k.toNat dS) (B.2.getD i.toNat dS))).eraseIdx i.toNat).getD (nowK k i).toNat dS = _
    rw [List.getD_eq_getElem?_getD, List.getElem?_eraseIdx]
    unfold nowK
    by_cases c : i < k
    · rw [if_pos c, if_neg (by omega), show (k - 1).toNat + 1 = k.toNat by omega]
      rw [List.getElem?_set_self hkn.1]; rfl
    · rw [if_neg c, if_pos (by omega)]
      rw [List.getElem?_set_self hkn.1]; rfl
  have hj := jW_j (s := sAt B k) (s' := sAt B i) (hW.at hs').1
  have hpl := putA_len (sAt B k).1 (sAt B i).1 (!(sAt B k).2.2.2.2.1)
  have hv : vCmd 8 B k i = (((putA (sAt B k).1 (sAt B i).1 (!(sAt B k).2.2.2.2.1)).1.length : Nat) : Int) := rfl
  refine ⟨?_, by omega, ?_, ?_, ?_⟩
  · unfold hasS nowK; rw [hl]; split <;> simp <;> omega
  · rw [hv]; omega
  · rw [e]; exact putA_hgt _ _ _
  · rw [e]; rfl
theorem L_but {B : AB} {k T : Int} (hW : WB B) (hs : hasS B k = true) (hT : 1 ≤ T) : hasS (aBut B k.toNat T) k = true ∧ ((sAt (aBut B k.toNat T) k).1.length : Int) = ((butS (B.2.getD k.toNat dS) T).1.length : Int) ∧ ((sAt (aBut B k.toNat T) k).1.length : Int) = (sAt B k).1.length + (if (!(sAt B k).2.2.2.2.1 && isB ((sAt B k).1.getD ((sAt B k).1.length - 1) 0)) = true then 0 else 1) ∧ hgt (sAt (aBut B k.toNat T) k).1 = hgt (sAt B k).1 + T ∧ isB ((sAt (aBut B k.toNat T) k).1.getD ((sAt (aBut B k.toNat T) k).1.length - 1) 0) = true ∧ 1 ≤ (sAt (aBut B k.toNat T) k).1.length := by
  have e : sAt (aBut B k.toNat T) k = butS (sAt B k) T := sAt_set hs
  have h1 := (hW.at hs).1
  have hb : isB (-T) = true := by unfold isB; exact decide_eq_true (by omega)
  have hz : sz (-T) = T := by unfold sz; split <;> omega
  have hl := putN_len2 (sAt B k).1 (-T) (!(sAt B k).2.2.2.2.1)
  have hj : (putN (sAt B k).1 (-T) (!(sAt B k).2.2.2.2.1)).2 = (!(sAt B k).2.2.2.2.1 && isB (lastL (sAt B k).1)) := by
    unfold putN joinsL
    rw [hb, decide_eq_true (by omega : 0 < (sAt B k).1.length)]
    cases (!(sAt B k).2.2.2.2.1) <;> cases isB (lastL (sAt B k).1) <;> rfl
  refine ⟨by rw [has_iff (List.length_set)]; exact hs, by rw [e]; rfl, ?_, ?_, ?_, ?_⟩
  · rw [e]
    show (((putN (sAt B k).1 (-T) (!(sAt B k).2.2.2.2.1)).1.length : Nat) : Int) = _
    rw [hl, hj]; rfl
  · rw [e]
    show hgt (putN _ _ _).1 = _
    rw [putN_hgt, hz]
  · rw [e]
    show isB (lastL (putN (sAt B k).1 (-T) (!(sAt B k).2.2.2.2.1)).1) = true
    unfold putN
    split
    · rename_i z
      obtain ⟨z0, z1⟩ := joins_t (Bool.and_eq_true_iff.mp z).2
      show isB (lastL ((sAt B k).1.set ((sAt B k).1.length - 1) (lastL (sAt B k).1 + -T))) = true
      rw [set_last z0, last_one, isB_add z1, z1, hb]
    · show isB (lastL ((sAt B k).1 ++ [-T])) = true
      rw [last_one, hb]
  · rw [e]
    have := putN_len (sAt B k).1 (-T) (!(sAt B k).2.2.2.2.1)
    show 1 ≤ (putN (sAt B k).1 (-T) (!(sAt B k).2.2.2.2.1)).1.length
    omega
/-! the law's numbers out of a word of the script -/
def msk (x : Int32) : Int := (x &&& iI 2147483647).toInt
theorem msk_b (x : Int32) : 0 ≤ msk x ∧ msk x ≤ 2147483647 := by
  have e : msk x = (((x &&& iI 2147483647).toBitVec.toNat : Nat) : Int) := by
    unfold msk
    rw [← Int32.toInt_toBitVec, BitVec.toInt_eq_toNat_of_lt]
    rw [Int32.toBitVec_and, BitVec.toNat_and]
    have : x.toBitVec.toNat &&& (iI 2147483647).toBitVec.toNat ≤ 2147483647 := Nat.le_trans Nat.and_le_right (by decide)
    omega
  rw [e, Int32.toBitVec_and, BitVec.toNat_and]
  have : x.toBitVec.toNat &&& (iI 2147483647).toBitVec.toNat ≤ 2147483647 := Nat.le_trans Nat.and_le_right (by decide)
  omega
def mst (x : Int32) (m : Int) : Int := msk x % m
theorem mst_b (x : Int32) {m : Int} (h : 0 < m) : 0 ≤ mst x m ∧ mst x m < m := ⟨Int.emod_nonneg _ (by omega), Int.emod_lt_of_pos _ h⟩
def aU (v : Int32) : Int32 := v >>> (iI 4 &&& 31)
def aK (B : AB) (v : Int32) : Int := mst (aU v) (B.2.length : Int)
def aP (v : Int32) : Int := 2 + mst (aU v >>> (iI 2 &&& 31)) 3
def aQ (B : AB) (v : Int32) : Int := (aK B v + 1 + mst (aU v >>> (iI 3 &&& 31)) ((B.2.length : Int) - 1)) % (B.2.length : Int)
def aT (v : Int32) : Int := 1 + mst (aU v >>> (iI 2 &&& 31)) 40
/-- which change a word makes; none: it only asks -/
def actR (B : AB) (v : Int32) : Option AB :=
  if mst v 24 < 5 ∧ ((sAt B (aK B v)).1.length : Int) < 60 then (if 0 < obst (sAt B (aK B v)) (aP v) then none else some (aCmd 0 B (aK B v) (aP v)))
  else if mst v 24 < 10 then (if (sAt B (aK B v)).2.2.2.2.2.2 = true ∨ sumF (rt (aP v) (loss (sAt B (aK B v)) B.1.2.1)) (sAt B (aK B v)).1 = 0 then none else some (aCmd 1 B (aK B v) (aP v)))
  else if mst v 24 = 10 then (if (sAt B (aK B v)).2.2.2.2.2.2 = true ∨ (sAt B (aK B v)).2.2.2.2.1 = true ∨ B.1.2.2.1 = 0 then none else some (aCmd 2 B (aK B v) 0))
  else if mst v 24 = 11 then (if (sAt B (aK B v)).2.2.2.2.2.2 = true ∨ (sAt B (aK B v)).2.2.2.2.2.1 = true then none else some (aCmd 3 B (aK B v) 0))
  else if mst v 24 < 14 then (if (sAt B (aK B v)).2.2.2.2.2.2 = true then some (aCmd 5 B (aK B v) 0) else if cnt isC B.2 = 3 then none else some (aCmd 4 B (aK B v) 0))
  else if mst v 24 < 17 then some (aCmd 6 B (1 + mst (aU v) 10) 0)
  else if mst v 24 = 17 then (if (sAt B (aK B v)).2.2.2.2.2.2 = true ∨ (B.2.length : Int) = 6 then none else some (aCmd 7 B (aK B v) 0))
  else if mst v 24 < 20 ∧ 1 < (B.2.length : Int) then (if (sAt B (aK B v)).2.2.2.2.2.2 = true ∨ (sAt B (aQ B v)).2.2.2.2.2.2 = true ∨ 4000 < hgt (sAt B (aK B v)).1 + hgt (sAt B (aQ B v)).1 ∨ 200 < ((sAt B (aK B v)).1.length : Int) + ((sAt B (aQ B v)).1.length : Int) then none else some (aCmd 8 B (aK B v) (aQ B v)))
  else if mst v 24 < 23 then (if (sAt B (aK B v)).2.2.2.2.2.2 = true ∨ ((sAt B (aK B v)).1.length : Int) = 200 ∨ 4000 < hgt (sAt B (aK B v)).1 + aT v then none else some (aBut B (aK B v).toNat (aT v)))
  else if 900 < B.1.2.2.1 then none else some (aFlour B (1 + mst (aU v) 50))
def updS (S : XS) (r : Option AB) : XS := match r with
  | none => S
  | some B' => (S.1, S.2.1, B', S.2.2.2.1, remH S.2.2.2.2.1 S.2.2.1, S.2.2.2.2.2)
theorem aK_b {B : AB} (hE : EB B) (v : Int32) : 0 ≤ aK B v ∧ aK B v < (B.2.length : Int) ∧ hasS B (aK B v) = true := by
  have := hE.2
  have h := mst_b (aU v) (m := (B.2.length : Int)) (by omega)
  exact ⟨h.1, h.2, by unfold hasS; simp; exact h⟩
theorem aP_b (v : Int32) : 2 ≤ aP v ∧ aP v ≤ 4 := by
  have h := mst_b (aU v >>> (iI 2 &&& 31)) (m := 3) (by decide)
  unfold aP; omega
theorem aT_b (v : Int32) : 1 ≤ aT v ∧ aT v ≤ 40 := by
  have h := mst_b (aU v >>> (iI 2 &&& 31)) (m := 40) (by decide)
  unfold aT; omega
theorem aQ_b {B : AB} (hE : EB B) (h6 : (B.2.length : Int) ≤ 6) (v : Int32) (h1 : 1 < (B.2.length : Int)) : 0 ≤ aQ B v ∧ aQ B v < (B.2.length : Int) ∧ hasS B (aQ B v) = true ∧ aK B v ≠ aQ B v := by
  obtain ⟨k0, k1, -⟩ := aK_b hE v
  have h := mst_b (aU v >>> (iI 3 &&& 31)) (m := (B.2.length : Int) - 1) (by omega)
  have q0 : 0 ≤ aQ B v := Int.emod_nonneg _ (by omega)
  have q1 : aQ B v < (B.2.length : Int) := Int.emod_lt_of_pos _ (by omega)
  refine ⟨q0, q1, by unfold hasS; simp; exact ⟨q0, q1⟩, ?_⟩
  unfold aQ
  generalize aK B v = k at *
  generalize mst (aU v >>> (iI 3 &&& 31)) ((B.2.length : Int) - 1) = r at *
  generalize (B.2.length : Int) = n at *
  intro e
  rcases (show n = 2 ∨ n = 3 ∨ n = 4 ∨ n = 5 ∨ n = 6 by omega) with rfl | rfl | rfl | rfl | rfl <;> omega
