/-! ===== the numbers that the property speaks of: folding ===== -/
/-- two stacks put on each other -/
def jo (m : Bool) (A B : List Int) : List Int := (putA A B m).1
theorem jo_nr (m : Bool) (A : List Int) : jo m A [] = A := rfl
theorem jo_nl (m : Bool) (B : List Int) : jo m [] B = B := by
  cases B with
  | nil => rfl
  | cons b t => simp [jo, putA, joinsL]
theorem jo_cc (m : Bool) (A : List Int) (a b : Int) (B : List Int) : jo m (A ++ [a]) (b :: B) = if (m && (isB a == isB b)) = true then A ++ (a + b) :: B else A ++ a :: b :: B := by
  have e1 : lastL (A ++ [a]) = a := last_one A a
  have e2 : joinsL (A ++ [a]) b = (isB a == isB b) := by
    unfold joinsL
    rw [e1, decide_eq_true (by simp : 0 < (A ++ [a]).length), Bool.true_and]
  unfold jo
  rw [putA_cons, e2, e1]
  by_cases h : (m && (isB a == isB b)) = true
  · rw [if_pos h, if_pos h]
    show ((A ++ [a]).set ((A ++ [a]).length - 1) (a + b) ++ B) = _
    rw [set_last (by simp)]
    simp
  · rw [if_neg h, if_neg h]
    simp
theorem snoc (l : List Int) : l = [] ∨ ∃ (A : List Int) (a : Int), l = A ++ [a] := by
  rcases List.eq_nil_or_concat l with h | ⟨A, a, h⟩
  · exact Or.inl h
  · exact Or.inr ⟨A, a, by rw [h, List.concat_eq_append]⟩
theorem jo_rev (m : Bool) (A B : List Int) : (jo m A B).reverse = jo m B.reverse A.reverse := by
  rcases snoc A with rfl | ⟨A', a, rfl⟩
  · rw [jo_nl]; rfl
  · cases B with
    | nil => rw [jo_nr, List.reverse_nil, jo_nl]
    | cons b B' =>
      rw [show (b :: B').reverse = B'.reverse ++ [b] by simp, show (A' ++ [a]).reverse = a :: A'.reverse by simp, jo_cc, jo_cc]
      have e : (m && (isB b == isB a)) = (m && (isB a == isB b)) := by rw [Bool.beq_comm]
      rw [e]
      by_cases h : (m && (isB a == isB b)) = true
      · rw [if_pos h, if_pos h, Int.add_comm b a]; simp
      · rw [if_neg h, if_neg h]; simp
theorem jo_as {m : Bool} {A B C : List Int} (hB : B ≠ []) : jo m (jo m A B) C = jo m A (jo m B C) := by
  rcases snoc A with rfl | ⟨A', a, rfl⟩
  · rw [jo_nl, jo_nl]
  · cases C with
    | nil => rw [jo_nr, jo_nr]
    | cons c C' =>
      cases B with
      | nil => exact absurd rfl hB
      | cons b B' =>
        rcases snoc B' with rfl | ⟨B2, d, rfl⟩
        · have L1 : jo m (A' ++ [a]) [b] = if (m && (isB a == isB b)) = true then A' ++ [a + b] else A' ++ [a, b] := jo_cc m A' a b []
          have R1 : jo m [b] (c :: C') = if (m && (isB b == isB c)) = true then (b + c) :: C' else b :: c :: C' := jo_cc m [] b c C'
          rw [L1, R1]
          by_cases h1 : (m && (isB a == isB b)) = true
          · have e1 : isB a = isB b := by simpa using (Bool.and_eq_true_iff.mp h1).2
            have e2 : isB (a + b) = isB b := by rw [isB_add e1]; exact e1
            rw [if_pos h1, jo_cc m A' (a + b) c C', e2]
            by_cases h2 : (m && (isB b == isB c)) = true
            · have e3 : isB b = isB c := by simpa using (Bool.and_eq_true_iff.mp h2).2
              rw [if_pos h2, if_pos h2]
              show _ = jo m (A' ++ [a]) ((b + c) :: C')
              rw [jo_cc, isB_add e3, if_pos h1, Int.add_assoc]
            · rw [if_neg h2, if_neg h2]
              show _ = jo m (A' ++ [a]) (b :: c :: C')
              rw [jo_cc, if_pos h1]
          · rw [if_neg h1, show A' ++ [a, b] = (A' ++ [a]) ++ [b] by simp, jo_cc m (A' ++ [a]) b c C']
            by_cases h2 : (m && (isB b == isB c)) = true
            · have e3 : isB b = isB c := by simpa using (Bool.and_eq_true_iff.mp h2).2
              rw [if_pos h2, if_pos h2]
              show _ = jo m (A' ++ [a]) ((b + c) :: C')
              rw [jo_cc, isB_add e3, if_neg h1]
              simp
            · rw [if_neg h2, if_neg h2]
              show _ = jo m (A' ++ [a]) (b :: c :: C')
              rw [jo_cc, if_neg h1]
              simp
        · have L1 : jo m (A' ++ [a]) (b :: (B2 ++ [d])) = if (m && (isB a == isB b)) = true then A' ++ (a + b) :: (B2 ++ [d]) else A' ++ a :: b :: (B2 ++ [d]) := jo_cc m A' a b (B2 ++ [d])
          have R1 : jo m (b :: (B2 ++ [d])) (c :: C') = if (m && (isB d == isB c)) = true then b :: (B2 ++ (d + c) :: C') else b :: (B2 ++ d :: c :: C') := jo_cc m (b :: B2) d c C'
          rw [L1, R1]
          by_cases h1 : (m && (isB a == isB b)) = true
          · rw [if_pos h1, show A' ++ (a + b) :: (B2 ++ [d]) = (A' ++ (a + b) :: B2) ++ [d] by simp, jo_cc]
            by_cases h2 : (m && (isB d == isB c)) = true
            · rw [if_pos h2, if_pos h2]
              show _ = jo m (A' ++ [a]) (b :: (B2 ++ (d + c) :: C'))
              rw [jo_cc, if_pos h1]; simp
            · rw [if_neg h2, if_neg h2]
              show _ = jo m (A' ++ [a]) (b :: (B2 ++ d :: c :: C'))
              rw [jo_cc, if_pos h1]; simp
          · rw [if_neg h1, show A' ++ a :: b :: (B2 ++ [d]) = (A' ++ a :: b :: B2) ++ [d] by simp, jo_cc]
            by_cases h2 : (m && (isB d == isB c)) = true
            · rw [if_pos h2, if_pos h2]
              show _ = jo m (A' ++ [a]) (b :: (B2 ++ (d + c) :: C'))
              rw [jo_cc, if_neg h1]; simp
            · rw [if_neg h2, if_neg h2]
              show _ = jo m (A' ++ [a]) (b :: (B2 ++ d :: c :: C'))
              rw [jo_cc, if_neg h1]; simp
theorem fp1 (l : List Int) (m : Bool) : (foldP l m 1).1 = l := by rw [foldP_1]
theorem fp2 (l : List Int) (m : Bool) : (foldP l m 2).1 = jo m l l.reverse := by
  show (putA (foldP l m 1).1 l.reverse m).1 = _
  rw [fp1]; rfl
theorem fp3 (l : List Int) (m : Bool) : (foldP l m 3).1 = jo m (jo m l l.reverse) l := by
  show (putA (foldP l m 2).1 l m).1 = _
  rw [fp2]; rfl
theorem fp4 (l : List Int) (m : Bool) : (foldP l m 4).1 = jo m (jo m (jo m l l.reverse) l) l.reverse := by
  show (putA (foldP l m 3).1 l.reverse m).1 = _
  rw [fp3]; rfl
theorem sym_rev {l : List Int} (h : l.reverse = l) : symL l = true := by
  unfold symL
  refine decide_eq_true (fun k hk => ?_)
  have h1 := getD_rev hk
  rw [h] at h1
  exact h1
theorem rev_sym {l : List Int} (h : symL l = true) : l.reverse = l := by
  unfold symL at h
  have h := of_decide_eq_true h
  refine List.ext_getElem (by simp) (fun k h1 h2 => ?_)
  have h3 := getD_rev h2
  rw [getD_eq h1] at h3
  rw [h3, ← h k h2, getD_eq h2]
theorem fold_sym2 (l : List Int) (m : Bool) : symL (foldP l m 2).1 = true := by
  apply sym_rev
  rw [fp2, jo_rev, List.reverse_reverse]
theorem fold_sym4 {l : List Int} (hl : l ≠ []) (m : Bool) : symL (foldP l m 4).1 = true := by
  have hr : l.reverse ≠ [] := by simpa using hl
  apply sym_rev
  rw [fp4, jo_rev, jo_rev, jo_rev, List.reverse_reverse, ← jo_as (A := l) (B := l.reverse) (C := jo m l l.reverse) hr, ← jo_as (A := jo m l l.reverse) (B := l) (C := l.reverse) hl]
theorem fold_sym3 {l : List Int} (hl : l ≠ []) (m : Bool) (h : symL l = true) : symL (foldP l m 3).1 = true := by
  have e := rev_sym h
  apply sym_rev
  rw [fp3, jo_rev, jo_rev, e, e, jo_as hl]
theorem fold_len {s : AS} {q : Int} (h1 : 1 ≤ s.1.length) (hq : 2 ≤ q ∧ q ≤ 4) : ((foldS s q.toNat).1.length : Int) = folded (s.1.length : Int) q s.2.2.2.2.1 ∧ (foldP s.1 (!s.2.2.2.2.1) q.toNat).2 = (if s.2.2.2.2.1 then 0 else q - 1) ∧ hgt (foldS s q.toNat).1 = q * hgt s.1 := by
  obtain ⟨p1, p2, p3, -⟩ := foldP_ok (l := s.1) (m := !s.2.2.2.2.1) (by omega) (q.toNat - 1)
  rw [show q.toNat - 1 + 1 = q.toNat by omega] at p1 p2 p3
  rw [show (((q.toNat - 1 : Nat) : Int) + 1) = q by omega] at p1 p3
  rw [show ((q.toNat - 1 : Nat) : Int) = q - 1 by omega] at p2
  have p4 : (foldP s.1 (!s.2.2.2.2.1) q.toNat).2 = (if s.2.2.2.2.1 then 0 else q - 1) := by
    rw [p2]; cases s.2.2.2.2.1 <;> rfl
  refine ⟨?_, p4, ?_⟩
  · show ((foldP s.1 (!s.2.2.2.2.1) q.toNat).1.length : Int) = _
    rw [p4] at p1
    unfold folded
    omega
  · show hgt (foldP s.1 (!s.2.2.2.2.1) q.toNat).1 = _
    rw [p3, Int.mul_comm]
theorem fpos_fuel {q : Int} (hq : 2 ≤ q) : ∀ (n : Nat) (c g : Int), 1 ≤ g → 4000 < g + n → fpos q (n + 1) c g = fpos q n c g := by
  intro n
  induction n with
  | zero =>
    intro c g h1 h2
    show (if c ≤ 200 ∧ g ≤ 4000 then fpos q 0 (folded c q false) (g * q) + 1 else 0) = 0
    rw [if_neg (by omega)]
  | succ n ih =>
    intro c g h1 h2
    have hg : g + 1 ≤ g * q := by
      have : g * 2 ≤ g * q := Int.mul_le_mul_of_nonneg_left hq (by omega)
      omega
    have := ih (folded c q false) (g * q) (by omega) (by omega)
    rw [fpos]
    rw [show fpos q (n + 1) c g = if c ≤ 200 ∧ g ≤ 4000 then fpos q n (folded c q false) (g * q) + 1 else 0 from rfl]
    rw [this]
theorem obst0 {s : AS} {q : Int} (h : obst s q = 0) : s.2.2.2.2.2.2 = false ∧ folded (s.1.length : Int) q s.2.2.2.2.1 ≤ 200 ∧ hgt s.1 * q ≤ 4000 := by
  unfold obst at h
  split at h
  · cases h
  · split at h
    · cases h
    · split at h
      · cases h
      · exact ⟨by simpa using ‹¬ s.2.2.2.2.2.2 = true›, by omega, by omega⟩
theorem obst_0 {s : AS} {q : Int} (h : s.2.2.2.2.2.2 = false ∧ folded (s.1.length : Int) q s.2.2.2.2.1 ≤ 200 ∧ hgt s.1 * q ≤ 4000) : obst s q = 0 := by
  unfold obst
  rw [h.1, if_neg (by simp), if_neg (by omega), if_neg (by omega)]
theorem fps_s {s : AS} {q : Int} (h1 : 1 ≤ s.1.length) (hn : ∀ x ∈ s.1, x ≠ 0) (hq : 2 ≤ q ∧ q ≤ 4) (ho : obst s q = 0) : fps (foldS s q.toNat) q = fps s q - 1 := by
  obtain ⟨o1, o2, o3⟩ := obst0 ho
  obtain ⟨f1, -, f3⟩ := fold_len h1 hq
  have hg1 : 1 ≤ hgt s.1 := by have := hgt_ge s.1 hn; omega
  have hg2 : 1 ≤ hgt s.1 * q := by have := (mul_b (by omega : 0 ≤ hgt s.1) hq).1; omega
  have hg3 : 1 ≤ hgt s.1 * q * q := by have := (mul_b (by omega : 0 ≤ hgt s.1 * q) hq).1; omega
  have e1 : fps s q = fpos q 4000 (folded (folded (s.1.length : Int) q s.2.2.2.2.1) q false) (hgt s.1 * q * q) + 1 := by
    unfold fps
    rw [o1, if_neg (by simp), show (4001 : Nat) = 4000 + 1 from rfl, fpos, if_pos ⟨o2, o3⟩]
  have e2 : fps (foldS s q.toNat) q = fpos q 4001 (folded (folded (s.1.length : Int) q s.2.2.2.2.1) q false) (hgt s.1 * q * q) := by
    unfold fps
    rw [show (foldS s q.toNat).2.2.2.2.2.2 = s.2.2.2.2.2.2 from rfl, o1, if_neg (by simp), f1, f3, show (foldS s q.toNat).2.2.2.2.1 = false from rfl, Int.mul_comm q (hgt s.1)]
  rw [e1, e2, show (4001 : Nat) = 4000 + 1 from rfl, fpos_fuel hq.1 4000 _ _ hg3 (by omega)]
  omega
theorem fps_pos (s : AS) (q : Int) : 0 < fps s q ↔ obst s q = 0 := by
  have hn : ∀ (n : Nat) (c g : Int), 0 ≤ fpos q n c g := by
    intro n
    induction n with
    | zero => intro c g; exact Int.le_refl 0
    | succ n ih =>
      intro c g
      rw [fpos]
      split
      · have := ih (folded c q false) (g * q); omega
      · exact Int.le_refl 0
  constructor
  · intro h
    unfold fps at h
    cases hc : s.2.2.2.2.2.2 with
    | true => rw [hc, if_pos rfl] at h; cases h
    | false =>
      rw [hc, if_neg (by simp), show (4001 : Nat) = 4000 + 1 from rfl, fpos] at h
      split at h
      · rename_i z
        exact obst_0 ⟨hc, z.1, z.2⟩
      · cases h
  · intro h
    obtain ⟨o1, o2, o3⟩ := obst0 h
    unfold fps
    rw [o1, if_neg (by simp), show (4001 : Nat) = 4000 + 1 from rfl, fpos, if_pos ⟨o2, o3⟩]
    have := hn 4000 (folded (folded (s.1.length : Int) q s.2.2.2.2.1) q false) (hgt s.1 * q * q)
    omega
theorem fps_0 {s : AS} {q : Int} (h : obst s q ≠ 0) : fps s q = 0 := by
  unfold fps
  cases hc : s.2.2.2.2.2.2 with
  | true => rfl
  | false =>
    rw [if_neg (by simp), show (4001 : Nat) = 4000 + 1 from rfl, fpos, if_neg]
    intro z
    exact h (obst_0 ⟨hc, z.1, z.2⟩)
theorem obst_nn (s : AS) (q : Int) : 0 ≤ obst s q ∧ obst s q ≤ 3 := by unfold obst; split <;> (try split) <;> (try split) <;> omega
theorem fps_le (s : AS) (q : Int) : 0 ≤ fps s q ∧ fps s q ≤ 4001 := by
  have hn : ∀ (n : Nat) (c g : Int), 0 ≤ fpos q n c g ∧ fpos q n c g ≤ n := by
    intro n
    induction n with
    | zero => intro c g; exact ⟨Int.le_refl 0, Int.le_refl 0⟩
    | succ n ih =>
      intro c g
      rw [fpos]
      split
      · have := ih (folded c q false) (g * q); omega
      · omega
  unfold fps
  split
  · omega
  · exact hn 4001 _ _
