/-! ===== layers put on one by one, and together ===== -/
def putA (acc xs : List Int) (m : Bool) : List Int × Int :=
  match xs with
  | [] => (acc, 0)
  | x :: r => if m && joinsL acc x then (acc.set (acc.length - 1) (lastL acc + x) ++ r, 1) else (acc ++ x :: r, 0)
theorem putA_cons (acc : List Int) (x : Int) (r : List Int) (m : Bool) : putA acc (x :: r) m = if m && joinsL acc x then (acc.set (acc.length - 1) (lastL acc + x) ++ r, 1) else (acc ++ x :: r, 0) := rfl
theorem putA_nil (acc : List Int) (m : Bool) : putA acc [] m = (acc, 0) := rfl
theorem putA_false (acc xs : List Int) : putA acc xs false = (acc ++ xs, 0) := by
  cases xs with
  | nil => simp [putA]
  | cons x r => simp [putA]
theorem putN_app (acc : List Int) (x : Int) : putN acc x false = (acc ++ [x], false) := by simp [putN]
theorem putA_s {acc xs : List Int} {m : Bool} {k : Nat} (hk : k < xs.length) :
    putA acc (xs.take (k + 1)) m = ((putN (putA acc (xs.take k) m).1 (xs.getD k 0) (m && decide (k = 0))).1, (putA acc (xs.take k) m).2 + b2 (putN (putA acc (xs.take k) m).1 (xs.getD k 0) (m && decide (k = 0))).2) := by
  cases xs with
  | nil => simp at hk
  | cons x r =>
    cases k with
    | zero =>
      simp only [List.take_succ_cons, List.take_zero, putA_nil, List.getD_cons_zero, decide_true, Bool.and_true, putA, putN]
      split
      · simp [b2]
      · simp [b2]
    | succ k =>
      have hk' : k < r.length := by simpa using hk
      have e : decide (k + 1 = 0) = false := by simp
      rw [e, Bool.and_false, putN_app]
      simp only [List.take_succ_cons, List.getD_cons_succ, putA]
      rw [take_s hk']
      split
      · simp [b2]
      · simp [b2]
theorem putA_len (acc xs : List Int) (m : Bool) : ((putA acc xs m).1.length : Int) + (putA acc xs m).2 = acc.length + xs.length := by
  cases xs with
  | nil => simp [putA]
  | cons x r =>
    rw [putA_cons]
    split
    · simp; omega
    · simp
theorem putA_j (acc xs : List Int) (m : Bool) : 0 ≤ (putA acc xs m).2 ∧ (putA acc xs m).2 ≤ 1 := by
  cases xs with
  | nil => simp [putA]
  | cons x r =>
    rw [putA_cons]
    split <;> simp
theorem hgt_cons (x : Int) (l : List Int) : hgt (x :: l) = sz x + hgt l := by simp [hgt]
theorem last_split {l : List Int} (h : 0 < l.length) : l = l.take (l.length - 1) ++ [lastL l] := by
  have h1 := take_s (l := l) (i := l.length - 1) (by omega)
  rw [show l.length - 1 + 1 = l.length by omega, take_all] at h1
  exact h1
theorem set_last {l : List Int} (h : 0 < l.length) (y : Int) : l.set (l.length - 1) y = l.take (l.length - 1) ++ [y] := by
  rw [List.set_eq_take_append_cons_drop, if_pos (by omega), show l.length - 1 + 1 = l.length by omega, List.drop_length]
theorem putA_hgt (acc xs : List Int) (m : Bool) : hgt (putA acc xs m).1 = hgt acc + hgt xs := by
  cases xs with
  | nil => simp [putA, hgt]
  | cons x r =>
    rw [putA_cons]
    split
    · rename_i h
      rw [Bool.and_eq_true] at h
      obtain ⟨h0, hj⟩ := joins_t h.2
      have e1 := last_split h0
      have e2 : hgt acc = hgt (acc.take (acc.length - 1)) + sz (lastL acc) := by
        conv => lhs; rw [e1]
        rw [hgt_app, hgt_cons]; simp [hgt]
      show hgt (acc.set (acc.length - 1) (lastL acc + x) ++ r) = _
      rw [set_last h0, hgt_app, hgt_app, hgt_cons, hgt_cons, sz_add hj, e2]
      simp [hgt]; omega
    · show hgt (acc ++ x :: r) = _
      rw [hgt_app]
theorem mem_nz_set {l : List Int} (h : ∀ x ∈ l, x ≠ 0) {y : Int} (hy : y ≠ 0) (n : Nat) : ∀ x ∈ l.set n y, x ≠ 0 := by
  intro x hx
  rcases List.mem_or_eq_of_mem_set hx with h1 | h1
  · exact h x h1
  · rw [h1]; exact hy
theorem last_mem {l : List Int} (h : 0 < l.length) : lastL l ∈ l := getD_mem (by omega)
theorem join_nz {x y : Int} (h : isB x = isB y) (hx : x ≠ 0) (hy : y ≠ 0) : x + y ≠ 0 := by
  unfold isB at h
  by_cases a : x < 0 <;> by_cases b : y < 0 <;> simp only [a, b, decide_true, decide_false] at h
  · omega
  · cases h
  · cases h
  · omega
theorem putA_nz {acc xs : List Int} {m : Bool} (h1 : ∀ x ∈ acc, x ≠ 0) (h2 : ∀ x ∈ xs, x ≠ 0) : ∀ x ∈ (putA acc xs m).1, x ≠ 0 := by
  cases xs with
  | nil => exact h1
  | cons x r =>
    have hr : ∀ y ∈ r, y ≠ 0 := fun y hy => h2 y (List.mem_cons_of_mem _ hy)
    have hx : x ≠ 0 := h2 x List.mem_cons_self
    rw [putA_cons]
    split
    · rename_i h
      rw [Bool.and_eq_true] at h
      obtain ⟨h0, hj⟩ := joins_t h.2
      intro y hy
      rcases List.mem_append.mp hy with hy | hy
      · exact mem_nz_set h1 (join_nz hj (h1 _ (last_mem h0)) hx) _ y hy
      · exact hr y hy
    · intro y hy
      rcases List.mem_append.mp hy with hy | hy
      · exact h1 y hy
      · exact h2 y hy
theorem putA_len_ge (acc xs : List Int) (m : Bool) : acc.length ≤ (putA acc xs m).1.length := by
  cases xs with
  | nil => exact Nat.le_refl _
  | cons x r => rw [putA_cons]; split <;> simp
/-- a fold: the copies 0 .. p - 1 are put on -/
def foldP (l : List Int) (m : Bool) : Nat → List Int × Int
  | 0 => ([], 0)
  | p + 1 => ((putA (foldP l m p).1 (if p % 2 = 0 then l else l.reverse) m).1, (foldP l m p).2 + (putA (foldP l m p).1 (if p % 2 = 0 then l else l.reverse) m).2)
theorem foldP_1 (l : List Int) (m : Bool) : foldP l m 1 = (l, 0) := by
  cases l with
  | nil => simp [foldP, putA]
  | cons x r => simp [foldP, putA, joinsL]
def cpL (l : List Int) (p : Nat) : List Int := if p % 2 = 0 then l else l.reverse
theorem cpL_len (l : List Int) (p : Nat) : (cpL l p).length = l.length := by unfold cpL; split <;> simp
theorem cpL_mem {l : List Int} {p : Nat} {x : Int} : x ∈ cpL l p ↔ x ∈ l := by unfold cpL; split <;> simp
theorem hgt_rev (l : List Int) : hgt l.reverse = hgt l := by
  unfold hgt
  rw [List.map_reverse, List.sum_reverse]
theorem cpL_hgt (l : List Int) (p : Nat) : hgt (cpL l p) = hgt l := by unfold cpL; split; rfl; exact hgt_rev l
theorem foldP_s (l : List Int) (m : Bool) (p : Nat) : foldP l m (p + 1) = ((putA (foldP l m p).1 (cpL l p) m).1, (foldP l m p).2 + (putA (foldP l m p).1 (cpL l p) m).2) := rfl
theorem getD_rev {l : List Int} {i : Nat} (h : i < l.length) : l.reverse.getD i 0 = l.getD (l.length - 1 - i) 0 := by
  rw [List.getD_eq_getElem?_getD, List.getD_eq_getElem?_getD, List.getElem?_reverse h]
theorem last_app {l r : List Int} (h : r ≠ []) : lastL (l ++ r) = lastL r := by
  have : 0 < r.length := List.length_pos_iff.mpr h
  unfold lastL
  rw [List.length_append, List.getD_eq_getElem?_getD, List.getElem?_append_right (by omega), ← List.getD_eq_getElem?_getD, show l.length + r.length - 1 - l.length = r.length - 1 by omega]
theorem last_cons {x : Int} {r : List Int} (h : r ≠ []) : lastL (x :: r) = lastL r := last_app (l := [x]) h
theorem last_one (l : List Int) (x : Int) : lastL (l ++ [x]) = x := by rw [last_app (by simp)]; rfl
/-- how the layers stand behind a copy was put on -/
theorem putA_last {acc xs : List Int} {m : Bool} (hx : xs ≠ []) : isB (lastL (putA acc xs m).1) = isB (lastL xs) := by
  cases xs with
  | nil => exact absurd rfl hx
  | cons x r =>
    rw [putA_cons]
    split
    · rename_i h
      rw [Bool.and_eq_true] at h
      obtain ⟨h0, hj⟩ := joins_t h.2
      cases r with
      | nil =>
        show isB (lastL (acc.set _ _ ++ [])) = isB x
        rw [List.append_nil, set_last h0, last_one, isB_add hj, hj]
      | cons y t => rw [last_app (r := y :: t) (by simp), last_cons (x := x) (r := y :: t) (by simp)]
    · rw [last_app (by simp)]
theorem putA_pre {acc xs : List Int} {m : Bool} {k : Nat} (hk : k + 1 < acc.length) : (putA acc xs m).1.getD k 0 = acc.getD k 0 := by
  cases xs with
  | nil => rfl
  | cons x r =>
    rw [putA_cons]
    split
    · show (acc.set (acc.length - 1) (lastL acc + x) ++ r).getD k 0 = _
      rw [List.getD_eq_getElem?_getD, List.getElem?_append_left (by simp; omega), List.getElem?_set_ne (by omega), ← List.getD_eq_getElem?_getD]
    · show (acc ++ x :: r).getD k 0 = _
      rw [List.getD_eq_getElem?_getD, List.getElem?_append_left (by omega), ← List.getD_eq_getElem?_getD]
theorem putA_preB {acc xs : List Int} {m : Bool} {k : Nat} (hk : k < acc.length) : isB ((putA acc xs m).1.getD k 0) = isB (acc.getD k 0) := by
  by_cases e : k + 1 < acc.length
  · rw [putA_pre e]
  · cases xs with
    | nil => rfl
    | cons x r =>
      rw [putA_cons]
      split
      · rename_i h
        rw [Bool.and_eq_true] at h
        obtain ⟨h0, hj⟩ := joins_t h.2
        have ek : k = acc.length - 1 := by omega
        show isB ((acc.set (acc.length - 1) (lastL acc + x) ++ r).getD k 0) = _
        rw [List.getD_eq_getElem?_getD, List.getElem?_append_left (by simp; omega), ek, List.getElem?_set_self (by omega)]
        show isB (lastL acc + x) = isB (lastL acc)
        exact isB_add hj
      · show isB ((acc ++ x :: r).getD k 0) = _
        rw [List.getD_eq_getElem?_getD, List.getElem?_append_left (by omega), ← List.getD_eq_getElem?_getD]
/-- what a fold of p parts has -/
theorem foldP_ok {l : List Int} {m : Bool} (h1 : 0 < l.length) (p : Nat) : ((foldP l m (p + 1)).1.length : Int) + (foldP l m (p + 1)).2 = (l.length : Int) * ((p : Int) + 1) ∧ (foldP l m (p + 1)).2 = (if m then (p : Int) else 0)
    ∧ hgt (foldP l m (p + 1)).1 = hgt l * ((p : Int) + 1) ∧ isB (lastL (foldP l m (p + 1)).1) = isB (lastL (cpL l p)) ∧ l.length ≤ (foldP l m (p + 1)).1.length
    ∧ (∀ k, k + 1 < l.length → (foldP l m (p + 1)).1.getD k 0 = l.getD k 0) ∧ (∀ k, k < l.length → isB ((foldP l m (p + 1)).1.getD k 0) = isB (l.getD k 0)) := by
  induction p with
  | zero =>
    rw [foldP_1]
    refine ⟨by simp, by simp, by simp, by simp [cpL], Nat.le_refl _, fun k _ => rfl, fun k _ => rfl⟩
  | succ p ih =>
    obtain ⟨i1, i2, i3, i4, i5, i6, i7⟩ := ih
    have hc : cpL l (p + 1) ≠ [] := by intro z; have := cpL_len l (p + 1); rw [z] at this; simp at this; omega
    have hl := putA_len (foldP l m (p + 1)).1 (cpL l (p + 1)) m
    rw [cpL_len] at hl
    rw [foldP_s l m (p + 1)]
    have hj : (putA (foldP l m (p + 1)).1 (cpL l (p + 1)) m).2 = (if m then 1 else 0) := by
      cases hcc : cpL l (p + 1) with
      | nil => exact absurd hcc hc
      | cons x r =>
        cases m with
        | false => simp [putA_false]
        | true =>
          have e : joinsL (foldP l true (p + 1)).1 x = true := by
            simp only [joinsL]
            rw [decide_eq_true (show 0 < (foldP l true (p + 1)).1.length by omega), Bool.true_and, beq_iff_eq, i4]
            have ex : x = (cpL l (p + 1)).getD 0 0 := by rw [hcc]; rfl
            rw [ex]
            unfold cpL
            rcases Nat.mod_two_eq_zero_or_one p with z | z
            · rw [if_pos z, if_neg (by omega), getD_rev h1]; rfl
            · rw [if_neg (by omega), if_pos (by omega)]
              unfold lastL
              rw [List.length_reverse, getD_rev (by omega), show l.length - 1 - (l.length - 1) = 0 by omega]
          simp [putA, e]
    refine ⟨?_, ?_, ?_, ?_, ?_, ?_, ?_⟩
    · show ((putA _ _ _).1.length : Int) + ((foldP l m (p + 1)).2 + (putA _ _ _).2) = _
      rw [show (l.length : Int) * (((p + 1 : Nat) : Int) + 1) = (l.length : Int) * ((p : Int) + 1) + l.length by rw [Int.natCast_add]; simp [Int.mul_add]]
      omega
    · show (foldP l m (p + 1)).2 + (putA _ _ _).2 = _
      rw [hj, i2]
      cases m <;> simp
    · show hgt (putA _ _ _).1 = _
      rw [putA_hgt, i3, cpL_hgt, Int.natCast_add, Int.mul_add (hgt l) ((p : Int) + _) 1]; simp
    · exact putA_last hc
    · exact Nat.le_trans i5 (putA_len_ge _ _ _)
    · intro k hk
      show (putA _ _ _).1.getD k 0 = _
      rw [putA_pre (by omega), i6 k hk]
    · intro k hk
      show isB ((putA _ _ _).1.getD k 0) = _
      rw [putA_preB (by omega), i7 k hk]
theorem foldP_nz {l : List Int} {m : Bool} (h : ∀ x ∈ l, x ≠ 0) (p : Nat) : ∀ x ∈ (foldP l m p).1, x ≠ 0 := by
  induction p with
  | zero => intro x hx; simp [foldP] at hx
  | succ p ih => rw [foldP_s]; exact putA_nz ih (fun x hx => h x (cpL_mem.mp hx))
/-- rolling: the layers that stay, how many broke, how often layers were joined, whether there is a gap -/
def rsg (f lo x : Int) : Int := if isB x then - rt f lo x else rt f lo x
def rollR (f lo : Int) (l : List Int) : Nat → List Int × Int × Int × Bool
  | 0 => ([], 0, 0, false)
  | k + 1 => if rt f lo (l.getD k 0) = 0 then ((rollR f lo l k).1, (rollR f lo l k).2.1 + 1, (rollR f lo l k).2.2.1, true)
    else ((putN (rollR f lo l k).1 (rsg f lo (l.getD k 0)) (rollR f lo l k).2.2.2).1, (rollR f lo l k).2.1, (rollR f lo l k).2.2.1 + b2 (putN (rollR f lo l k).1 (rsg f lo (l.getD k 0)) (rollR f lo l k).2.2.2).2, false)
theorem rollR_t {f lo : Int} {l : List Int} {k : Nat} (h : rt f lo (l.getD k 0) = 0) : rollR f lo l (k + 1) = ((rollR f lo l k).1, (rollR f lo l k).2.1 + 1, (rollR f lo l k).2.2.1, true) := by rw [rollR, if_pos h]
theorem rollR_f {f lo : Int} {l : List Int} {k : Nat} (h : rt f lo (l.getD k 0) ≠ 0) : rollR f lo l (k + 1) = ((putN (rollR f lo l k).1 (rsg f lo (l.getD k 0)) (rollR f lo l k).2.2.2).1, (rollR f lo l k).2.1, (rollR f lo l k).2.2.1 + b2 (putN (rollR f lo l k).1 (rsg f lo (l.getD k 0)) (rollR f lo l k).2.2.2).2, false) := by rw [rollR, if_neg h]
theorem putN_len (l : List Int) (x : Int) (m : Bool) : l.length ≤ (putN l x m).1.length ∧ (putN l x m).1.length ≤ l.length + 1 := by
  unfold putN
  split <;> simp
theorem putN_room (l : List Int) (x : Int) (m : Bool) (h : l.length < 200) : (putN l x m).1.length ≤ 200 := by have := putN_len l x m; omega
theorem rollR_len (f lo : Int) (l : List Int) (k : Nat) : (rollR f lo l k).1.length ≤ k := by
  induction k with
  | zero => exact Nat.le_refl _
  | succ k ih =>
    by_cases h : rt f lo (l.getD k 0) = 0
    · rw [rollR_t h]; exact Nat.le_succ_of_le ih
    · rw [rollR_f h]
      have := putN_len (rollR f lo l k).1 (rsg f lo (l.getD k 0)) (rollR f lo l k).2.2.2
      show (putN _ _ _).1.length ≤ _
      omega
theorem rsg_sz {f lo x : Int} (hf : 2 ≤ f ∧ f ≤ 4) (hl : 0 ≤ lo) (h : rt f lo x ≠ 0) : isB (rsg f lo x) = isB x ∧ sz (rsg f lo x) = rt f lo x := by
  have h2 := (rt_b (x := x) hf hl).1
  unfold rsg
  cases e : isB x
  · simp only [Bool.false_eq_true, if_false]
    unfold isB sz
    exact ⟨decide_eq_false (by omega), by rw [if_neg (by omega)]⟩
  · simp only [if_true]
    unfold isB sz
    exact ⟨decide_eq_true (by omega), by rw [if_pos (by omega)]; omega⟩
