/-! ===== the text that was written ===== -/
def OU (G : xG) (h : xH) (o A : Nat) (bs : List Int) : Prop := ∃ g : Nat → Int32, (o ∈ h.1 ∧ A ∈ h.1) ∧ h.2 o = .inr (2, [.ref A, .int (iI (bs.length : Int))]) ∧ h.2 A = .inl (G.2.1 0, 1200, .inl g) ∧ bs.length ≤ 1200 ∧ (∀ k, k < bs.length → g k = iI (bs.getD k 0))
def digs (n : Int) : List Int := (if 1000 ≤ n then [48 + n / 1000 % 10] else []) ++ ((if 100 ≤ n then [48 + n / 100 % 10] else []) ++ ((if 10 ≤ n then [48 + n / 10 % 10] else []) ++ (if 1 ≤ n then [48 + n / 1 % 10] else [])))
def layT (x : Int) : List Int := (if isB x then 66 else 68) :: digs (sz x)
/-- the first k layers from the top -/
def wrL (l : List Int) : Nat → List Int
  | 0 => []
  | k + 1 => wrL l k ++ (layT (l.getD (l.length - 1 - k) 0) ++ (if k + 1 < l.length then [32] else []))
theorem digs_len (n : Int) : (digs n).length ≤ 4 := by unfold digs; simp only [List.length_append]; split <;> split <;> split <;> split <;> simp
theorem wrL_len (l : List Int) (k : Nat) : (wrL l k).length ≤ 6 * k := by
  induction k with
  | zero => simp [wrL]
  | succ k ih =>
    have := digs_len (sz (l.getD (l.length - 1 - k) 0))
    have e : (if k + 1 < l.length then [32] else ([] : List Int)).length ≤ 1 := by split <;> simp
    simp only [wrL, layT, List.length_append, List.length_cons]
    omega
theorem OU.fr {G : xG} {h h' : xH} {o A : Nat} {fp : List Nat} {bs : List Int} (hU : OU G h o A bs) (hF : FRp fp h h') (h1 : o ∉ fp) (h2 : A ∉ fp) : OU G h' o A bs := by
  obtain ⟨g, ⟨mO, mA⟩, fO, fA, r⟩ := hU
  exact ⟨g, ⟨by rw [hF.1]; exact mO, by rw [hF.1]; exact mA⟩, (hF.2 o h1).trans fO, (hF.2 A h2).trans fA, r⟩
theorem ob_push {g : Nat → Int32} {bs : List Int} {x : Int} (h : ∀ k, k < bs.length → g k = iI (bs.getD k 0)) : ∀ k, k < (bs ++ [x]).length → upd g bs.length (iI x) k = iI ((bs ++ [x]).getD k 0) := by
  intro k hk
  rw [List.length_append, List.length_singleton] at hk
  by_cases e : k = bs.length
  · rw [e]; simp [upd]
  · simp only [upd, if_neg e]
    rw [h k (by omega), List.getD_eq_getElem?_getD, List.getD_eq_getElem?_getD, List.getElem?_append_left (by omega)]
