/-! ===== what a sheet is: its layers (whole numbers, butter below 0), and its numbers ===== -/
theorem down {N : Nat} {P : Nat → Prop} (H : ∀ i, i ≤ N → (∀ j, i < j → j ≤ N → P j) → P i) : ∀ i, i ≤ N → P i := by
  have key : ∀ d i, i ≤ N → N - i ≤ d → P i := by
    intro d
    induction d with
    | zero => intro i hi hd; exact H i hi (fun j h1 h2 => by omega)
    | succ d ih => intro i hi hd; exact H i hi (fun j h1 h2 => ih j h2 (by omega))
  exact fun i hi => key (N - i) i hi (Nat.le_refl _)
def sz (x : Int) : Int := if x < 0 then -x else x
def isB (x : Int) : Bool := decide (x < 0)
theorem sz_nn (x : Int) : 0 ≤ sz x := by unfold sz; split <;> omega
/-- a sheet: layers; what is expected, degrees, folds, dusted, sealed, cooling -/
abbrev AS : Type := List Int × Int × Int × Int32 × Bool × Bool × Bool
def hgt (l : List Int) : Int := (l.map sz).sum
def nBut (l : List Int) : Int := ((l.filter isB).length : Int)
def hBut (l : List Int) : Int := (l.map (fun x => if isB x then sz x else 0)).sum
theorem getD_eq {l : List Int} {i : Nat} (h : i < l.length) : l.getD i 0 = l[i] := by simp [h]
theorem take_s {l : List Int} {i : Nat} (h : i < l.length) : l.take (i + 1) = l.take i ++ [l.getD i 0] := by
  rw [List.take_succ_eq_append_getElem h, getD_eq h]
theorem take_all (l : List Int) : l.take l.length = l := List.take_length
theorem hgt_app (l m : List Int) : hgt (l ++ m) = hgt l + hgt m := by simp [hgt]
theorem hBut_app (l m : List Int) : hBut (l ++ m) = hBut l + hBut m := by simp [hBut]
theorem nBut_app (l m : List Int) : nBut (l ++ m) = nBut l + nBut m := by simp [nBut]
theorem hgt_s {l : List Int} {i : Nat} (h : i < l.length) : hgt (l.take (i + 1)) = hgt (l.take i) + sz (l.getD i 0) := by rw [take_s h, hgt_app]; simp [hgt]
theorem hBut_t {l : List Int} {i : Nat} (h : i < l.length) (hb : isB (l.getD i 0) = true) : hBut (l.take (i + 1)) = hBut (l.take i) + sz (l.getD i 0) := by rw [take_s h, hBut_app]; generalize l.getD i 0 = x at hb ⊢; simp [hBut, hb]
theorem hBut_f {l : List Int} {i : Nat} (h : i < l.length) (hb : isB (l.getD i 0) = false) : hBut (l.take (i + 1)) = hBut (l.take i) := by rw [take_s h, hBut_app]; generalize l.getD i 0 = x at hb ⊢; simp [hBut, hb]
theorem nBut_t {l : List Int} {i : Nat} (h : i < l.length) (hb : isB (l.getD i 0) = true) : nBut (l.take (i + 1)) = nBut (l.take i) + 1 := by rw [take_s h, nBut_app]; generalize l.getD i 0 = x at hb ⊢; simp [nBut, hb]
theorem nBut_f {l : List Int} {i : Nat} (h : i < l.length) (hb : isB (l.getD i 0) = false) : nBut (l.take (i + 1)) = nBut (l.take i) := by rw [take_s h, nBut_app]; generalize l.getD i 0 = x at hb ⊢; simp [nBut, hb]
/-- the fields of a sheet object -/
abbrev sf (t b : Nat) (s : AS) : List Value := [.ref t, .ref b, .int (iI (s.1.length : Int)), .int (iI s.2.1), .int s.2.2.2.1, .int (iI s.2.2.1), .int (iI (b2 s.2.2.2.2.1)), .int (iI (b2 s.2.2.2.2.2.1)), .int (iI (b2 s.2.2.2.2.2.2))]
/-- what the rows of a sheet hold -/
def sr (gt gb : Nat → Int32) (l : List Int) : Prop := ∀ k, k < l.length → gt k = iI (sz (l.getD k 0)) ∧ gb k = iI (b2 (isB (l.getD k 0)))
/-- the sheet object a with its rows t and b is s -/
def SH (G : xG) (h : xH) (a t b : Nat) (s : AS) : Prop := ∃ gt gb : Nat → Int32, (a ∈ h.1 ∧ t ∈ h.1 ∧ b ∈ h.1) ∧ (t ≠ a ∧ b ≠ a ∧ t ≠ b) ∧ h.2 a = .inr (5, sf t b s) ∧ h.2 t = .inl (G.2.1 0, 200, .inl gt) ∧ h.2 b = .inl (G.2.1 1, 200, .inl gb) ∧ s.1.length ≤ 200 ∧ sr gt gb s.1
/-- a method that only answers -/
abbrev qI (z : Int) (h : xH) : xR → xH → Prop := fun o h' => o = .inl (some (.int (iI z))) ∧ h' = h
