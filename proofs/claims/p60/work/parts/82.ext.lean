/-! ===== what the rest needs of the whole claim's later parts ===== -/
theorem rCS0 {s : AS} {L : List AS} (h : rCoolS s L = 0) : s.2.2.2.2.2.2 = false ∧ cnt isC L < 3 := by
  unfold rCoolS at h
  split at h
  · cases h
  · split at h
    · cases h
    · rename_i a b
      exact ⟨by simpa using a, by omega⟩
theorem rCuS0 {s : AS} {n : Nat} (h : rCutS s n = 0) : s.2.2.2.2.2.2 = false ∧ n < 6 := by
  unfold rCutS at h
  split at h
  · cases h
  · split at h
    · cases h
    · rename_i a b
      exact ⟨by simpa using a, by omega⟩
def exS (s : AS) : AS := (s.1, (s.1.length : Int), s.2.2.1, s.2.2.2.1, s.2.2.2.2.1, s.2.2.2.2.2.1, s.2.2.2.2.2.2)
def mdS (x : Int × List Int) : AS := (x.2, 0, x.1, iI 0, false, false, false)
def hd6 (x : Int × Int × Int) : Int × Int × Int × Int × Int × Int := (x.1, x.2.1, x.2.2, 0, 0, 0)
theorem addLs_app (ls : List Int) : ∀ (hd : Int × Int × Int × Int × Int × Int) (L : List AS) (s : AS), addLs (hd, L ++ [s]) ls = (hd, L ++ [ls.foldl ldS s]) := by
  induction ls with
  | nil => intro hd L s; rfl
  | cons x l ih =>
    intro hd L s
    have h1 : (L ++ [s]).length - 1 = L.length := by simp
    have h2 : (L ++ [s]).getD L.length dS = s := by simp
    have e : addL (hd, L ++ [s]) x = (hd, L ++ [ldS s x]) := by
      show (hd, (L ++ [s]).set ((L ++ [s]).length - 1) (ldS ((L ++ [s]).getD ((L ++ [s]).length - 1) dS) x)) = _
      rw [h1, h2, List.set_append_right _ _ (Nat.le_refl _)]
      simp
    show addLs (addL (hd, L ++ [s]) x) l = _
    rw [e]
    exact ih _ _ _
theorem foldl_ld (ls : List Int) : ∀ (l : List Int) (n t : Int), ls.foldl ldS (l, n, t, iI 0, false, false, false) = (l ++ ls, n + (ls.length : Int), t, iI 0, false, false, false) := by
  induction ls with
  | nil => intro l n t; simp
  | cons x r ih =>
    intro l n t
    show r.foldl ldS (l ++ [x], n + 1, t, iI 0, false, false, false) = _
    rw [ih]
    simp
    omega
theorem addSh_app (l : List (Int × List Int)) : ∀ (hd : Int × Int × Int × Int × Int × Int) (L : List AS), addSh (hd, L) l = (hd, L ++ (l.map mdS).map exS) := by
  induction l with
  | nil => intro hd L; show (hd, L) = _; simp
  | cons a l ih =>
    intro hd L
    have e : (a.2).foldl ldS (bgS a.1) = exS (mdS a) := by
      show (a.2).foldl ldS ([], 0, a.1, iI 0, false, false, false) = _
      rw [foldl_ld, Int.zero_add]; rfl
    show addSh (addLs (hd, L ++ [bgS a.1]) a.2) l = _
    rw [addLs_app, ih, e]
    simp
theorem ld_eq (hd : Int × Int × Int) (l : List (Int × List Int)) : (hd6 hd, (l.map mdS).map exS) = addSh (hdB hd) l := by
  show _ = addSh (hd6 hd, []) l
  rw [addSh_app]; rfl
theorem cnt_app (f : AS → Bool) (L M : List AS) : cnt f (L ++ M) = cnt f L + cnt f M := by simp [cnt]
theorem cnt_one (f : AS → Bool) (s : AS) : cnt f [s] = if f s then 1 else 0 := by
  unfold cnt; rw [List.filter_cons]; split <;> simp
theorem cnt_map {f : AS → Bool} {g : AS → AS} (h : ∀ s, f (g s) = f s) (L : List AS) : cnt f (L.map g) = cnt f L := by
  induction L with
  | nil => rfl
  | cons s L ih =>
    have e : cnt f ([g s]) = cnt f ([s]) := by rw [cnt_one, cnt_one, h]
    have a := cnt_app f [g s] (L.map g)
    have b := cnt_app f [s] L
    show cnt f ([g s] ++ L.map g) = cnt f ([s] ++ L)
    omega
theorem cnt_erase (f : AS → Bool) (L : List AS) (j : Nat) : cnt f (L.eraseIdx j) ≤ cnt f L := by
  unfold cnt
  have := ((List.eraseIdx_sublist L j).filter f).length_le
  omega
theorem cnt_set (f : AS → Bool) (s' : AS) : ∀ (L : List AS) (i : Nat), i < L.length → cnt f (L.set i s') + (if f (L.getD i dS) then 1 else 0) = cnt f L + (if f s' then 1 else 0) := by
  intro L
  induction L with
  | nil => intro i hi; simp at hi
  | cons s L ih =>
    intro i hi
    cases i with
    | zero =>
      show cnt f ([s'] ++ L) + (if f s then 1 else 0) = cnt f ([s] ++ L) + (if f s' then 1 else 0)
      rw [cnt_app, cnt_app, cnt_one, cnt_one]
      omega
    | succ i =>
      have := ih i (by simpa using hi)
      show cnt f ([s] ++ L.set i s') + (if f (L.getD i dS) then 1 else 0) = cnt f ([s] ++ L) + (if f s' then 1 else 0)
      rw [cnt_app, cnt_app]
      omega
theorem CB_same {L : List AS} {i : Nat} (hi : i < L.length) {s' : AS} (e : isC s' = isC (L.getD i dS)) : cnt isC (L.set i s') = cnt isC L := by
  have := cnt_set isC s' L i hi
  rw [e] at this
  omega
theorem CB_cmd {k : Nat} {B : AB} {x y : Int} (h : rCmd k B x y = 0) (hc : cnt isC B.2 ≤ 3) : cnt isC (aCmd k B x y).2 ≤ 3 := by
  unfold rCmd at h
  unfold aCmd
  split at h
  · obtain ⟨n1, n2⟩ := hasS_n (rF0 h).1
    exact Int.le_trans (Int.le_of_eq (CB_same n1 rfl)) hc
  · obtain ⟨n1, n2⟩ := hasS_n (rR0 h).1
    exact Int.le_trans (Int.le_of_eq (CB_same n1 rfl)) hc
  · obtain ⟨n1, n2⟩ := hasS_n (rD0 h).1
    exact Int.le_trans (Int.le_of_eq (CB_same n1 rfl)) hc
  · obtain ⟨n1, n2⟩ := hasS_n (rSe0 h)
    exact Int.le_trans (Int.le_of_eq (CB_same n1 rfl)) hc
  · have hs := rCo0 h
    obtain ⟨n1, n2⟩ := hasS_n hs
    have e : rCool B x = rCoolS (sAt B x) B.2 := if_pos hs
    rw [e] at h
    have h3 := (rCS0 h).2
    have := cnt_set isC (coS (B.2.getD x.toNat dS) true) B.2 x.toNat n1
    show cnt isC (B.2.set x.toNat (coS (B.2.getD x.toNat dS) true)) ≤ 3
    rw [show isC (coS (B.2.getD x.toNat dS) true) = true from rfl, if_pos rfl] at this
    split at this <;> omega
  · obtain ⟨n1, n2⟩ := hasS_n (rTa0 h)
    have := cnt_set isC (coS (B.2.getD x.toNat dS) false) B.2 x.toNat n1
    show cnt isC (B.2.set x.toNat (coS (B.2.getD x.toNat dS) false)) ≤ 3
    rw [show (if isC (coS (B.2.getD x.toNat dS) false) = true then (1 : Int) else 0) = 0 from if_neg (by rw [show isC (coS (B.2.getD x.toNat dS) false) = false from rfl]; decide)] at this
    split at this <;> omega
  · show cnt isC (B.2.map (hrS B.1.1 x.toNat)) ≤ 3
    rw [cnt_map (f := isC) (g := hrS B.1.1 x.toNat) (fun s => rfl)]; exact hc
  · obtain ⟨hs, hl⟩ := rCu0 h
    obtain ⟨n1, n2⟩ := hasS_n hs
    have e : rCut B x = rCutS (sAt B x) B.2.length := if_pos hs
    rw [e] at h
    have h3 : isC (B.2.getD x.toNat dS) = false := (rCuS0 h).1
    show cnt isC (B.2.set x.toNat (seS (B.2.getD x.toNat dS) false) ++ [seS (B.2.getD x.toNat dS) false]) ≤ 3
    rw [cnt_app, CB_same (s' := seS (B.2.getD x.toNat dS) false) n1 rfl, cnt_one, show isC (seS (B.2.getD x.toNat dS) false) = isC (B.2.getD x.toNat dS) from rfl, h3, if_neg (by decide), Int.add_zero]; exact hc
  · obtain ⟨n1, n2⟩ := hasS_n (rSt0 h).1
    refine Int.le_trans (cnt_erase _ _ _) ?_
    exact Int.le_trans (Int.le_of_eq (CB_same n1 rfl)) hc
