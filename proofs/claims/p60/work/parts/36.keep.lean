/-! ===== what a change keeps ===== -/
theorem fac_t {q : Int} (h : isFac q = true) : 2 ≤ q ∧ q ≤ 4 := by simpa [isFac] using h
theorem nz_len {l : List Int} (h : 1 ≤ hgt l) : 1 ≤ l.length := by
  cases l with
  | nil => simp [hgt] at h
  | cons x t => simp
theorem warmed_b {w : Int} (h : 0 ≤ w ∧ w ≤ 40) : 0 ≤ warmed w ∧ warmed w ≤ 40 := by unfold warmed; omega
theorem fold_ok {s : AS} {q : Int} (hW : WS s) (hq : 2 ≤ q ∧ q ≤ 4) (ho : obst s q = 0) : (foldP s.1 (!s.2.2.2.2.1) q.toNat).1.length ≤ 200 ∧ WS (foldS s q.toNat) := by
  obtain ⟨h1, hnz, h4, hw⟩ := hW
  obtain ⟨p1, p2, p3, -⟩ := foldP_ok (l := s.1) (m := !s.2.2.2.2.1) (by omega) (q.toNat - 1)
  rw [show q.toNat - 1 + 1 = q.toNat by omega] at p1 p2 p3
  rw [show (((q.toNat - 1 : Nat) : Int) + 1) = q by omega] at p1 p3
  rw [show ((q.toNat - 1 : Nat) : Int) = q - 1 by omega] at p2
  have hmb := mul_b (hgt_nn s.1) hq
  unfold obst at ho
  split at ho
  · cases ho
  · split at ho
    · cases ho
    · split at ho
      · cases ho
      · rename_i z1 z2 z3
        have hl : ((foldP s.1 (!s.2.2.2.2.1) q.toNat).1.length : Int) ≤ 200 := by
          unfold folded at z2
          cases hd : s.2.2.2.2.1 <;> rw [hd] at z2 p1 p2 <;> simp at z2 p2 ⊢ <;> simp at p1 <;> omega
        refine ⟨by omega, ?_, foldP_nz hnz _, ?_, warmed_b hw⟩
        · exact nz_len (by show 1 ≤ hgt (foldP s.1 (!s.2.2.2.2.1) q.toNat).1; rw [p3]; have := hgt_ge s.1 hnz; omega)
        · show hgt (foldP _ _ _).1 ≤ 4000
          rw [p3]; omega
theorem rt_le {f lo x : Int} (hf : 2 ≤ f ∧ f ≤ 4) (hl : 0 ≤ lo) (hx : x ≠ 0) : rt f lo x ≤ sz x := by
  have h1 := sz_pos hx
  have : f = 2 ∨ f = 3 ∨ f = 4 := by omega
  unfold rt
  rcases this with rfl | rfl | rfl <;> split <;> omega
theorem putN_hgt (l : List Int) (x : Int) (m : Bool) : hgt (putN l x m).1 = hgt l + sz x := by
  have h := putA_hgt l [x] m
  have e : (putA l [x] m).1 = (putN l x m).1 := by
    rw [putA_cons]; unfold putN
    split <;> simp
  rw [e] at h
  rw [h]; simp [hgt]
theorem putN_nz {l : List Int} {x : Int} {m : Bool} (h : ∀ y ∈ l, y ≠ 0) (hx : x ≠ 0) : ∀ y ∈ (putN l x m).1, y ≠ 0 := by
  have h2 := putA_nz (acc := l) (xs := [x]) (m := m) h (fun y hy => by rw [List.mem_singleton.mp hy]; exact hx)
  have e : (putA l [x] m).1 = (putN l x m).1 := by
    rw [putA_cons]; unfold putN
    split <;> simp
  rw [e] at h2; exact h2
theorem rollR_ok {f lo : Int} {l : List Int} (hf : 2 ≤ f ∧ f ≤ 4) (hl : 0 ≤ lo) (k : Nat) (hk : k ≤ l.length) : hgt (rollR f lo l k).1 = sumF (rt f lo) (l.take k) ∧ (∀ x ∈ (rollR f lo l k).1, x ≠ 0) := by
  induction k with
  | zero => exact ⟨by simp [rollR, hgt, sumF], fun x hx => by simp [rollR] at hx⟩
  | succ k ih =>
    obtain ⟨i1, i2⟩ := ih (by omega)
    rw [sumF_s (by omega)]
    by_cases h : rt f lo (l.getD k 0) = 0
    · rw [rollR_t h, h]; exact ⟨by show hgt (rollR f lo l k).1 = _; rw [i1, Int.add_zero], i2⟩
    · rw [rollR_f h]
      obtain ⟨r1, r2⟩ := rsg_sz hf hl h
      refine ⟨by show hgt (putN _ _ _).1 = _; rw [putN_hgt, i1, r2], putN_nz i2 (fun z => ?_)⟩
      rw [z] at r2
      exact h (by rw [← r2]; rfl)
theorem sumF_le {f g : Int → Int} {l : List Int} (h : ∀ x ∈ l, f x ≤ g x) : sumF f l ≤ sumF g l := by
  induction l with
  | nil => exact Int.le_refl _
  | cons x t ih =>
    have h1 := ih (fun y hy => h y (List.mem_cons_of_mem _ hy))
    have h2 := h x List.mem_cons_self
    simp only [sumF, List.map_cons, List.sum_cons] at h1 ⊢
    omega
theorem roll_ok {s : AS} {f m : Int} (hW : WS s) (hf : 2 ≤ f ∧ f ≤ 4) (hm : 0 ≤ m ∧ m ≤ 40) (h : sumF (rt f (loss s m)) s.1 ≠ 0) : WS (rollS s f m) := by
  obtain ⟨h1, hnz, h4, hw⟩ := hW
  have hlo := loss_b (s := s) (m := m) hw hm
  obtain ⟨r1, r2⟩ := rollR_ok (l := s.1) hf hlo.1 s.1.length (Nat.le_refl _)
  rw [take_all] at r1
  have h5 := sumF_rt hf hlo.1 s.1
  have h6 : sumF (rt f (loss s m)) s.1 ≤ hgt s.1 := sumF_le (fun x hx => rt_le hf hlo.1 (hnz x hx))
  exact ⟨nz_len (by show 1 ≤ hgt (rollR f (loss s m) s.1 s.1.length).1; rw [r1]; omega), r2, by show hgt (rollR _ _ _ _).1 ≤ 4000; rw [r1]; omega, warmed_b hw⟩
theorem jW_j {s s' : AS} (h1 : 1 ≤ s'.1.length) : (putA s.1 s'.1 (!s.2.2.2.2.1)).2 = (if jW s s' then 1 else 0) := by
  unfold jW
  cases hl : s'.1 with
  | nil => rw [hl] at h1; simp at h1
  | cons x r =>
    rw [putA_cons]
    simp only [List.length_cons, List.getD_cons_zero]
    cases hd : s.2.2.2.2.1 <;> cases hj : joinsL s.1 x <;> simp
theorem stack_ok {s s' : AS} (hW : WS s) (hW' : WS s') (h : rStackS s s' = 0) : (putA s.1 s'.1 (!s.2.2.2.2.1)).1.length ≤ 200 ∧ WS (carryS s s') := by
  obtain ⟨h1, hnz, h4, hw⟩ := hW
  obtain ⟨h1', hnz', h4', hw'⟩ := hW'
  have hlen := putA_len s.1 s'.1 (!s.2.2.2.2.1)
  have hh := putA_hgt s.1 s'.1 (!s.2.2.2.2.1)
  rw [jW_j h1'] at hlen
  unfold rStackS at h
  by_cases a1 : s.2.2.2.2.2.2 = true
  · rw [if_pos a1] at h; cases h
  rw [if_neg a1] at h
  by_cases a2 : s'.2.2.2.2.2.2 = true
  · rw [if_pos a2] at h; cases h
  rw [if_neg a2] at h
  by_cases a3 : 200 < (s.1.length : Int) + (s'.1.length : Int) - (if jW s s' then 1 else 0)
  · rw [if_pos a3] at h; cases h
  rw [if_neg a3] at h
  by_cases a4 : 4000 < hgt s.1 + hgt s'.1
  · rw [if_pos a4] at h; cases h
  have hg := putA_len_ge s.1 s'.1 (!s.2.2.2.2.1)
  refine ⟨by omega, by show 1 ≤ (putA _ _ _).1.length; omega, putA_nz hnz hnz', by show hgt (putA s.1 s'.1 (!s.2.2.2.2.1)).1 ≤ 4000; rw [hh]; omega, ?_⟩
  show 0 ≤ max s.2.2.1 s'.2.2.1 ∧ max s.2.2.1 s'.2.2.1 ≤ 40
  omega
theorem but_ok {s : AS} {T : Int} (hW : WS s) (hT : 1 ≤ T) (h : rButS s T = 0) : s.1.length < 200 ∧ WS (butS s T) := by
  obtain ⟨h1, hnz, h4, hw⟩ := hW
  unfold rButS at h
  split at h
  · cases h
  · split at h
    · cases h
    · split at h
      · cases h
      · have hg := putN_len s.1 (-T) (!s.2.2.2.2.1)
        refine ⟨by omega, by show 1 ≤ (putN _ _ _).1.length; omega, putN_nz hnz (by omega), ?_, hw⟩
        show hgt (putN _ _ _).1 ≤ 4000
        rw [putN_hgt]
        have : sz (-T) = T := by unfold sz; rw [if_pos (by omega)]; omega
        omega
theorem WS.get {L : List AS} (h : ∀ s ∈ L, WS s) {i : Nat} (hi : i < L.length) : WS (L.getD i dS) := h _ (getD_memS hi)
/-- what a command does: why not, and what then -/
def rCmd (k : Nat) (B : AB) (a b : Int) : Nat := match k with | 0 => rFold B a b | 1 => rRoll B a b | 2 => rDust B a | 3 => rSeal B a | 4 => rCool B a | 5 => rTake B a | 6 => rHours B a | 7 => rCut B a | _ => rStack B a b
def aCmd (k : Nat) (B : AB) (a b : Int) : AB := match k with | 0 => aFold B a.toNat b.toNat | 1 => aRoll B a.toNat b | 2 => aDust B a.toNat | 3 => aSeal B a.toNat | 4 => aCool B a.toNat | 5 => aTake B a.toNat | 6 => aHours B a.toNat | 7 => aCut B a.toNat | _ => aStack B a.toNat b.toNat
def vCmd (k : Nat) (B : AB) (a b : Int) : Int := match k with
  | 0 => ((foldS (B.2.getD a.toNat dS) b.toNat).1.length : Int) | 1 => ((rollS (B.2.getD a.toNat dS) b B.1.2.1).1.length : Int) | 2 => B.1.2.2.1 - 1 | 3 => cnt isSe (B.2.set a.toNat (seS (B.2.getD a.toNat dS) true)) | 4 => cnt isC (B.2.set a.toNat (coS (B.2.getD a.toNat dS) true))
  | 5 => (B.2.getD a.toNat dS).2.2.1 | 6 => cnt (unsafeS B.1.2.1) (B.2.map (hrS B.1.1 a.toNat)) | 7 => (B.2.length : Int) | _ => ((carryS (B.2.getD a.toNat dS) (B.2.getD b.toNat dS)).1.length : Int)
theorem rF0 {B : AB} {z q : Int} (h : rFold B z q = 0) : hasS B z = true ∧ isFac q = true ∧ obst (sAt B z) q = 0 := by
  unfold rFold at h; split at h
  · split at h
    · split at h
      · exact ⟨‹_›, ‹_›, ‹_›⟩
      · cases h
    · cases h
  · cases h
theorem rR0 {B : AB} {z q : Int} (h : rRoll B z q = 0) : hasS B z = true ∧ isFac q = true ∧ rRollS (sAt B z) B.1.2.1 q = 0 := by
  unfold rRoll at h; split at h
  · split at h
    · exact ⟨‹_›, ‹_›, h⟩
    · cases h
  · cases h
theorem rRS0 {s : AS} {m f : Int} (h : rRollS s m f = 0) : sumF (rt f (loss s m)) s.1 ≠ 0 := by
  unfold rRollS at h; split at h
  · cases h
  · split at h
    · cases h
    · assumption
theorem rD0 {B : AB} {z : Int} (h : rDust B z = 0) : hasS B z = true ∧ 1 ≤ B.1.2.2.1 := by
  unfold rDust rDustS at h; split at h
  · split at h
    · cases h
    · split at h
      · cases h
      · split at h
        · cases h
        · exact ⟨‹_›, by omega⟩
  · cases h
theorem rSe0 {B : AB} {z : Int} (h : rSeal B z = 0) : hasS B z = true := by unfold rSeal at h; split at h; assumption; cases h
theorem rCo0 {B : AB} {z : Int} (h : rCool B z = 0) : hasS B z = true := by unfold rCool at h; split at h; assumption; cases h
theorem rTa0 {B : AB} {z : Int} (h : rTake B z = 0) : hasS B z = true := by unfold rTake at h; split at h; assumption; cases h
theorem rH0 {B : AB} {z : Int} (h : rHours B z = 0) : 1 ≤ z ∧ z ≤ 24 ∧ B.1.2.2.2.1 + z ≤ 9999 := by
  unfold rHours at h; split at h
  · cases h
  · split at h
    · cases h
    · split at h
      · cases h
      · omega
theorem rCu0 {B : AB} {z : Int} (h : rCut B z = 0) : hasS B z = true ∧ B.2.length < 6 := by
  unfold rCut rCutS at h; split at h
  · split at h
    · cases h
    · split at h
      · cases h
      · exact ⟨‹_›, by omega⟩
  · cases h
theorem rSt0 {B : AB} {z y : Int} (h : rStack B z y = 0) : hasS B z = true ∧ hasS B y = true ∧ z ≠ y ∧ rStackS (sAt B z) (sAt B y) = 0 := by
  unfold rStack at h; split at h
  · split at h
    · split at h
      · cases h
      · exact ⟨‹_›, ‹_›, ‹_›, h⟩
    · cases h
  · cases h
theorem rBu0 {B : AB} {z T : Int} (h : rBut B z T = 0) : hasS B z = true ∧ 1 ≤ T ∧ T ≤ 400 ∧ rButS (sAt B z) T = 0 := by
  unfold rBut at h; split at h
  · split at h
    · cases h
    · split at h
      · cases h
      · exact ⟨‹_›, by omega, by omega, h⟩
  · cases h
theorem rFl0 {B : AB} {n : Int} (h : rFlour B n = 0) : 1 ≤ n ∧ n ≤ 50 ∧ B.1.2.2.1 + n ≤ 999 := by
  unfold rFlour at h; split at h
  · cases h
  · split at h
    · cases h
    · split at h
      · cases h
      · omega
theorem hasS_n {B : AB} {z : Int} (h : hasS B z = true) : z.toNat < B.2.length ∧ (z.toNat : Int) = z := by
  have := hasS_t h
  omega
theorem set_WS {L : List AS} {i : Nat} {s : AS} (h : ∀ x ∈ L, WS x) (hs : WS s) : ∀ x ∈ L.set i s, WS x := fun x hx => by
  rcases List.mem_or_eq_of_mem_set hx with z | z
  · exact h x z
  · rw [z]; exact hs
theorem WB.cmd {k : Nat} {B : AB} {a b : Int} (hW : WB B) (h : rCmd k B a b = 0) : WB (aCmd k B a b) := by
  obtain ⟨hWs, hro, hme, hfl, hho⟩ := hW
  match k with
  | 0 =>
    obtain ⟨h1, h2, h3⟩ := rF0 h
    exact ⟨set_WS hWs (fold_ok (WS.get hWs (hasS_n h1).1) (fac_t h2) h3).2, hro, hme, hfl, hho⟩
  | 1 =>
    obtain ⟨h1, h2, h3⟩ := rR0 h
    exact ⟨set_WS hWs (roll_ok (WS.get hWs (hasS_n h1).1) (fac_t h2) (by omega) (rRS0 h3)), hro, hme, hfl, hho⟩
  | 2 =>
    obtain ⟨h1, h2⟩ := rD0 h
    refine ⟨set_WS hWs (show WS (duS _) from WS.get hWs (hasS_n h1).1), hro, hme, ?_, hho⟩
    show 0 ≤ B.1.2.2.1 - 1 ∧ B.1.2.2.1 - 1 ≤ 999
    omega
  | 3 => exact ⟨set_WS hWs (show WS (seS _ _) from WS.get hWs (hasS_n (rSe0 h)).1), hro, hme, hfl, hho⟩
  | 4 => exact ⟨set_WS hWs (show WS (coS _ _) from WS.get hWs (hasS_n (rCo0 h)).1), hro, hme, hfl, hho⟩
  | 5 => exact ⟨set_WS hWs (show WS (coS _ _) from WS.get hWs (hasS_n (rTa0 h)).1), hro, hme, hfl, hho⟩
  | 6 =>
    obtain ⟨h1, h2, h3⟩ := rH0 h
    refine ⟨fun x hx => ?_, hro, hme, hfl, ?_⟩
    · obtain ⟨s0, h8, rfl⟩ := List.mem_map.mp hx
      exact (hWs s0 h8).hr hro
    · show 0 ≤ B.1.2.2.2.1 + (a.toNat : Int) ∧ B.1.2.2.2.1 + (a.toNat : Int) ≤ 9999
      omega
  | 7 =>
    obtain ⟨h1, h2⟩ := rCu0 h
    have hc : WS (seS (B.2.getD a.toNat dS) false) := WS.get hWs (hasS_n h1).1
    refine ⟨fun x hx => ?_, hro, hme, hfl, hho⟩
    rcases List.mem_append.mp hx with z | z
    · exact set_WS hWs hc x z
    · rw [List.mem_singleton.mp z]; exact hc
  | n + 8 =>
    obtain ⟨h1, h2, h3, h4⟩ := rSt0 h
    exact ⟨fun x hx => set_WS hWs (stack_ok (WS.get hWs (hasS_n h1).1) (WS.get hWs (hasS_n h2).1) h4).2 x (List.mem_of_mem_eraseIdx hx), hro, hme, hfl, hho⟩
def exeL : List (Nat × Int × Int) → AB → Nat × AB
  | [], B => (0, B)
  | c :: cs, B => if rCmd c.1 B c.2.1 c.2.2 = 0 then ((exeL cs (aCmd c.1 B c.2.1 c.2.2)).1 + 1, (exeL cs (aCmd c.1 B c.2.1 c.2.2)).2) else (0, B)
theorem WB.exe (cs : List (Nat × Int × Int)) : ∀ {B : AB}, WB B → WB (exeL cs B).2 := by
  induction cs with
  | nil => intro B h; exact h
  | cons c cs ih =>
    intro B h
    unfold exeL
    split
    · exact ih (h.cmd ‹_›)
    · exact h
