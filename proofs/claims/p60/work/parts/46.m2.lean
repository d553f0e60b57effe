/-! ===== the numbers that the property speaks of: thinnest and thickest, seams, butter at risk, rolling ===== -/
theorem thinB_min (l : List Int) : ∀ n i, i < n → sz (l.getD (thinB l n) 0) ≤ sz (l.getD i 0) := by
  intro n
  induction n with
  | zero => intro i hi; omega
  | succ n ih =>
    intro i hi
    by_cases h : sz (l.getD n 0) < sz (l.getD (thinB l n) 0)
    · rw [thinB_t h]
      by_cases e : i = n
      · rw [e]; exact Int.le_refl _
      · have := ih i (by omega); omega
    · rw [thinB_f (by omega)]
      by_cases e : i = n
      · rw [e]; omega
      · exact ih i (by omega)
theorem thickB_max (l : List Int) : ∀ n i, i < n → sz (l.getD i 0) ≤ sz (l.getD (thickB l n) 0) := by
  intro n
  induction n with
  | zero => intro i hi; omega
  | succ n ih =>
    intro i hi
    by_cases h : sz (l.getD (thickB l n) 0) < sz (l.getD n 0)
    · rw [thickB_t h]
      by_cases e : i = n
      · rw [e]; exact Int.le_refl _
      · have := ih i (by omega); omega
    · rw [thickB_f (by omega)]
      by_cases e : i = n
      · rw [e]; omega
      · exact ih i (by omega)
theorem bst_max (f : AS → Int) (L : List AS) : ∀ n i, i < n → f (L.getD i dS) ≤ f (L.getD (bst f L n) dS) := by
  intro n
  induction n with
  | zero => intro i hi; omega
  | succ n ih =>
    intro i hi
    by_cases h : f (L.getD (bst f L n) dS) < f (L.getD n dS)
    · rw [bst_t h]
      by_cases e : i = n
      · rw [e]; exact Int.le_refl _
      · have := ih i (by omega); omega
    · rw [bst_f (by omega)]
      by_cases e : i = n
      · rw [e]; omega
      · exact ih i (by omega)
theorem seams_le (l : List Int) : ∀ n, 0 ≤ seams l (n + 1) ∧ seams l (n + 1) ≤ n := by
  intro n
  induction n with
  | zero => rw [seams_1]; omega
  | succ n ih =>
    rw [seams]
    split <;> omega
theorem esc_le {lo : Int} (h0 : 0 ≤ lo) (l : List Int) : 0 ≤ sumF (escF lo) l ∧ sumF (escF lo) l ≤ hBut l := by
  induction l with
  | nil => simp [sumF, hBut]
  | cons x t ih =>
    have e1 : sumF (escF lo) (x :: t) = escF lo x + sumF (escF lo) t := by simp [sumF]
    have e2 : hBut (x :: t) = (if isB x then sz x else 0) + hBut t := by simp [hBut]
    have h3 : 0 ≤ escF lo x ∧ escF lo x ≤ (if isB x then sz x else 0) := by
      have := sz_nn x
      unfold escF
      split <;> omega
    omega
theorem esc_0 (l : List Int) : sumF (escF 0) l = 0 := by
  induction l with
  | nil => rfl
  | cons x t ih =>
    have e1 : sumF (escF 0) (x :: t) = escF 0 x + sumF (escF 0) t := by simp [sumF]
    have h3 : escF 0 x = 0 := by
      have := sz_nn x
      unfold escF
      split <;> omega
    omega
theorem esc_pos {lo : Int} (h0 : 1 ≤ lo) {l : List Int} (hn : ∀ x ∈ l, x ≠ 0) (hb : 1 ≤ nBut l) : 1 ≤ sumF (escF lo) l := by
  induction l with
  | nil => simp [nBut] at hb
  | cons x t ih =>
    have e1 : sumF (escF lo) (x :: t) = escF lo x + sumF (escF lo) t := by simp [sumF]
    have h2 := (esc_le (lo := lo) (by omega) t).1
    have h3 := sz_pos (hn x List.mem_cons_self)
    cases hx : isB x with
    | true =>
      have : escF lo x = min lo (sz x) := by unfold escF; rw [hx, if_pos rfl]
      omega
    | false =>
      have e3 : escF lo x = 0 := by unfold escF; rw [hx, if_neg (by simp)]
      have e4 : nBut (x :: t) = nBut t := by simp [nBut, hx]
      have := ih (fun y hy => hn y (List.mem_cons_of_mem _ hy)) (by omega)
      omega
theorem nBut_nn (l : List Int) : 0 ≤ nBut l ∧ nBut l ≤ l.length := by
  unfold nBut
  have := List.length_filter_le isB l
  omega
theorem brk_le {f : Int} (lo : Int) (l : List Int) : 0 ≤ sumF (brF f lo) l ∧ sumF (brF f lo) l ≤ nBut l := by
  induction l with
  | nil => simp [sumF, nBut]
  | cons x t ih =>
    have e1 : sumF (brF f lo) (x :: t) = brF f lo x + sumF (brF f lo) t := by simp [sumF]
    cases hx : isB x with
    | true =>
      have e4 : nBut (x :: t) = nBut t + 1 := by simp [nBut, hx]
      have : 0 ≤ brF f lo x ∧ brF f lo x ≤ 1 := by unfold brF; split <;> omega
      omega
    | false =>
      have e4 : nBut (x :: t) = nBut t := by simp [nBut, hx]
      have : brF f lo x = 0 := by
        have z : rt f lo x ≠ 0 := by unfold rt; rw [hx, if_neg (by simp)]; omega
        unfold brF
        rw [if_neg z]
      omega
theorem brk_mono {f : Int} (hf : 2 ≤ f ∧ f ≤ 3) {lo : Int} (l : List Int) : sumF (brF f lo) l ≤ sumF (brF (f + 1) lo) l := by
  refine sumF_le (fun x _ => ?_)
  unfold brF rt
  have : f = 2 ∨ f = 3 := by omega
  rcases this with rfl | rfl <;> cases isB x <;> simp only [Bool.false_eq_true, if_true, if_false] <;> split <;> split <;> omega
theorem rollR_brk (f lo : Int) (l : List Int) : ∀ k, k ≤ l.length → (rollR f lo l k).2.1 = sumF (brF f lo) (l.take k) ∧ ((rollR f lo l k).1.length : Int) + (rollR f lo l k).2.1 + (rollR f lo l k).2.2.1 = k ∧ 0 ≤ (rollR f lo l k).2.2.1 := by
  intro k
  induction k with
  | zero => intro _; simp [rollR, sumF]
  | succ k ih =>
    intro hk
    obtain ⟨i1, i2, i3⟩ := ih (by omega)
    rw [sumF_s (by omega)]
    by_cases h : rt f lo (l.getD k 0) = 0
    · rw [rollR_t h]
      have : brF f lo (l.getD k 0) = 1 := by unfold brF; rw [if_pos h]
      refine ⟨by show (rollR f lo l k).2.1 + 1 = _; omega, ?_, i3⟩
      show ((rollR f lo l k).1.length : Int) + ((rollR f lo l k).2.1 + 1) + (rollR f lo l k).2.2.1 = ((k + 1 : Nat) : Int)
      omega
    · rw [rollR_f h]
      have e0 : brF f lo (l.getD k 0) = 0 := by unfold brF; rw [if_neg h]
      have hp : (((putN (rollR f lo l k).1 (rsg f lo (l.getD k 0)) (rollR f lo l k).2.2.2).1.length : Nat) : Int) + b2 (putN (rollR f lo l k).1 (rsg f lo (l.getD k 0)) (rollR f lo l k).2.2.2).2 = (rollR f lo l k).1.length + 1 ∧ 0 ≤ b2 (putN (rollR f lo l k).1 (rsg f lo (l.getD k 0)) (rollR f lo l k).2.2.2).2 := by
        unfold putN
        split
        · rename_i z
          have := (joins_t (Bool.and_eq_true_iff.mp z).2).1
          simp [b2]
        · simp [b2]
      refine ⟨by show (rollR f lo l k).2.1 = _; omega, ?_, ?_⟩
      · show (((putN (rollR f lo l k).1 (rsg f lo (l.getD k 0)) (rollR f lo l k).2.2.2).1.length : Nat) : Int) + (rollR f lo l k).2.1 + ((rollR f lo l k).2.2.1 + b2 (putN (rollR f lo l k).1 (rsg f lo (l.getD k 0)) (rollR f lo l k).2.2.2).2) = ((k + 1 : Nat) : Int)
        omega
      · show 0 ≤ (rollR f lo l k).2.2.1 + b2 (putN (rollR f lo l k).1 (rsg f lo (l.getD k 0)) (rollR f lo l k).2.2.2).2
        omega
theorem nBut_cons (x : Int) (t : List Int) : nBut (x :: t) = (if isB x then 1 else 0) + nBut t := by
  cases h : isB x <;> simp [nBut, h]; omega
theorem nBut_putN (l : List Int) (x : Int) (m : Bool) : nBut (putN l x m).1 ≤ nBut l + (if isB x then 1 else 0) := by
  unfold putN
  split
  · rename_i z
    obtain ⟨h0, h1⟩ := joins_t (Bool.and_eq_true_iff.mp z).2
    show nBut (l.set (l.length - 1) (lastL l + x)) ≤ _
    have e : nBut l = nBut (l.take (l.length - 1)) + nBut [lastL l] := by
      have := last_split h0
      rw [← nBut_app, ← this]
    have e2 : isB (lastL l + x) = isB (lastL l) := isB_add h1
    have e3 : nBut [lastL l + x] = nBut [lastL l] := by rw [nBut_cons, nBut_cons, e2]
    rw [set_last h0, nBut_app, e3, ← e]
    split <;> omega
  · show nBut (l ++ [x]) ≤ _
    rw [nBut_app, nBut_cons]
    simp [nBut]
theorem rollR_but {f lo : Int} (hf : 2 ≤ f ∧ f ≤ 4) (hl : 0 ≤ lo) (l : List Int) : ∀ k, k ≤ l.length → nBut (rollR f lo l k).1 + (rollR f lo l k).2.1 ≤ nBut (l.take k) := by
  intro k
  induction k with
  | zero => intro _; simp [rollR, nBut]
  | succ k ih =>
    intro hk
    have i1 := ih (by omega)
    have e : nBut (l.take (k + 1)) = nBut (l.take k) + (if isB (l.getD k 0) then 1 else 0) := by
      rw [take_s (by omega), nBut_app, nBut_cons]; simp [nBut]
    by_cases h : rt f lo (l.getD k 0) = 0
    · rw [rollR_t h, e]
      have hb : isB (l.getD k 0) = true := by
        cases hx : isB (l.getD k 0) with
        | true => rfl
        | false =>
          unfold rt at h
          rw [hx, if_neg (by simp)] at h
          omega
      rw [hb, if_pos rfl]
      show nBut (rollR f lo l k).1 + ((rollR f lo l k).2.1 + 1) ≤ _
      omega
    · rw [rollR_f h, e]
      have := nBut_putN (rollR f lo l k).1 (rsg f lo (l.getD k 0)) (rollR f lo l k).2.2.2
      rw [(rsg_sz hf hl h).1] at this
      show nBut (putN (rollR f lo l k).1 (rsg f lo (l.getD k 0)) (rollR f lo l k).2.2.2).1 + (rollR f lo l k).2.1 ≤ _
      omega
theorem roll_all {s : AS} {f m : Int} (hW : WS s) (hf : 2 ≤ f ∧ f ≤ 4) (hm : 0 ≤ m ∧ m ≤ 40) : hgt (rollS s f m).1 = sumF (rt f (loss s m)) s.1 ∧ (rollR f (loss s m) s.1 s.1.length).2.1 = sumF (brF f (loss s m)) s.1 ∧ ((rollS s f m).1.length : Int) ≤ s.1.length - sumF (brF f (loss s m)) s.1 ∧ nBut (rollS s f m).1 ≤ nBut s.1 - sumF (brF f (loss s m)) s.1
    ∧ ((rollS s f m).1.length : Int) = s.1.length - ((rollR f (loss s m) s.1 s.1.length).2.1 + (rollR f (loss s m) s.1 s.1.length).2.2.1) := by
  have hlo := loss_b hW.2.2.2 hm
  have h1 := (rollR_ok (l := s.1) hf hlo.1 s.1.length (Nat.le_refl _)).1
  obtain ⟨h2, h3, h4⟩ := rollR_brk f (loss s m) s.1 s.1.length (Nat.le_refl _)
  have h5 := rollR_but hf hlo.1 s.1 s.1.length (Nat.le_refl _)
  rw [take_all] at h1 h2 h5
  refine ⟨h1, h2, ?_, ?_, ?_⟩
  · show ((rollR f (loss s m) s.1 s.1.length).1.length : Int) ≤ _; omega
  · show nBut (rollR f (loss s m) s.1 s.1.length).1 ≤ _; omega
  · show ((rollR f (loss s m) s.1 s.1.length).1.length : Int) = _; omega
/-! temperatures -/
def cit : Nat → Int → Int
  | 0, w => w
  | n + 1, w => cooled (cit n w)
theorem cit_c (n : Nat) (w : Int) : cit (n + 1) w = cit n (cooled w) := by
  induction n with
  | zero => rfl
  | succ n ih => show cooled (cit (n + 1) w) = cooled (cit n (cooled w)); rw [ih]
theorem warm_cit {s : AS} (hc : s.2.2.2.2.2.2 = true) (r : Int) (n : Nat) : warmAt s r n = cit n s.2.2.1 := by
  induction n with
  | zero => rfl
  | succ n ih => rw [warmAt, if_pos hc, ih]; rfl
theorem cooled_le (w : Int) : cooled w ≤ w := by unfold cooled; split <;> omega
theorem cit_le (n : Nat) : ∀ w, cit n w ≤ w := by
  induction n with
  | zero => intro w; exact Int.le_refl _
  | succ n ih => intro w; rw [cit_c]; have := ih (cooled w); have := cooled_le w; omega
theorem safe_cit {m : Int} (hm : 5 ≤ m) : ∀ (n : Nat) (w : Int), w ≤ m + n → ∀ h : Nat, (cit h w ≤ m ↔ safeH m n w ≤ (h : Int)) := by
  intro n
  induction n with
  | zero =>
    intro w hw h
    have := cit_le h w
    constructor
    · intro _; show (0 : Int) ≤ h; omega
    · intro _; omega
  | succ n ih =>
    intro w hw h
    rw [safeH]
    by_cases c : m < w
    · rw [if_pos c]
      have hc : cooled w ≤ m + n := by unfold cooled; split <;> omega
      cases h with
      | zero =>
        have h0 : 0 ≤ safeH m n (cooled w) := by
          have : ∀ (n : Nat) (w : Int), 0 ≤ safeH m n w := by
            intro n
            induction n with
            | zero => intro w; exact Int.le_refl 0
            | succ n ih => intro w; rw [safeH]; split; have := ih (cooled w); omega; exact Int.le_refl 0
          exact this _ _
        constructor
        · intro z; exact absurd (show w ≤ m from z) (by omega)
        · intro z; exact absurd z (by show ¬ safeH m n (cooled w) + 1 ≤ ((0 : Nat) : Int); omega)
      | succ h =>
        rw [cit_c, ih (cooled w) hc h]
        omega
    · rw [if_neg c]
      have := cit_le h w
      constructor
      · intro _; show (0 : Int) ≤ h; omega
      · intro _; omega
theorem safe_0 (m : Int) (n : Nat) (w : Int) : safeH m (n + 1) w = 0 ↔ w ≤ m := by
  have : ∀ (n : Nat) (w : Int), 0 ≤ safeH m n w := by
    intro n
    induction n with
    | zero => intro w; exact Int.le_refl 0
    | succ n ih => intro w; rw [safeH]; split; have := ih (cooled w); omega; exact Int.le_refl 0
  rw [safeH]
  by_cases c : m < w
  · rw [if_pos c]; have := this n (cooled w); omega
  · rw [if_neg c]; omega
theorem safe_b (m : Int) (n : Nat) (w : Int) : 0 ≤ safeH m n w ∧ safeH m n w ≤ n := by
  induction n generalizing w with
  | zero => exact ⟨Int.le_refl 0, Int.le_refl 0⟩
  | succ n ih => rw [safeH]; split; have := ih (cooled w); omega; omega
