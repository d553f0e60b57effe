/-! ===== ints as whole numbers: iI z is the int of z; rows over them ===== -/
def iI (z : Int) : Int32 := Int32.ofInt z
def b2 (b : Bool) : Int := if b then 1 else 0
def in32 (z : Int) : Prop := -2147483648 ≤ z ∧ z < 2147483648
theorem iI_add (a b : Int) : iI a + iI b = iI (a + b) := (Int32.ofInt_add a b).symm
theorem iI_sub (a b : Int) : iI a - iI b = iI (a - b) := (Int32.ofInt_sub a b).symm
theorem iI_mul (a b : Int) : iI a * iI b = iI (a * b) := (Int32.ofInt_mul a b).symm
theorem iI_neg (a : Int) : - iI a = iI (-a) := (Int32.ofInt_neg a).symm
theorem iI_nat (n : Nat) : iI (n : Int) = nI n := Int32.ofInt_eq_ofNat
theorem iI_of (x : Int32) : iI x.toInt = x := Int32.ofInt_toInt x
theorem iI_toInt {z : Int} (h : in32 z) : (iI z).toInt = z := Int32.toInt_ofInt_of_le h.1 h.2
theorem in32_of (x : Int32) : in32 x.toInt := by
  have h1 := Int32.le_toInt x
  have h2 := Int32.toInt_lt x
  exact ⟨by omega, by omega⟩
theorem iI_lt {a b : Int} (ha : in32 a) (hb : in32 b) : iI a < iI b ↔ a < b := by
  rw [Int32.lt_iff_toInt_lt, iI_toInt ha, iI_toInt hb]
theorem iI_le {a b : Int} (ha : in32 a) (hb : in32 b) : iI a ≤ iI b ↔ a ≤ b := by
  rw [Int32.le_iff_toInt_le, iI_toInt ha, iI_toInt hb]
theorem iI_eq {a b : Int} (ha : in32 a) (hb : in32 b) : iI a = iI b ↔ a = b := by
  constructor
  · intro h
    have h1 := congrArg Int32.toInt h
    rwa [iI_toInt ha, iI_toInt hb] at h1
  · intro h
    rw [h]
theorem iI_0 : iI 0 = 0 := by decide
theorem iI_1 : iI 1 = 1 := by decide
theorem iI_div {a b : Int} (ha : in32 a) (hb : in32 b) (h0 : 0 ≤ a) (h1 : 0 < b) : iI a / iI b = iI (a / b) := by
  have hz : (iI a / iI b).toInt = a / b := by
    rw [Int32.toInt_div_of_ne_right _ _ (by
      intro h
      have h2 := congrArg Int32.toInt h
      rw [iI_toInt hb] at h2
      have h3 : (-1 : Int32).toInt = -1 := by decide
      omega), iI_toInt ha, iI_toInt hb, Int.tdiv_eq_ediv_of_nonneg h0]
  rw [← iI_of (iI a / iI b), hz]
theorem iI_ne0 {b : Int} (hb : in32 b) (h : b ≠ 0) : ¬ iI b = 0 := by
  rw [← iI_0, iI_eq hb ⟨by omega, by omega⟩]
  exact h
section INTS
variable {G : xG} {M : xM} {h : xH} {pc : Nat} {ls ls' : List (Nat × Value)} {st : List Value} {kc ks : Nat} {Q : xR → xH → Prop} {a b : Int} {i : Nat} {off : Int} {tgt : Nat}
theorem i_const (n : Int) (hd : decode M.2.1 pc = .ok (.iconst n, 1)) (k : RR G M (pc + 1) ls (.int (iI n) :: st) h kc ks Q) : RR G M pc ls st h kc ks Q := r_iconst hd rfl k
theorem i_bipush (n : Int) (hv : (Int8.ofInt n).toInt32 = iI n) (hd : decode M.2.1 pc = .ok (.bipush n, 2)) (k : RR G M (pc + 2) ls (.int (iI n) :: st) h kc ks Q) : RR G M pc ls st h kc ks Q := r_bipush hd hv k
theorem i_sipush (n : Int) (hv : (Int16.ofInt n).toInt32 = iI n) (hd : decode M.2.1 pc = .ok (.sipush n, 3)) (k : RR G M (pc + 3) ls (.int (iI n) :: st) h kc ks Q) : RR G M pc ls st h kc ks Q := r_sipush hd hv k
theorem i_ldc {idx : Nat} {v : Int32} (n : Int) (hv : v = iI n) (hw : Cond.constant M.1.cls idx v ∈ bg_L) (hd : decode M.2.1 pc = .ok (.ldc idx, 2)) (k : RR G M (pc + 2) ls (.int (iI n) :: st) h kc ks Q) : RR G M pc ls st h kc ks Q := r_ldc hw hd (by rw [hv]; exact k)
theorem i_add (hd : decode M.2.1 pc = .ok (.iadd, 1)) (k : RR G M (pc + 1) ls (.int (iI (a + b)) :: st) h kc ks Q) : RR G M pc ls (.int (iI b) :: .int (iI a) :: st) h kc ks Q := r_iadd hd (by rw [iI_add]; exact k)
theorem i_sub (hd : decode M.2.1 pc = .ok (.isub, 1)) (k : RR G M (pc + 1) ls (.int (iI (a - b)) :: st) h kc ks Q) : RR G M pc ls (.int (iI b) :: .int (iI a) :: st) h kc ks Q := r_isub hd (by rw [iI_sub]; exact k)
theorem i_mul (hd : decode M.2.1 pc = .ok (.imul, 1)) (k : RR G M (pc + 1) ls (.int (iI (a * b)) :: st) h kc ks Q) : RR G M pc ls (.int (iI b) :: .int (iI a) :: st) h kc ks Q := r_imul hd (by rw [iI_mul]; exact k)
theorem i_neg (hd : decode M.2.1 pc = .ok (.ineg, 1)) (k : RR G M (pc + 1) ls (.int (iI (-a)) :: st) h kc ks Q) : RR G M pc ls (.int (iI a) :: st) h kc ks Q := r_ineg hd (by rw [iI_neg]; exact k)
theorem i_div (hd : decode M.2.1 pc = .ok (.idiv, 1)) (ha : in32 a) (hb : in32 b) (h0 : 0 ≤ a) (h1 : 0 < b) (k : RR G M (pc + 1) ls (.int (iI (a / b)) :: st) h kc ks Q) : RR G M pc ls (.int (iI b) :: .int (iI a) :: st) h kc ks Q := r_idiv hd (iI_ne0 hb (by omega)) (by rw [iI_div ha hb h0 h1]; exact k)
theorem i_rem (hd : decode M.2.1 pc = .ok (.irem, 1)) (ha : in32 a) (hb : in32 b) (h0 : 0 ≤ a) (h1 : 0 < b) (k : RR G M (pc + 1) ls (.int (iI (a % b)) :: st) h kc ks Q) : RR G M pc ls (.int (iI b) :: .int (iI a) :: st) h kc ks Q := r_irem hd (iI_ne0 hb (by omega)) (by
  rw [iI_div ha hb h0 h1, iI_mul, iI_sub, Int.mul_comm (a / b) b, show a - b * (a / b) = a % b by rw [Int.emod_def]]; exact k)
theorem i_iinc (n : Int) {v : Int} (hd : decode M.2.1 pc = .ok (.iinc i n, 3)) (j : Nat) (hj : ls[j]? = some (i, .int (iI a))) (hv : a + n = v) (hn : i < M.2.2.1) (hs : x_set i (.int (iI v)) ls = ls') (k : RR G M (pc + 3) ls' st h kc ks Q) : RR G M pc ls st h kc ks Q := r_iinc hd j hj (show iI a + iI n = iI v by rw [iI_add, hv]) hn hs k
theorem i_ifeq (hd : decode M.2.1 pc = .ok (.ifCond .eq off, 3)) (ht : (pc : Int) + off = (tgt : Int)) (ha : in32 a) (kt : a = 0 → RR G M tgt ls st h kc ks Q) (kf : a ≠ 0 → RR G M (pc + 3) ls st h kc ks Q) : RR G M pc ls (.int (iI a) :: st) h kc ks Q := r_ifeq hd ht (fun z => kt ((iI_eq ha ⟨by decide, by decide⟩).mp (z.trans iI_0.symm))) (fun z => kf (fun e => z (by rw [e, iI_0])))
theorem i_ifne (hd : decode M.2.1 pc = .ok (.ifCond .ne off, 3)) (ht : (pc : Int) + off = (tgt : Int)) (ha : in32 a) (kt : a ≠ 0 → RR G M tgt ls st h kc ks Q) (kf : a = 0 → RR G M (pc + 3) ls st h kc ks Q) : RR G M pc ls (.int (iI a) :: st) h kc ks Q := r_ifne hd ht (fun z => kt (fun e => z (by rw [e, iI_0]))) (fun z => kf ((iI_eq ha ⟨by decide, by decide⟩).mp (z.trans iI_0.symm)))
theorem i_ifeqb {t : Bool} (hd : decode M.2.1 pc = .ok (.ifCond .eq off, 3)) (ht : (pc : Int) + off = (tgt : Int)) (kt : t = false → RR G M tgt ls st h kc ks Q) (kf : t = true → RR G M (pc + 3) ls st h kc ks Q) : RR G M pc ls (.int (iI (b2 t)) :: st) h kc ks Q := i_ifeq hd ht (by cases t <;> exact ⟨by decide, by decide⟩) (fun z => kt (by cases t; rfl; cases z)) (fun z => kf (by cases t; exact absurd rfl z; rfl))
theorem i_ifneb {t : Bool} (hd : decode M.2.1 pc = .ok (.ifCond .ne off, 3)) (ht : (pc : Int) + off = (tgt : Int)) (kt : t = true → RR G M tgt ls st h kc ks Q) (kf : t = false → RR G M (pc + 3) ls st h kc ks Q) : RR G M pc ls (.int (iI (b2 t)) :: st) h kc ks Q := i_ifne hd ht (by cases t <;> exact ⟨by decide, by decide⟩) (fun z => kt (by cases t; exact absurd rfl z; rfl)) (fun z => kf (by cases t; rfl; cases z))
theorem i_iflt (hd : decode M.2.1 pc = .ok (.ifCond .lt off, 3)) (ht : (pc : Int) + off = (tgt : Int)) (ha : in32 a) (kt : a < 0 → RR G M tgt ls st h kc ks Q) (kf : 0 ≤ a → RR G M (pc + 3) ls st h kc ks Q) : RR G M pc ls (.int (iI a) :: st) h kc ks Q := r_iflt hd ht (fun z => kt (by rw [← iI_0, iI_lt ha ⟨by decide, by decide⟩] at z; exact z)) (fun z => kf (by rw [← iI_0, iI_lt ha ⟨by decide, by decide⟩] at z; omega))
theorem i_ifge (hd : decode M.2.1 pc = .ok (.ifCond .ge off, 3)) (ht : (pc : Int) + off = (tgt : Int)) (ha : in32 a) (kt : 0 ≤ a → RR G M tgt ls st h kc ks Q) (kf : a < 0 → RR G M (pc + 3) ls st h kc ks Q) : RR G M pc ls (.int (iI a) :: st) h kc ks Q := r_ifge hd ht (fun z => kt (by rw [← iI_0, iI_le ⟨by decide, by decide⟩ ha] at z; exact z)) (fun z => kf (by rw [← iI_0, iI_le ⟨by decide, by decide⟩ ha] at z; omega))
theorem i_ifgt (hd : decode M.2.1 pc = .ok (.ifCond .gt off, 3)) (ht : (pc : Int) + off = (tgt : Int)) (ha : in32 a) (kt : 0 < a → RR G M tgt ls st h kc ks Q) (kf : a ≤ 0 → RR G M (pc + 3) ls st h kc ks Q) : RR G M pc ls (.int (iI a) :: st) h kc ks Q := r_ifgt hd ht (fun z => kt (by rw [← iI_0, iI_lt ⟨by decide, by decide⟩ ha] at z; exact z)) (fun z => kf (by rw [← iI_0, iI_lt ⟨by decide, by decide⟩ ha] at z; omega))
theorem i_ifle (hd : decode M.2.1 pc = .ok (.ifCond .le off, 3)) (ht : (pc : Int) + off = (tgt : Int)) (ha : in32 a) (kt : a ≤ 0 → RR G M tgt ls st h kc ks Q) (kf : 0 < a → RR G M (pc + 3) ls st h kc ks Q) : RR G M pc ls (.int (iI a) :: st) h kc ks Q := r_ifle hd ht (fun z => kt (by rw [← iI_0, iI_le ha ⟨by decide, by decide⟩] at z; exact z)) (fun z => kf (by rw [← iI_0, iI_le ha ⟨by decide, by decide⟩] at z; omega))
theorem i_icmpeq (hd : decode M.2.1 pc = .ok (.if_icmp .eq off, 3)) (ht : (pc : Int) + off = (tgt : Int)) (ha : in32 a) (hb : in32 b) (kt : a = b → RR G M tgt ls st h kc ks Q) (kf : a ≠ b → RR G M (pc + 3) ls st h kc ks Q) : RR G M pc ls (.int (iI b) :: .int (iI a) :: st) h kc ks Q := r_icmpeq hd ht (fun z => kt ((iI_eq ha hb).mp z)) (fun z => kf (fun e => z (by rw [e])))
theorem i_icmpne (hd : decode M.2.1 pc = .ok (.if_icmp .ne off, 3)) (ht : (pc : Int) + off = (tgt : Int)) (ha : in32 a) (hb : in32 b) (kt : a ≠ b → RR G M tgt ls st h kc ks Q) (kf : a = b → RR G M (pc + 3) ls st h kc ks Q) : RR G M pc ls (.int (iI b) :: .int (iI a) :: st) h kc ks Q := r_icmpne hd ht (fun z => kt (fun e => z (by rw [e]))) (fun z => kf ((iI_eq ha hb).mp z))
theorem i_icmplt (hd : decode M.2.1 pc = .ok (.if_icmp .lt off, 3)) (ht : (pc : Int) + off = (tgt : Int)) (ha : in32 a) (hb : in32 b) (kt : a < b → RR G M tgt ls st h kc ks Q) (kf : b ≤ a → RR G M (pc + 3) ls st h kc ks Q) : RR G M pc ls (.int (iI b) :: .int (iI a) :: st) h kc ks Q := r_icmplt hd ht (fun z => kt ((iI_lt ha hb).mp z)) (fun z => kf (by rw [iI_lt ha hb] at z; omega))
theorem i_icmpge (hd : decode M.2.1 pc = .ok (.if_icmp .ge off, 3)) (ht : (pc : Int) + off = (tgt : Int)) (ha : in32 a) (hb : in32 b) (kt : b ≤ a → RR G M tgt ls st h kc ks Q) (kf : a < b → RR G M (pc + 3) ls st h kc ks Q) : RR G M pc ls (.int (iI b) :: .int (iI a) :: st) h kc ks Q := r_icmpge hd ht (fun z => kt ((iI_le hb ha).mp z)) (fun z => kf (by rw [iI_le hb ha] at z; omega))
theorem i_icmpgt (hd : decode M.2.1 pc = .ok (.if_icmp .gt off, 3)) (ht : (pc : Int) + off = (tgt : Int)) (ha : in32 a) (hb : in32 b) (kt : b < a → RR G M tgt ls st h kc ks Q) (kf : a ≤ b → RR G M (pc + 3) ls st h kc ks Q) : RR G M pc ls (.int (iI b) :: .int (iI a) :: st) h kc ks Q := r_icmpgt hd ht (fun z => kt ((iI_lt hb ha).mp z)) (fun z => kf (by rw [iI_lt hb ha] at z; omega))
theorem i_icmple (hd : decode M.2.1 pc = .ok (.if_icmp .le off, 3)) (ht : (pc : Int) + off = (tgt : Int)) (ha : in32 a) (hb : in32 b) (kt : a ≤ b → RR G M tgt ls st h kc ks Q) (kf : b < a → RR G M (pc + 3) ls st h kc ks Q) : RR G M pc ls (.int (iI b) :: .int (iI a) :: st) h kc ks Q := r_icmple hd ht (fun z => kt ((iI_le ha hb).mp z)) (fun z => kf (by rw [iI_le ha hb] at z; omega))
theorem i_max {idx n : Nat} (hX : x_MX M idx n) (hst : (st.map fun v => v.category).sum = n) (hd : decode M.2.1 pc = .ok (.invokestatic idx, 3)) (ha : in32 a) (hb : in32 b) (k : RR G M (pc + 3) ls (.int (iI (max a b)) :: st) h kc ks Q) : RR G M pc ls (.int (iI b) :: .int (iI a) :: st) h kc ks Q := r_max hX hst hd (by
  have e : (if iI a < iI b then iI b else iI a) = iI (max a b) := by
    rw [Int.max_def]
    by_cases c : a < b
    · rw [if_pos ((iI_lt ha hb).mpr c), if_pos (by omega)]
    · rw [if_neg (fun z => c ((iI_lt ha hb).mp z))]
      by_cases c2 : a ≤ b
      · rw [if_pos c2, show a = b by omega]
      · rw [if_neg c2]
  rw [e]; exact k)
theorem i_min {idx n : Nat} (hX : x_MN M idx n) (hst : (st.map fun v => v.category).sum = n) (hd : decode M.2.1 pc = .ok (.invokestatic idx, 3)) (ha : in32 a) (hb : in32 b) (k : RR G M (pc + 3) ls (.int (iI (min a b)) :: st) h kc ks Q) : RR G M pc ls (.int (iI b) :: .int (iI a) :: st) h kc ks Q := r_min hX hst hd (by
  have e : (if iI b < iI a then iI b else iI a) = iI (min a b) := by
    rw [Int.min_def]
    by_cases c : b < a
    · rw [if_pos ((iI_lt hb ha).mpr c), if_neg (by omega)]
    · rw [if_neg (fun z => c ((iI_lt hb ha).mp z)), if_pos (by omega)]
  rw [e]; exact k)
/-! arrays, by a number that is known to lie within -/
theorem i_iald {ar n : Nat} {g : Nat → Int32} {e : Int} (k : Nat) (he : e = (k : Int)) (hd : decode M.2.1 pc = .ok (.iaload, 1)) (ha : ar ∈ h.1) (hf : h.2 ar = .inl (G.2.1 0, n, .inl g)) (hk : k < n) (hn : n < 2 ^ 31) {v : Int32} (hv : g k = v) (kk : RR G M (pc + 1) ls (.int v :: st) h kc ks Q) : RR G M pc ls (.int (iI e) :: .ref ar :: st) h kc ks Q := r_iald k (by rw [he, iI_nat]) hd ha hf hk hn (by rw [hv]; exact kk)
theorem i_zald {ar n : Nat} {g : Nat → Int32} {e : Int} (k : Nat) (he : e = (k : Int)) (hd : decode M.2.1 pc = .ok (.baload, 1)) (ha : ar ∈ h.1) (hf : h.2 ar = .inl (G.2.1 1, n, .inl g)) (hk : k < n) (hn : n < 2 ^ 31) {v : Int32} (hv : g k = v) (kk : RR G M (pc + 1) ls (.int v :: st) h kc ks Q) : RR G M pc ls (.int (iI e) :: .ref ar :: st) h kc ks Q := r_zald k (by rw [he, iI_nat]) hd ha hf hk hn (by rw [hv]; exact kk)
theorem i_aald {ar n t : Nat} {C : String} {g : Nat → Option Nat} {e : Int} (ht : (x_tys G.2.1)[t]? = some (G.2.1 t, .object C)) (k : Nat) (he : e = (k : Int)) (hd : decode M.2.1 pc = .ok (.aaload, 1)) (ha : ar ∈ h.1) (hf : h.2 ar = .inl (G.2.1 t, n, .inr (.inr (.inr (.inr g))))) (hk : k < n) (hn : n < 2 ^ 31) {v : Nat} (hv : g k = some v) (kk : RR G M (pc + 1) ls (.ref v :: st) h kc ks Q) : RR G M pc ls (.int (iI e) :: .ref ar :: st) h kc ks Q := r_aald ht k (by rw [he, iI_nat]) hd ha hf hk hn (by rw [hv]; rfl) kk
/-- a write, by what the new heap is told of -/
theorem w_heap {pc' : Nat} {ls2 : List (Nat × Value)} {ar : Nat} {e : va_E} (k : ∀ h1 : xH, h1.1 = h.1 → h1.2 ar = e → (∀ q, q ≠ ar → h1.2 q = h.2 q) → RR G M pc' ls2 st h1 kc ks Q) : RR G M pc' ls2 st (h.1, va_up h.2 ar e) kc ks Q := k _ rfl (va_up_self _ _ _) (fun q hq => va_up_ne _ _ hq)
theorem i_iast {ar n : Nat} {g : Nat → Int32} {e : Int} {x : Int32} (k : Nat) (he : e = (k : Int)) (hd : decode M.2.1 pc = .ok (.iastore, 1)) (ha : ar ∈ h.1) (hf : h.2 ar = .inl (G.2.1 0, n, .inl g)) (hk : k < n) (hn : n < 2 ^ 31) (kk : ∀ h1 : xH, h1.1 = h.1 → h1.2 ar = .inl (G.2.1 0, n, .inl (upd g k x)) → (∀ q, q ≠ ar → h1.2 q = h.2 q) → RR G M (pc + 1) ls st h1 kc ks Q) : RR G M pc ls (.int x :: .int (iI e) :: .ref ar :: st) h kc ks Q := r_iast k (by rw [he, iI_nat]) hd ha hf hk hn (w_heap kk)
theorem i_zast {ar n : Nat} {g : Nat → Int32} {e : Int} {x : Int32} (k : Nat) (he : e = (k : Int)) (hd : decode M.2.1 pc = .ok (.bastore, 1)) (ha : ar ∈ h.1) (hf : h.2 ar = .inl (G.2.1 1, n, .inl g)) (hk : k < n) (hn : n < 2 ^ 31) (hx : vp_nar .boolean x = x) (kk : ∀ h1 : xH, h1.1 = h.1 → h1.2 ar = .inl (G.2.1 1, n, .inl (upd g k x)) → (∀ q, q ≠ ar → h1.2 q = h.2 q) → RR G M (pc + 1) ls st h1 kc ks Q) : RR G M pc ls (.int x :: .int (iI e) :: .ref ar :: st) h kc ks Q := r_zast k (by rw [he, iI_nat]) hd ha hf hk hn hx (w_heap kk)
theorem i_aast {ar n t ci v : Nat} {r : vw_C} {vs : List Value} {g : Nat → Option Nat} {e : Int} (ht : (x_tys G.2.1)[t]? = some (G.2.1 t, .object r.1)) (k : Nat) (he : e = (k : Int)) (hd : decode M.2.1 pc = .ok (.aastore, 1)) (ha : ar ∈ h.1) (hf : h.2 ar = .inl (G.2.1 t, n, .inr (.inr (.inr (.inr g))))) (hk : k < n) (hn : n < 2 ^ 31) (hb : v ∈ h.1) (hfb : h.2 v = .inr (ci, vs)) (hc : vwCl[ci]? = some r) (kk : ∀ h1 : xH, h1.1 = h.1 → h1.2 ar = .inl (G.2.1 t, n, .inr (.inr (.inr (.inr (va_up g k (some v)))))) → (∀ q, q ≠ ar → h1.2 q = h.2 q) → RR G M (pc + 1) ls st h1 kc ks Q) : RR G M pc ls (.ref v :: .int (iI e) :: .ref ar :: st) h kc ks Q := r_aast ht k (by rw [he, iI_nat]) hd ha hf hk hn hb hfb hc (w_heap kk)
theorem i_put {ci idx ar : Nat} {C : String} {T : u_T} {N : Nat} {ty : Nat → FieldType} {fs : List Value} {v : Value} (fs' : List Value) (hC : x_CL ci C T N ty) (k : Nat) (hk : k < N) (hl : Cond.fieldLink M.1.cls idx (T k).1 (T k).2.1 (T k).2.2.1 ∈ bg_L) (hfin : (T k).2.2.2 = false) (hd : decode M.2.1 pc = .ok (.putfield idx, 3)) (ha : ar ∈ h.1) (hf : h.2 ar = .inr (ci, fs)) (hn : narrow (ty k) v = v) (hfit : fits (ty k) v = true) (hlen : k < fs.length) (hset : fs.set k v = fs')
    (kk : ∀ h1 : xH, h1.1 = h.1 → h1.2 ar = .inr (ci, fs') → (∀ q, q ≠ ar → h1.2 q = h.2 q) → RR G M (pc + 3) ls st h1 kc ks Q) : RR G M pc ls (v :: .ref ar :: st) h kc ks Q := r_put hC k hk hl hfin hd ha hf hn hfit hlen hset (w_heap kk)
theorem i_putF {ci idx ar : Nat} {C : String} {T : u_T} {N : Nat} {ty : Nat → FieldType} {fs : List Value} {v : Value} (fs' : List Value) (hC : x_CL ci C T N ty) (k : Nat) (hk : k < N) (hl : Cond.fieldLink M.1.cls idx (T k).1 (T k).2.1 (T k).2.2.1 ∈ bg_L) (hfin : (T k).2.2.2 = true) (hin : M.1.name = "<init>") (hown : (T k).1 = M.1.cls) (hd : decode M.2.1 pc = .ok (.putfield idx, 3)) (ha : ar ∈ h.1) (hf : h.2 ar = .inr (ci, fs)) (hn : narrow (ty k) v = v) (hfit : fits (ty k) v = true) (hlen : k < fs.length) (hset : fs.set k v = fs')
    (kk : ∀ h1 : xH, h1.1 = h.1 → h1.2 ar = .inr (ci, fs') → (∀ q, q ≠ ar → h1.2 q = h.2 q) → RR G M (pc + 3) ls st h1 kc ks Q) : RR G M pc ls (v :: .ref ar :: st) h kc ks Q := r_putF hC k hk hl hfin hin hown hd ha hf hn hfit hlen hset (w_heap kk)
end INTS
theorem b2_nar (t : Bool) : narrow .boolean (.int (iI (b2 t))) = .int (iI (b2 t)) := by cases t <;> rfl
theorem b2_fit (t : Bool) : fits .boolean (.int (iI (b2 t))) = true := by cases t <;> rfl
theorem b2_vp (t : Bool) : vp_nar .boolean (iI (b2 t)) = iI (b2 t) := by cases t <;> rfl
theorem in32_b2 (t : Bool) : in32 (b2 t) := by cases t <;> exact ⟨by decide, by decide⟩
