/-! ===== quotients of whole numbers are numbers ===== -/
def gdt (f : Jvm.FP.Core.Fmt) : Jvm.FP.Core.Datum → Prop
  | .nan => False
  | .inf _ => True
  | .fin _ c q => c < 2 ^ f.p ∧ q ≤ f.qmax
theorem gd_bound {f : Jvm.FP.Core.Fmt} {s : Bool} {c : Nat} {q : Int} (h : c < 2 ^ f.p) : gdt f (Jvm.FP.Core.bound f s c q) := by
  unfold Jvm.FP.Core.bound
  split
  · exact ⟨h, ‹_›⟩
  · exact True.intro
theorem gd_settle {f : Jvm.FP.Core.Fmt} (ht : f.tails < 2 ^ f.p) {s : Bool} {c : Nat} {q : Int} : gdt f (Jvm.FP.Core.settle f s c q) := by
  unfold Jvm.FP.Core.settle
  split
  · exact gd_bound ‹_›
  · exact gd_bound ht
theorem gd_ratio {f : Jvm.FP.Core.Fmt} (ht : f.tails < 2 ^ f.p) (hq : f.qmin ≤ f.qmax) {s : Bool} {n d : Nat} {e : Int} : gdt f (Jvm.FP.Core.roundRatio f s n d e) := by
  unfold Jvm.FP.Core.roundRatio
  split
  · exact ⟨Nat.two_pow_pos _, hq⟩
  · exact gd_settle ht
theorem gd_quot {f : Jvm.FP.Core.Fmt} (ht : f.tails < 2 ^ f.p) (hq : f.qmin ≤ f.qmax) {x : Jvm.FP.Core.Datum} (hx : x ≠ .nan) {t : Bool} {d : Nat} {r : Int} (hd : d ≠ 0) : gdt f (Jvm.FP.Core.quotient f x (.fin t d r)) := by
  cases x with
  | nan => exact absurd rfl hx
  | inf s => exact True.intro
  | fin s c q =>
    show gdt f (if d = 0 then _ else _)
    rw [if_neg hd]
    exact gd_ratio ht hq
def okA (f : Jvm.FP.Core.Fmt) (n : Nat) : Bool := match Jvm.FP.Core.decode f n with | .nan => false | _ => true
def okB (f : Jvm.FP.Core.Fmt) (n : Nat) : Bool := match Jvm.FP.Core.decode f n with | .fin _ d _ => d != 0 | _ => false
theorem gd_div {f : Jvm.FP.Core.Fmt} (ht : f.tails < 2 ^ f.p) (hq : f.qmin ≤ f.qmax) {m n : Nat} (hm : okA f m = true) (hn : okB f n = true) : gdt f (Jvm.FP.Core.quotient f (Jvm.FP.Core.decode f m) (Jvm.FP.Core.decode f n)) := by
  unfold okB at hn
  cases e : Jvm.FP.Core.decode f n with
  | nan => rw [e] at hn; cases hn
  | inf s => rw [e] at hn; cases hn
  | fin t d r =>
    rw [e] at hn
    refine gd_quot ht hq (fun z => ?_) (by simpa using hn)
    unfold okA at hm
    rw [z] at hm
    cases hm
theorem gd_e32 {d : Jvm.FP.Core.Datum} (h : gdt Jvm.FP.Core.b32 d) : Jvm.FP.Core.encode Jvm.FP.Core.b32 d % 2147483648 ≤ 2139095040 := by
  cases d with
  | nan => exact h.elim
  | inf s => cases s <;> decide
  | fin s c q =>
    obtain ⟨h1, h2⟩ := h
    have h1 : c < 16777216 := h1
    have h2 : q ≤ 104 := h2
    show (if c < 8388608 then (s.toNat * 256 + 0) * 8388608 + c else (s.toNat * 256 + ((q - (-149)).toNat + 1)) * 8388608 + (c - 8388608)) % 2147483648 ≤ 2139095040
    cases s <;> (show (if c < 8388608 then ((_ : Nat) * 256 + 0) * 8388608 + c else _) % 2147483648 ≤ 2139095040) <;> split <;> simp only [Bool.toNat_true, Bool.toNat_false] <;> omega
theorem gd_e64 {d : Jvm.FP.Core.Datum} (h : gdt Jvm.FP.Core.b64 d) : Jvm.FP.Core.encode Jvm.FP.Core.b64 d % 9223372036854775808 ≤ 9218868437227405312 := by
  cases d with
  | nan => exact h.elim
  | inf s => cases s <;> decide
  | fin s c q =>
    obtain ⟨h1, h2⟩ := h
    have h1 : c < 9007199254740992 := h1
    have h2 : q ≤ 971 := h2
    show (if c < 4503599627370496 then (s.toNat * 2048 + 0) * 4503599627370496 + c else (s.toNat * 2048 + ((q - (-1074)).toNat + 1)) * 4503599627370496 + (c - 4503599627370496)) % 9223372036854775808 ≤ 9218868437227405312
    cases s <;> (show (if c < 4503599627370496 then ((_ : Nat) * 2048 + 0) * 4503599627370496 + c else _) % 9223372036854775808 ≤ 9218868437227405312) <;> split <;> simp only [Bool.toNat_true, Bool.toNat_false] <;> omega
theorem ok_32 : (List.range 4001).all (fun n => okA Jvm.FP.Core.b32 (FP.i2f (iI (n : Int))).toNat && (n == 0 || okB Jvm.FP.Core.b32 (FP.i2f (iI (n : Int))).toNat)) = true := by decide +kernel
theorem ok_64 : (List.range 4001).all (fun n => okA Jvm.FP.Core.b64 (FP.i2d (iI (n : Int))).toNat && (n == 0 || okB Jvm.FP.Core.b64 (FP.i2d (iI (n : Int))).toNat)) = true := by decide +kernel
theorem n32_of {d : Nat} (h : d % 2147483648 ≤ 2139095040) : vf_n32 (UInt32.ofNat d) := by
  have e : (UInt32.ofNat d &&& 0x7fffffff).toNat = d % 2147483648 := by
    rw [UInt32.toNat_and]
    show (d % 2 ^ 32) &&& (2 ^ 31 - 1) = _
    rw [Nat.and_two_pow_sub_one_eq_mod]
    omega
  show (UInt32.ofNat d &&& 0x7fffffff) ≤ 0x7f800000
  rw [UInt32.le_iff_toNat_le, e]
  exact h
theorem n64_of {d : Nat} (h : d % 9223372036854775808 ≤ 9218868437227405312) : vf_n64 (UInt64.ofNat d) := by
  have e : (UInt64.ofNat d &&& 0x7fffffffffffffff).toNat = d % 9223372036854775808 := by
    rw [UInt64.toNat_and]
    show (d % 2 ^ 64) &&& (2 ^ 63 - 1) = _
    rw [Nat.and_two_pow_sub_one_eq_mod]
    omega
  show (UInt64.ofNat d &&& 0x7fffffffffffffff) ≤ 0x7ff0000000000000
  rw [UInt64.le_iff_toNat_le, e]
  exact h
theorem ok_32n {a : Int} (ha : 0 ≤ a ∧ a ≤ 4000) : okA Jvm.FP.Core.b32 (FP.i2f (iI a)).toNat = true ∧ (1 ≤ a → okB Jvm.FP.Core.b32 (FP.i2f (iI a)).toNat = true) := by
  obtain ⟨n, rfl⟩ : ∃ n : Nat, a = (n : Int) := ⟨a.toNat, by omega⟩
  have z := List.all_eq_true.mp ok_32 n (List.mem_range.mpr (by omega))
  rw [Bool.and_eq_true, Bool.or_eq_true] at z
  exact ⟨z.1, fun h => z.2.resolve_left (fun e => by have : n = 0 := by simpa using e
                                                     omega)⟩
theorem ok_64n {a : Int} (ha : 0 ≤ a ∧ a ≤ 4000) : okA Jvm.FP.Core.b64 (FP.i2d (iI a)).toNat = true ∧ (1 ≤ a → okB Jvm.FP.Core.b64 (FP.i2d (iI a)).toNat = true) := by
  obtain ⟨n, rfl⟩ : ∃ n : Nat, a = (n : Int) := ⟨a.toNat, by omega⟩
  have z := List.all_eq_true.mp ok_64 n (List.mem_range.mpr (by omega))
  rw [Bool.and_eq_true, Bool.or_eq_true] at z
  exact ⟨z.1, fun h => z.2.resolve_left (fun e => by have : n = 0 := by simpa using e
                                                     omega)⟩
theorem nan_32 {a b : Int} (ha : 0 ≤ a ∧ a ≤ 4000) (hb : 1 ≤ b ∧ b ≤ 4000) : vf_n32 (FP.fdiv (FP.i2f (iI a)) (FP.i2f (iI b))) :=
  n32_of (gd_e32 (gd_div (by decide) (by decide) (ok_32n ha).1 ((ok_32n (by omega)).2 hb.1)))
theorem nan_64 {a b : Int} (ha : 0 ≤ a ∧ a ≤ 4000) (hb : 1 ≤ b ∧ b ≤ 4000) : vf_n64 (FP.ddiv (FP.i2d (iI a)) (FP.i2d (iI b))) :=
  n64_of (gd_e64 (gd_div (by decide) (by decide) (ok_64n ha).1 ((ok_64n (by omega)).2 hb.1)))
