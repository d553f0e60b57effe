/-! ===== bytes in words ===== -/
theorem iN_bv (n : Nat) : (iI (n : Int)).toBitVec = BitVec.ofNat 32 n := by rw [iI_nat]; rfl
theorem iN_or (a c : Nat) : iI (a : Int) ||| iI (c : Int) = iI ((a ||| c : Nat) : Int) := by
  apply Int32.toBitVec_inj.1
  rw [Int32.toBitVec_or, iN_bv, iN_bv, iN_bv, BitVec.ofNat_or]
theorem bv_shl (b s : Nat) (hb : b < 128) (hs : s ≤ 24) : BitVec.ofNat 32 b <<< s = BitVec.ofNat 32 (b * 2 ^ s) := by
  apply BitVec.eq_of_toNat_eq
  rw [BitVec.toNat_shiftLeft, BitVec.toNat_ofNat, BitVec.toNat_ofNat, Nat.shiftLeft_eq, Nat.mod_eq_of_lt (by omega : b < 2 ^ 32)]
def sh4 (n : Nat) : Nat := 24 - 8 * (n % 4)
theorem iN_shl (n b : Nat) (hb : b < 128) : iI (b : Int) <<< (iI (24 - 8 * ((n : Int) % 4)) &&& 31) = iI ((b * 2 ^ sh4 n : Nat) : Int) := by
  apply Int32.toBitVec_inj.1
  rcases (show n % 4 = 0 ∨ n % 4 = 1 ∨ n % 4 = 2 ∨ n % 4 = 3 by omega) with e | e | e | e
  · have e1 : ((iI 24 &&& 31 : Int32).toBitVec.smod 32#32).toNat = 24 := by decide +kernel
    rw [show (24 : Int) - 8 * ((n : Int) % 4) = 24 by omega, show sh4 n = 24 by unfold sh4; omega, iN_bv]
    show (iI (b : Int)).toBitVec <<< ((iI 24 &&& 31 : Int32).toBitVec.smod 32#32).toNat = _
    rw [e1, iN_bv, bv_shl b 24 hb (by decide)]
  · have e1 : ((iI 16 &&& 31 : Int32).toBitVec.smod 32#32).toNat = 16 := by decide +kernel
    rw [show (24 : Int) - 8 * ((n : Int) % 4) = 16 by omega, show sh4 n = 16 by unfold sh4; omega, iN_bv]
    show (iI (b : Int)).toBitVec <<< ((iI 16 &&& 31 : Int32).toBitVec.smod 32#32).toNat = _
    rw [e1, iN_bv, bv_shl b 16 hb (by decide)]
  · have e1 : ((iI 8 &&& 31 : Int32).toBitVec.smod 32#32).toNat = 8 := by decide +kernel
    rw [show (24 : Int) - 8 * ((n : Int) % 4) = 8 by omega, show sh4 n = 8 by unfold sh4; omega, iN_bv]
    show (iI (b : Int)).toBitVec <<< ((iI 8 &&& 31 : Int32).toBitVec.smod 32#32).toNat = _
    rw [e1, iN_bv, bv_shl b 8 hb (by decide)]
  · have e1 : ((iI 0 &&& 31 : Int32).toBitVec.smod 32#32).toNat = 0 := by decide +kernel
    rw [show (24 : Int) - 8 * ((n : Int) % 4) = 0 by omega, show sh4 n = 0 by unfold sh4; omega, iN_bv]
    show (iI (b : Int)).toBitVec <<< ((iI 0 &&& 31 : Int32).toBitVec.smod 32#32).toNat = _
    rw [e1, iN_bv, bv_shl b 0 hb (by decide)]
theorem and255_v (y : Int32) (m : Nat) (h : y.toBitVec.toNat = m) : (y &&& iI 255).toInt = ((m % 256 : Nat) : Int) := by
  have hm : y.toBitVec.toNat &&& (iI 255).toBitVec.toNat = m % 256 := by
    rw [h, show (iI 255).toBitVec.toNat = 2 ^ 8 - 1 by decide, Nat.and_two_pow_sub_one_eq_mod]
  have e : (y &&& iI 255).toInt = (((y &&& iI 255).toBitVec.toNat : Nat) : Int) := by
    rw [← Int32.toInt_toBitVec, BitVec.toInt_eq_toNat_of_lt]
    rw [Int32.toBitVec_and, BitVec.toNat_and, hm]
    omega
  rw [e, Int32.toBitVec_and, BitVec.toNat_and, hm]
theorem byA_n {n : Nat} (hn : n < 2 ^ 31) : byA (iI (n : Int)) 24 = ((n / 2 ^ 24 % 256 : Nat) : Int) ∧ byA (iI (n : Int)) 16 = ((n / 2 ^ 16 % 256 : Nat) : Int) ∧ byA (iI (n : Int)) 8 = ((n / 2 ^ 8 % 256 : Nat) : Int) ∧ byA (iI (n : Int)) 0 = ((n / 2 ^ 0 % 256 : Nat) : Int) := by
  have hv : (iI (n : Int)).toBitVec.toNat = n := by rw [iN_bv, BitVec.toNat_ofNat, Nat.mod_eq_of_lt (by omega)]
  refine ⟨and255_v _ _ ?_, and255_v _ _ ?_, and255_v _ _ ?_, and255_v _ _ ?_⟩
  · have e2 : (((iI 24).toUInt32 &&& Int32.toUInt32 31) % 32).toBitVec.toNat = 24 := by decide +kernel
    show ((iI (n : Int)).toBitVec >>> (((iI 24).toUInt32 &&& Int32.toUInt32 31) % 32).toBitVec.toNat).toNat = _
    rw [e2, BitVec.toNat_ushiftRight, hv, Nat.shiftRight_eq_div_pow]
  · have e2 : (((iI 16).toUInt32 &&& Int32.toUInt32 31) % 32).toBitVec.toNat = 16 := by decide +kernel
    show ((iI (n : Int)).toBitVec >>> (((iI 16).toUInt32 &&& Int32.toUInt32 31) % 32).toBitVec.toNat).toNat = _
    rw [e2, BitVec.toNat_ushiftRight, hv, Nat.shiftRight_eq_div_pow]
  · have e2 : (((iI 8).toUInt32 &&& Int32.toUInt32 31) % 32).toBitVec.toNat = 8 := by decide +kernel
    show ((iI (n : Int)).toBitVec >>> (((iI 8).toUInt32 &&& Int32.toUInt32 31) % 32).toBitVec.toNat).toNat = _
    rw [e2, BitVec.toNat_ushiftRight, hv, Nat.shiftRight_eq_div_pow]
  · have e2 : (((iI 0).toUInt32 &&& Int32.toUInt32 31) % 32).toBitVec.toNat = 0 := by decide +kernel
    show ((iI (n : Int)).toBitVec >>> (((iI 0).toUInt32 &&& Int32.toUInt32 31) % 32).toBitVec.toNat).toNat = _
    rw [e2, BitVec.toNat_ushiftRight, hv, Nat.shiftRight_eq_div_pow]
/-- four bytes as one number -/
def pkN (l : List Int) (j : Nat) : Nat := (l.getD (4 * j) 0).toNat * 2 ^ 24 + (l.getD (4 * j + 1) 0).toNat * 2 ^ 16 + (l.getD (4 * j + 2) 0).toNat * 2 ^ 8 + (l.getD (4 * j + 3) 0).toNat
/-- bytes from 0 to 127 -/
def B7 (l : List Int) : Prop := ∀ i, 0 ≤ l.getD i 0 ∧ l.getD i 0 < 128
theorem B7.of {l : List Int} (h : ∀ c ∈ l, 0 ≤ c ∧ c < 128) : B7 l := by
  intro i
  by_cases hi : i < l.length
  · rw [getD_eq hi]; exact h _ (List.getElem_mem hi)
  · have e : l.getD i 0 = 0 := by simp [Nat.not_lt.mp hi]
    rw [e]; omega
theorem words4_pk {l : List Int} (hl : B7 l) (j : Nat) : words4 (iI ((pkN l j : Nat) : Int)) = [l.getD (4 * j) 0, l.getD (4 * j + 1) 0, l.getD (4 * j + 2) 0, l.getD (4 * j + 3) 0] := by
  have h0 := hl (4 * j)
  have h1 := hl (4 * j + 1)
  have h2 := hl (4 * j + 2)
  have h3 := hl (4 * j + 3)
  unfold words4
  have hp : pkN l j = (l.getD (4 * j) 0).toNat * 16777216 + (l.getD (4 * j + 1) 0).toNat * 65536 + (l.getD (4 * j + 2) 0).toNat * 256 + (l.getD (4 * j + 3) 0).toNat := rfl
  obtain ⟨b0, b1, b2, b3⟩ := byA_n (n := pkN l j) (by omega)
  rw [b0, b1, b2, b3]
  generalize l.getD (4 * j) 0 = a at *
  generalize l.getD (4 * j + 1) 0 = b at *
  generalize l.getD (4 * j + 2) 0 = c at *
  generalize l.getD (4 * j + 3) 0 = d at *
  rw [hp]
  congr 1
  · omega
  congr 1
  · omega
  congr 1
  · omega
  congr 1
  omega
theorem getD_app1 (l : List Int) (z : Int) (i : Nat) : (l ++ [z]).getD i 0 = if i < l.length then l.getD i 0 else if i = l.length then z else 0 := by
  rw [List.getD_eq_getElem?_getD, List.getD_eq_getElem?_getD]
  by_cases h : i < l.length
  · rw [if_pos h, List.getElem?_append_left h]
  · rw [if_neg h, List.getElem?_append_right (by omega)]
    by_cases e : i = l.length
    · rw [if_pos e, e]; simp
    · rw [if_neg e, List.getElem?_eq_none (by simp; omega)]; rfl
theorem getD_out {l : List Int} {i : Nat} (h : l.length ≤ i) : l.getD i 0 = 0 := by simp [h]
theorem pk_ne {l : List Int} {z : Int} {j : Nat} (h : j ≠ l.length / 4) : pkN (l ++ [z]) j = pkN l j := by
  have e : ∀ t, t < 4 → (l ++ [z]).getD (4 * j + t) 0 = l.getD (4 * j + t) 0 := by
    intro t ht
    rw [getD_app1]
    by_cases c : 4 * j + t < l.length
    · rw [if_pos c]
    · rw [if_neg c, if_neg (by omega), getD_out (by omega)]
  unfold pkN
  rw [show 4 * j = 4 * j + 0 from rfl, e 0 (by decide), e 1 (by decide), e 2 (by decide), e 3 (by decide)]
theorem pkN_eq {l : List Int} {z : Int} (hl : B7 l) (hz : 0 ≤ z ∧ z < 128) : pkN l (l.length / 4) ||| (z.toNat * 2 ^ sh4 l.length) = pkN (l ++ [z]) (l.length / 4) := by
  have h0 := hl (4 * (l.length / 4))
  have h1 := hl (4 * (l.length / 4) + 1)
  have h2 := hl (4 * (l.length / 4) + 2)
  have hzn : z.toNat < 128 := by omega
  have hA := getD_app1 l z
  rcases (show l.length % 4 = 0 ∨ l.length % 4 = 1 ∨ l.length % 4 = 2 ∨ l.length % 4 = 3 by omega) with e | e | e | e
  · have e0 : pkN l (l.length / 4) = 0 := by
      unfold pkN
      rw [getD_out (by omega), getD_out (by omega), getD_out (by omega), getD_out (by omega)]; rfl
    have e1 : pkN (l ++ [z]) (l.length / 4) = z.toNat * 2 ^ 24 := by
      unfold pkN
      rw [hA, hA, hA, hA, if_neg (by omega), if_pos (by omega), if_neg (by omega), if_neg (by omega), if_neg (by omega), if_neg (by omega), if_neg (by omega), if_neg (by omega)]
      simp
    rw [e0, e1, Nat.zero_or, show sh4 l.length = 24 by unfold sh4; omega]
  · have e0 : pkN l (l.length / 4) = 2 ^ 24 * (l.getD (4 * (l.length / 4)) 0).toNat := by
      unfold pkN
      rw [getD_out (i := 4 * (l.length / 4) + 1) (by omega), getD_out (i := 4 * (l.length / 4) + 2) (by omega), getD_out (i := 4 * (l.length / 4) + 3) (by omega)]
      show _ * 2 ^ 24 + 0 * 2 ^ 16 + 0 * 2 ^ 8 + 0 = _
      omega
    have e1 : pkN (l ++ [z]) (l.length / 4) = 2 ^ 24 * (l.getD (4 * (l.length / 4)) 0).toNat + z.toNat * 2 ^ 16 := by
      unfold pkN
      rw [hA, hA, hA, hA, if_pos (by omega), if_neg (by omega), if_pos (by omega), if_neg (by omega), if_neg (by omega), if_neg (by omega), if_neg (by omega)]
      show _ * 2 ^ 24 + _ * 2 ^ 16 + 0 * 2 ^ 8 + 0 = _
      omega
    rw [e0, e1, show sh4 l.length = 16 by unfold sh4; omega, Nat.two_pow_add_eq_or_of_lt (by omega)]
  · have e0 : pkN l (l.length / 4) = 2 ^ 16 * ((l.getD (4 * (l.length / 4)) 0).toNat * 2 ^ 8 + (l.getD (4 * (l.length / 4) + 1) 0).toNat) := by
      unfold pkN
      rw [getD_out (i := 4 * (l.length / 4) + 2) (by omega), getD_out (i := 4 * (l.length / 4) + 3) (by omega)]
      show _ * 2 ^ 24 + _ * 2 ^ 16 + 0 * 2 ^ 8 + 0 = _
      omega
    have e1 : pkN (l ++ [z]) (l.length / 4) = 2 ^ 16 * ((l.getD (4 * (l.length / 4)) 0).toNat * 2 ^ 8 + (l.getD (4 * (l.length / 4) + 1) 0).toNat) + z.toNat * 2 ^ 8 := by
      unfold pkN
      rw [hA, hA, hA, hA, if_pos (by omega), if_pos (by omega), if_neg (by omega), if_pos (by omega), if_neg (by omega), if_neg (by omega)]
      show _ * 2 ^ 24 + _ * 2 ^ 16 + _ * 2 ^ 8 + 0 = _
      omega
    rw [e0, e1, show sh4 l.length = 8 by unfold sh4; omega, Nat.two_pow_add_eq_or_of_lt (by omega)]
  · have e0 : pkN l (l.length / 4) = 2 ^ 8 * ((l.getD (4 * (l.length / 4)) 0).toNat * 2 ^ 16 + (l.getD (4 * (l.length / 4) + 1) 0).toNat * 2 ^ 8 + (l.getD (4 * (l.length / 4) + 2) 0).toNat) := by
      unfold pkN
      rw [getD_out (i := 4 * (l.length / 4) + 3) (by omega)]
      show _ * 2 ^ 24 + _ * 2 ^ 16 + _ * 2 ^ 8 + 0 = _
      omega
    have e1 : pkN (l ++ [z]) (l.length / 4) = 2 ^ 8 * ((l.getD (4 * (l.length / 4)) 0).toNat * 2 ^ 16 + (l.getD (4 * (l.length / 4) + 1) 0).toNat * 2 ^ 8 + (l.getD (4 * (l.length / 4) + 2) 0).toNat) + z.toNat * 2 ^ 0 := by
      unfold pkN
      rw [hA, hA, hA, hA, if_pos (by omega), if_pos (by omega), if_pos (by omega), if_neg (by omega), if_pos (by omega)]
      omega
    rw [e0, e1, show sh4 l.length = 0 by unfold sh4; omega, Nat.two_pow_add_eq_or_of_lt (by omega)]
theorem w20 {l : List Int} (h : l.length = 20) (hl : B7 l) : words4 (iI ((pkN l 0 : Nat) : Int)) ++ words4 (iI ((pkN l 1 : Nat) : Int)) ++ words4 (iI ((pkN l 2 : Nat) : Int)) ++ words4 (iI ((pkN l 3 : Nat) : Int)) ++ words4 (iI ((pkN l 4 : Nat) : Int)) = l := by
  rw [words4_pk hl, words4_pk hl, words4_pk hl, words4_pk hl, words4_pk hl]
  match l, h with
  | [a0, a1, a2, a3, a4, a5, a6, a7, a8, a9, b0, b1, b2, b3, b4, b5, b6, b7, b8, b9], _ => rfl
theorem pk_nil (j : Nat) : pkN [] j = 0 := by unfold pkN; simp
theorem pk_b {l : List Int} (hl : B7 l) (j : Nat) : pkN l j < 2 ^ 31 := by
  have h0 := hl (4 * j)
  have h1 := hl (4 * j + 1)
  have h2 := hl (4 * j + 2)
  have h3 := hl (4 * j + 3)
  unfold pkN
  omega
