/-! ===== the world at the law's entry: the words of the Statement, by their places ===== -/
theorem wl_R : ∀ i, i < 4 → Cond.laysStatic "PastryBench$Refusal" (nmR.getD i "") "LPastryBench$Refusal;" ∈ lw_tb2 := by
  intro i hi
  rcases (show i = 0 ∨ i = 1 ∨ i = 2 ∨ i = 3 by omega) with rfl | rfl | rfl | rfl
  · exact tb_in 849 (by decide +kernel)
  · exact tb_in 854 (by decide +kernel)
  · exact tb_in 842 (by decide +kernel)
  · exact tb_in 847 (by decide +kernel)
theorem we_R : ∀ i, i < 4 → Cond.exactly (.static "PastryBench$Refusal" (nmR.getD i "") "LPastryBench$Refusal;") "PastryBench$Refusal" ∈ fl := by
  intro i hi
  rcases (show i = 0 ∨ i = 1 ∨ i = 2 ∨ i = 3 by omega) with rfl | rfl | rfl | rfl
  · exact fl_in 46 (by decide +kernel)
  · exact fl_in 55 (by decide +kernel)
  · exact fl_in 31 (by decide +kernel)
  · exact fl_in 38 (by decide +kernel)
set_option maxHeartbeats 1000000 in
theorem wd_R : ∀ i j, i < 4 → j < 4 → i ≠ j → Cond.not (.eq (.static "PastryBench$Refusal" (nmR.getD i "") "LPastryBench$Refusal;") (.static "PastryBench$Refusal" (nmR.getD j "") "LPastryBench$Refusal;")) ∈ fl ∨ Cond.not (.eq (.static "PastryBench$Refusal" (nmR.getD j "") "LPastryBench$Refusal;") (.static "PastryBench$Refusal" (nmR.getD i "") "LPastryBench$Refusal;")) ∈ fl := by
  intro i j hi hj hij
  rcases (show i = 0 ∨ i = 1 ∨ i = 2 ∨ i = 3 by omega) with rfl | rfl | rfl | rfl
  · rcases (show j = 0 ∨ j = 1 ∨ j = 2 ∨ j = 3 by omega) with rfl | rfl | rfl | rfl
    · exact absurd rfl hij
    · exact Or.inl (fl_in 64 (by decide +kernel))
    · exact Or.inr (fl_in 53 (by decide +kernel))
    · exact Or.inr (fl_in 54 (by decide +kernel))
  · rcases (show j = 0 ∨ j = 1 ∨ j = 2 ∨ j = 3 by omega) with rfl | rfl | rfl | rfl
    · exact Or.inr (fl_in 64 (by decide +kernel))
    · exact absurd rfl hij
    · exact Or.inr (fl_in 62 (by decide +kernel))
    · exact Or.inr (fl_in 63 (by decide +kernel))
  · rcases (show j = 0 ∨ j = 1 ∨ j = 2 ∨ j = 3 by omega) with rfl | rfl | rfl | rfl
    · exact Or.inl (fl_in 53 (by decide +kernel))
    · exact Or.inl (fl_in 62 (by decide +kernel))
    · exact absurd rfl hij
    · exact Or.inl (fl_in 45 (by decide +kernel))
  · rcases (show j = 0 ∨ j = 1 ∨ j = 2 ∨ j = 3 by omega) with rfl | rfl | rfl | rfl
    · exact Or.inl (fl_in 54 (by decide +kernel))
    · exact Or.inl (fl_in 63 (by decide +kernel))
    · exact Or.inr (fl_in 45 (by decide +kernel))
    · exact absurd rfl hij
theorem wl_T : ∀ i, i < 5 → Cond.laysStatic "PastryBench$TokenKind" (nmT.getD i "") "LPastryBench$TokenKind;" ∈ lw_tb2 := by
  intro i hi
  rcases (show i = 0 ∨ i = 1 ∨ i = 2 ∨ i = 3 ∨ i = 4 by omega) with rfl | rfl | rfl | rfl | rfl
  · exact tb_in 399 (by decide +kernel)
  · exact tb_in 404 (by decide +kernel)
  · exact tb_in 407 (by decide +kernel)
  · exact tb_in 409 (by decide +kernel)
  · exact tb_in 58 (by decide +kernel)
theorem we_T : ∀ i, i < 5 → Cond.exactly (.static "PastryBench$TokenKind" (nmT.getD i "") "LPastryBench$TokenKind;") "PastryBench$TokenKind" ∈ fl := by
  intro i hi
  rcases (show i = 0 ∨ i = 1 ∨ i = 2 ∨ i = 3 ∨ i = 4 by omega) with rfl | rfl | rfl | rfl | rfl
  · exact fl_in 8 (by decide +kernel)
  · exact fl_in 11 (by decide +kernel)
  · exact fl_in 15 (by decide +kernel)
  · exact fl_in 20 (by decide +kernel)
  · exact fl_in 4 (by decide +kernel)
set_option maxHeartbeats 1000000 in
theorem wd_T : ∀ i j, i < 5 → j < 5 → i ≠ j → Cond.not (.eq (.static "PastryBench$TokenKind" (nmT.getD i "") "LPastryBench$TokenKind;") (.static "PastryBench$TokenKind" (nmT.getD j "") "LPastryBench$TokenKind;")) ∈ fl ∨ Cond.not (.eq (.static "PastryBench$TokenKind" (nmT.getD j "") "LPastryBench$TokenKind;") (.static "PastryBench$TokenKind" (nmT.getD i "") "LPastryBench$TokenKind;")) ∈ fl := by
  intro i j hi hj hij
  rcases (show i = 0 ∨ i = 1 ∨ i = 2 ∨ i = 3 ∨ i = 4 by omega) with rfl | rfl | rfl | rfl | rfl
  · rcases (show j = 0 ∨ j = 1 ∨ j = 2 ∨ j = 3 ∨ j = 4 by omega) with rfl | rfl | rfl | rfl | rfl
    · exact absurd rfl hij
    · exact Or.inl (fl_in 14 (by decide +kernel))
    · exact Or.inl (fl_in 18 (by decide +kernel))
    · exact Or.inl (fl_in 23 (by decide +kernel))
    · exact Or.inr (fl_in 10 (by decide +kernel))
  · rcases (show j = 0 ∨ j = 1 ∨ j = 2 ∨ j = 3 ∨ j = 4 by omega) with rfl | rfl | rfl | rfl | rfl
    · exact Or.inr (fl_in 14 (by decide +kernel))
    · exact absurd rfl hij
    · exact Or.inl (fl_in 19 (by decide +kernel))
    · exact Or.inl (fl_in 24 (by decide +kernel))
    · exact Or.inr (fl_in 13 (by decide +kernel))
  · rcases (show j = 0 ∨ j = 1 ∨ j = 2 ∨ j = 3 ∨ j = 4 by omega) with rfl | rfl | rfl | rfl | rfl
    · exact Or.inr (fl_in 18 (by decide +kernel))
    · exact Or.inr (fl_in 19 (by decide +kernel))
    · exact absurd rfl hij
    · exact Or.inl (fl_in 25 (by decide +kernel))
    · exact Or.inr (fl_in 17 (by decide +kernel))
  · rcases (show j = 0 ∨ j = 1 ∨ j = 2 ∨ j = 3 ∨ j = 4 by omega) with rfl | rfl | rfl | rfl | rfl
    · exact Or.inr (fl_in 23 (by decide +kernel))
    · exact Or.inr (fl_in 24 (by decide +kernel))
    · exact Or.inr (fl_in 25 (by decide +kernel))
    · exact absurd rfl hij
    · exact Or.inr (fl_in 22 (by decide +kernel))
  · rcases (show j = 0 ∨ j = 1 ∨ j = 2 ∨ j = 3 ∨ j = 4 by omega) with rfl | rfl | rfl | rfl | rfl
    · exact Or.inl (fl_in 10 (by decide +kernel))
    · exact Or.inl (fl_in 13 (by decide +kernel))
    · exact Or.inl (fl_in 17 (by decide +kernel))
    · exact Or.inl (fl_in 22 (by decide +kernel))
    · exact absurd rfl hij
def strW (tm : Term) (tx : List Int) : List Cond := [.exactly tm "java/lang/String", .eq (.field tm "java/lang/String" "coder" "B") (.int (iI 0)), .arrayOf (.field tm "java/lang/String" "value" "[B") .byte, .eq (.length (.field tm "java/lang/String" "value" "[B")) (.int (Int32.ofNat tx.length))] ++ (List.range tx.length).map (fun j => Cond.eq (.elem (.field tm "java/lang/String" "value" "[B") (.int (Int32.ofNat j))) (.int (iI (tx.getD j 0))))
theorem str_at {tm : Term} {tx : List Int} {p : Nat} (h : strW tm tx = (fl.drop p).take (4 + tx.length)) : ∀ w ∈ strW tm tx, w ∈ fl := fun _ hw => List.mem_of_mem_drop (List.mem_of_mem_take (h ▸ hw))
theorem wt_0 : ∀ w ∈ strW (.string "PastryBench$Parser" 72) (txS 0), w ∈ fl := str_at (p := 370) (by decide +kernel)
theorem wt_1 : ∀ w ∈ strW (.string "PastryBench$Parser" 74) (txS 1), w ∈ fl := str_at (p := 360) (by decide +kernel)
theorem wt_2 : ∀ w ∈ strW (.string "PastryBench$Parser" 102) (txS 2), w ∈ fl := str_at (p := 381) (by decide +kernel)
theorem wt_3 : ∀ w ∈ strW (.string "PastryBench$Parser" 104) (txS 3), w ∈ fl := str_at (p := 393) (by decide +kernel)
theorem wt_4 : ∀ w ∈ strW (.string "PastryBenchLaw" 177) (lxS 0), w ∈ fl := str_at (p := 645) (by decide +kernel)
theorem wt_5 : ∀ w ∈ strW (.string "PastryBenchLaw" 189) (lxS 1), w ∈ fl := str_at (p := 668) (by decide +kernel)
theorem wt_6 : ∀ w ∈ strW (.string "PastryBenchLaw" 194) (lxS 2), w ∈ fl := str_at (p := 692) (by decide +kernel)
theorem wt_7 : ∀ w ∈ strW (.string "PastryBenchLaw" 196) (lxS 3), w ∈ fl := str_at (p := 718) (by decide +kernel)
theorem wg_o : ∀ j : Nat, j < 100 → Cond.eq (.elem (.static "java/lang/Integer" "DigitOnes" "[B") (.int (Int32.ofNat j))) (.int (iI (48 + (j : Int) % 10))) ∈ fl := by
  have h : (List.range 100).map (fun j : Nat => Cond.eq (.elem (.static "java/lang/Integer" "DigitOnes" "[B") (.int (Int32.ofNat j))) (.int (iI (48 + (j : Int) % 10)))) = (fl.drop 68).take 100 := by decide +kernel
  intro j hj
  exact List.mem_of_mem_drop (List.mem_of_mem_take (h ▸ List.mem_map.mpr ⟨j, List.mem_range.mpr hj, rfl⟩))
theorem wg_t : ∀ j : Nat, j < 100 → Cond.eq (.elem (.static "java/lang/Integer" "DigitTens" "[B") (.int (Int32.ofNat j))) (.int (iI (48 + (j : Int) / 10))) ∈ fl := by
  have h : (List.range 100).map (fun j : Nat => Cond.eq (.elem (.static "java/lang/Integer" "DigitTens" "[B") (.int (Int32.ofNat j))) (.int (iI (48 + (j : Int) / 10)))) = (fl.drop 171).take 100 := by decide +kernel
  intro j hj
  exact List.mem_of_mem_drop (List.mem_of_mem_take (h ▸ List.mem_map.mpr ⟨j, List.mem_range.mpr hj, rfl⟩))
