/-! ===== the world at the law's entry: the words of the Statement, by their places ===== -/
theorem wl_R : ∀ i, i < 4 → Cond.laysStatic "PastryBench$Refusal" (nmR.getD i "") "LPastryBench$Refusal;" ∈ lw_tbl := by
  intro i hi
  rcases (show i = 0 ∨ i = 1 ∨ i = 2 ∨ i = 3 by omega) with rfl | rfl | rfl | rfl
  · exact tb_in 986 (by decide +kernel)
  · exact tb_in 975 (by decide +kernel)
  · exact tb_in 978 (by decide +kernel)
  · exact tb_in 984 (by decide +kernel)
theorem we_R : ∀ i, i < 4 → Cond.exactly (.static "PastryBench$Refusal" (nmR.getD i "") "LPastryBench$Refusal;") "PastryBench$Refusal" ∈ fl := by
  intro i hi
  rcases (show i = 0 ∨ i = 1 ∨ i = 2 ∨ i = 3 by omega) with rfl | rfl | rfl | rfl
  · exact fl_in 55 (by decide +kernel)
  · exact fl_in 31 (by decide +kernel)
  · exact fl_in 38 (by decide +kernel)
  · exact fl_in 46 (by decide +kernel)
set_option maxHeartbeats 1000000 in
theorem wd_R : ∀ i j, i < 4 → j < 4 → i ≠ j → Cond.not (.eq (.static "PastryBench$Refusal" (nmR.getD i "") "LPastryBench$Refusal;") (.static "PastryBench$Refusal" (nmR.getD j "") "LPastryBench$Refusal;")) ∈ fl ∨ Cond.not (.eq (.static "PastryBench$Refusal" (nmR.getD j "") "LPastryBench$Refusal;") (.static "PastryBench$Refusal" (nmR.getD i "") "LPastryBench$Refusal;")) ∈ fl := by
  intro i j hi hj hij
  rcases (show i = 0 ∨ i = 1 ∨ i = 2 ∨ i = 3 by omega) with rfl | rfl | rfl | rfl
  · rcases (show j = 0 ∨ j = 1 ∨ j = 2 ∨ j = 3 by omega) with rfl | rfl | rfl | rfl
    · exact absurd rfl hij
    · exact Or.inr (fl_in 62 (by decide +kernel))
    · exact Or.inr (fl_in 63 (by decide +kernel))
    · exact Or.inr (fl_in 64 (by decide +kernel))
  · rcases (show j = 0 ∨ j = 1 ∨ j = 2 ∨ j = 3 by omega) with rfl | rfl | rfl | rfl
    · exact Or.inl (fl_in 62 (by decide +kernel))
    · exact absurd rfl hij
    · exact Or.inl (fl_in 45 (by decide +kernel))
    · exact Or.inl (fl_in 53 (by decide +kernel))
  · rcases (show j = 0 ∨ j = 1 ∨ j = 2 ∨ j = 3 by omega) with rfl | rfl | rfl | rfl
    · exact Or.inl (fl_in 63 (by decide +kernel))
    · exact Or.inr (fl_in 45 (by decide +kernel))
    · exact absurd rfl hij
    · exact Or.inl (fl_in 54 (by decide +kernel))
  · rcases (show j = 0 ∨ j = 1 ∨ j = 2 ∨ j = 3 by omega) with rfl | rfl | rfl | rfl
    · exact Or.inl (fl_in 64 (by decide +kernel))
    · exact Or.inr (fl_in 53 (by decide +kernel))
    · exact Or.inr (fl_in 54 (by decide +kernel))
    · exact absurd rfl hij
theorem wl_T : ∀ i, i < 5 → Cond.laysStatic "PastryBench$TokenKind" (nmT.getD i "") "LPastryBench$TokenKind;" ∈ lw_tbl := by
  intro i hi
  rcases (show i = 0 ∨ i = 1 ∨ i = 2 ∨ i = 3 ∨ i = 4 by omega) with rfl | rfl | rfl | rfl | rfl
  · exact tb_in 552 (by decide +kernel)
  · exact tb_in 557 (by decide +kernel)
  · exact tb_in 560 (by decide +kernel)
  · exact tb_in 562 (by decide +kernel)
  · exact tb_in 121 (by decide +kernel)
theorem we_T : ∀ i, i < 5 → Cond.exactly (.static "PastryBench$TokenKind" (nmT.getD i "") "LPastryBench$TokenKind;") "PastryBench$TokenKind" ∈ fl := by
  intro i hi
  rcases (show i = 0 ∨ i = 1 ∨ i = 2 ∨ i = 3 ∨ i = 4 by omega) with rfl | rfl | rfl | rfl | rfl
  · exact fl_in 8 (by decide +kernel)
  · exact fl_in 11 (by decide +kernel)
  · exact fl_in 15 (by decide +kernel)
  · exact fl_in 20 (by decide +kernel)
  · exact fl_in 4 (by decide +kernel)
set_option maxHeartbeats 1000000 in
theorem wd_T : ∀ i j, i < 5 → j < 5 → i ≠ j → Cond.not (.eq (.static "PastryBench$TokenKind" (nmT.getD i "") "LPastryBench$TokenKind;") (.static "PastryBench$TokenKind" (nmT.getD j "") "LPastryBench$TokenKind;")) ∈ fl ∨ Cond.not (.eq (.static "PastryBench$TokenKind" (nmT.getD j "") "LPastryBench$TokenKind;") (.static "PastryBench$TokenKind" (nmT.getD i "") "LPastryBench$TokenKind;")) ∈ fl := by
  intro i j hi hj hij
  rcases (show i = 0 ∨ i = 1 ∨ i = 2 ∨ i = 3 ∨ i = 4 by omega) with rfl | rfl | rfl | rfl | rfl
  · rcases (show j = 0 ∨ j = 1 ∨ j = 2 ∨ j = 3 ∨ j = 4 by omega) with rfl | rfl | rfl | rfl | rfl
    · exact absurd rfl hij
    · exact Or.inl (fl_in 14 (by decide +kernel))
    · exact Or.inl (fl_in 18 (by decide +kernel))
    · exact Or.inl (fl_in 23 (by decide +kernel))
    · exact Or.inr (fl_in 10 (by decide +kernel))
  · rcases (show j = 0 ∨ j = 1 ∨ j = 2 ∨ j = 3 ∨ j = 4 by omega) with rfl | rfl | rfl | rfl | rfl
    · exact Or.inr (fl_in 14 (by decide +kernel))
    · exact absurd rfl hij
    · exact Or.inl (fl_in 19 (by decide +kernel))
    · exact Or.inl (fl_in 24 (by decide +kernel))
    · exact Or.inr (fl_in 13 (by decide +kernel))
  · rcases (show j = 0 ∨ j = 1 ∨ j = 2 ∨ j = 3 ∨ j = 4 by omega) with rfl | rfl | rfl | rfl | rfl
    · exact Or.inr (fl_in 18 (by decide +kernel))
    · exact Or.inr (fl_in 19 (by decide +kernel))
    · exact absurd rfl hij
    · exact Or.inl (fl_in 25 (by decide +kernel))
    · exact Or.inr (fl_in 17 (by decide +kernel))
  · rcases (show j = 0 ∨ j = 1 ∨ j = 2 ∨ j = 3 ∨ j = 4 by omega) with rfl | rfl | rfl | rfl | rfl
    · exact Or.inr (fl_in 23 (by decide +kernel))
    · exact Or.inr (fl_in 24 (by decide +kernel))
    · exact Or.inr (fl_in 25 (by decide +kernel))
    · exact absurd rfl hij
    · exact Or.inr (fl_in 22 (by decide +kernel))
  · rcases (show j = 0 ∨ j = 1 ∨ j = 2 ∨ j = 3 ∨ j = 4 by omega) with rfl | rfl | rfl | rfl | rfl
    · exact Or.inl (fl_in 10 (by decide +kernel))
    · exact Or.inl (fl_in 13 (by decide +kernel))
    · exact Or.inl (fl_in 17 (by decide +kernel))
    · exact Or.inl (fl_in 22 (by decide +kernel))
    · exact absurd rfl hij
theorem we_C : ∀ i, i < 9 → Cond.exactly (.static "PastryBench$Command" (nmC.getD i "") "LPastryBench$Command;") "PastryBench$Command" ∈ fl := by
  intro i hi
  rcases (show i = 0 ∨ i = 1 ∨ i = 2 ∨ i = 3 ∨ i = 4 ∨ i = 5 ∨ i = 6 ∨ i = 7 ∨ i = 8 by omega) with rfl | rfl | rfl | rfl | rfl | rfl | rfl | rfl | rfl
  · exact fl_in 91 (by decide +kernel)
  · exact fl_in 108 (by decide +kernel)
  · exact fl_in 126 (by decide +kernel)
  · exact fl_in 145 (by decide +kernel)
  · exact fl_in 165 (by decide +kernel)
  · exact fl_in 186 (by decide +kernel)
  · exact fl_in 208 (by decide +kernel)
  · exact fl_in 231 (by decide +kernel)
  · exact fl_in 255 (by decide +kernel)
theorem wf_0 : ∀ i, i < 9 → Cond.eq (.field (.static "PastryBench$Command" (nmC.getD i "") "LPastryBench$Command;") "PastryBench$Command" "firstLow" "I") (.int (([0, 0, 0, 0, 0, 0, 1, 0, 0] : List Int32).getD i 0)) ∈ fl := by
  intro i hi
  rcases (show i = 0 ∨ i = 1 ∨ i = 2 ∨ i = 3 ∨ i = 4 ∨ i = 5 ∨ i = 6 ∨ i = 7 ∨ i = 8 by omega) with rfl | rfl | rfl | rfl | rfl | rfl | rfl | rfl | rfl
  · exact fl_in 94 (by decide +kernel)
  · exact fl_in 111 (by decide +kernel)
  · exact fl_in 129 (by decide +kernel)
  · exact fl_in 148 (by decide +kernel)
  · exact fl_in 168 (by decide +kernel)
  · exact fl_in 189 (by decide +kernel)
  · exact fl_in 211 (by decide +kernel)
  · exact fl_in 234 (by decide +kernel)
  · exact fl_in 258 (by decide +kernel)
theorem wf_1 : ∀ i, i < 9 → Cond.eq (.field (.static "PastryBench$Command" (nmC.getD i "") "LPastryBench$Command;") "PastryBench$Command" "firstHigh" "I") (.int (([5, 5, 5, 5, 5, 5, 24, 5, 5] : List Int32).getD i 0)) ∈ fl := by
  intro i hi
  rcases (show i = 0 ∨ i = 1 ∨ i = 2 ∨ i = 3 ∨ i = 4 ∨ i = 5 ∨ i = 6 ∨ i = 7 ∨ i = 8 by omega) with rfl | rfl | rfl | rfl | rfl | rfl | rfl | rfl | rfl
  · exact fl_in 95 (by decide +kernel)
  · exact fl_in 112 (by decide +kernel)
  · exact fl_in 130 (by decide +kernel)
  · exact fl_in 149 (by decide +kernel)
  · exact fl_in 169 (by decide +kernel)
  · exact fl_in 190 (by decide +kernel)
  · exact fl_in 212 (by decide +kernel)
  · exact fl_in 235 (by decide +kernel)
  · exact fl_in 259 (by decide +kernel)
theorem wf_2 : ∀ i, i < 9 → Cond.eq (.field (.static "PastryBench$Command" (nmC.getD i "") "LPastryBench$Command;") "PastryBench$Command" "hasSecond" "Z") (.int (([1, 1, 0, 0, 0, 0, 0, 0, 1] : List Int32).getD i 0)) ∈ fl := by
  intro i hi
  rcases (show i = 0 ∨ i = 1 ∨ i = 2 ∨ i = 3 ∨ i = 4 ∨ i = 5 ∨ i = 6 ∨ i = 7 ∨ i = 8 by omega) with rfl | rfl | rfl | rfl | rfl | rfl | rfl | rfl | rfl
  · exact fl_in 96 (by decide +kernel)
  · exact fl_in 113 (by decide +kernel)
  · exact fl_in 131 (by decide +kernel)
  · exact fl_in 150 (by decide +kernel)
  · exact fl_in 170 (by decide +kernel)
  · exact fl_in 191 (by decide +kernel)
  · exact fl_in 213 (by decide +kernel)
  · exact fl_in 236 (by decide +kernel)
  · exact fl_in 260 (by decide +kernel)
theorem wf_3 : ∀ i, i < 9 → Cond.eq (.field (.static "PastryBench$Command" (nmC.getD i "") "LPastryBench$Command;") "PastryBench$Command" "secondLow" "I") (.int (([2, 2, 0, 0, 0, 0, 0, 0, 0] : List Int32).getD i 0)) ∈ fl := by
  intro i hi
  rcases (show i = 0 ∨ i = 1 ∨ i = 2 ∨ i = 3 ∨ i = 4 ∨ i = 5 ∨ i = 6 ∨ i = 7 ∨ i = 8 by omega) with rfl | rfl | rfl | rfl | rfl | rfl | rfl | rfl | rfl
  · exact fl_in 97 (by decide +kernel)
  · exact fl_in 114 (by decide +kernel)
  · exact fl_in 132 (by decide +kernel)
  · exact fl_in 151 (by decide +kernel)
  · exact fl_in 171 (by decide +kernel)
  · exact fl_in 192 (by decide +kernel)
  · exact fl_in 214 (by decide +kernel)
  · exact fl_in 237 (by decide +kernel)
  · exact fl_in 261 (by decide +kernel)
theorem wf_4 : ∀ i, i < 9 → Cond.eq (.field (.static "PastryBench$Command" (nmC.getD i "") "LPastryBench$Command;") "PastryBench$Command" "secondHigh" "I") (.int (([4, 4, 0, 0, 0, 0, 0, 0, 5] : List Int32).getD i 0)) ∈ fl := by
  intro i hi
  rcases (show i = 0 ∨ i = 1 ∨ i = 2 ∨ i = 3 ∨ i = 4 ∨ i = 5 ∨ i = 6 ∨ i = 7 ∨ i = 8 by omega) with rfl | rfl | rfl | rfl | rfl | rfl | rfl | rfl | rfl
  · exact fl_in 98 (by decide +kernel)
  · exact fl_in 115 (by decide +kernel)
  · exact fl_in 133 (by decide +kernel)
  · exact fl_in 152 (by decide +kernel)
  · exact fl_in 172 (by decide +kernel)
  · exact fl_in 193 (by decide +kernel)
  · exact fl_in 215 (by decide +kernel)
  · exact fl_in 238 (by decide +kernel)
  · exact fl_in 262 (by decide +kernel)
theorem wf_5 : ∀ i, i < 9 → Cond.eq (.field (.static "PastryBench$Command" (nmC.getD i "") "LPastryBench$Command;") "java/lang/Enum" "ordinal" "I") (.int (([0, 1, 2, 3, 4, 5, 6, 7, 8] : List Int32).getD i 0)) ∈ fl := by
  intro i hi
  rcases (show i = 0 ∨ i = 1 ∨ i = 2 ∨ i = 3 ∨ i = 4 ∨ i = 5 ∨ i = 6 ∨ i = 7 ∨ i = 8 by omega) with rfl | rfl | rfl | rfl | rfl | rfl | rfl | rfl | rfl
  · exact fl_in 92 (by decide +kernel)
  · exact fl_in 109 (by decide +kernel)
  · exact fl_in 127 (by decide +kernel)
  · exact fl_in 146 (by decide +kernel)
  · exact fl_in 166 (by decide +kernel)
  · exact fl_in 187 (by decide +kernel)
  · exact fl_in 209 (by decide +kernel)
  · exact fl_in 232 (by decide +kernel)
  · exact fl_in 256 (by decide +kernel)
def cwK (k : Nat) : Nat := ([74, 80, 83, 89, 92, 95, 98, 101, 104] : List Nat).getD k 0
def mwK (k : Nat) : Nat := ([43, 45, 47, 49, 51, 53, 55, 57, 59] : List Nat).getD k 0
theorem wf_w : ∀ i, i < 9 → Cond.eq (.field (.static "PastryBench$Command" (nmC.getD i "") "LPastryBench$Command;") "PastryBench$Command" "word" "Ljava/lang/String;") (.string "PastryBench$Command" (cwK i)) ∈ fl := by
  intro i hi
  rcases (show i = 0 ∨ i = 1 ∨ i = 2 ∨ i = 3 ∨ i = 4 ∨ i = 5 ∨ i = 6 ∨ i = 7 ∨ i = 8 by omega) with rfl | rfl | rfl | rfl | rfl | rfl | rfl | rfl | rfl
  · exact fl_in 93 (by decide +kernel)
  · exact fl_in 110 (by decide +kernel)
  · exact fl_in 128 (by decide +kernel)
  · exact fl_in 147 (by decide +kernel)
  · exact fl_in 167 (by decide +kernel)
  · exact fl_in 188 (by decide +kernel)
  · exact fl_in 210 (by decide +kernel)
  · exact fl_in 233 (by decide +kernel)
  · exact fl_in 257 (by decide +kernel)
theorem wf_m : ∀ i, i < 9 → Cond.eq (.string "PastryBenchModel" (mwK i)) (.string "PastryBench$Command" (cwK i)) ∈ fl := by
  intro i hi
  rcases (show i = 0 ∨ i = 1 ∨ i = 2 ∨ i = 3 ∨ i = 4 ∨ i = 5 ∨ i = 6 ∨ i = 7 ∨ i = 8 by omega) with rfl | rfl | rfl | rfl | rfl | rfl | rfl | rfl | rfl
  · exact fl_in 758 (by decide +kernel)
  · exact fl_in 767 (by decide +kernel)
  · exact fl_in 776 (by decide +kernel)
  · exact fl_in 785 (by decide +kernel)
  · exact fl_in 794 (by decide +kernel)
  · exact fl_in 806 (by decide +kernel)
  · exact fl_in 815 (by decide +kernel)
  · exact fl_in 823 (by decide +kernel)
  · exact fl_in 833 (by decide +kernel)
theorem wc_el : ∀ i, i < 9 → Cond.eq (.elem (.static "PastryBench" "COMMANDS" "[LPastryBench$Command;") (.int (Int32.ofNat i))) (.static "PastryBench$Command" (nmC.getD i "") "LPastryBench$Command;") ∈ fl := by
  intro i hi
  rcases (show i = 0 ∨ i = 1 ∨ i = 2 ∨ i = 3 ∨ i = 4 ∨ i = 5 ∨ i = 6 ∨ i = 7 ∨ i = 8 by omega) with rfl | rfl | rfl | rfl | rfl | rfl | rfl | rfl | rfl
  · exact fl_in 70 (by decide +kernel)
  · exact fl_in 71 (by decide +kernel)
  · exact fl_in 72 (by decide +kernel)
  · exact fl_in 73 (by decide +kernel)
  · exact fl_in 74 (by decide +kernel)
  · exact fl_in 75 (by decide +kernel)
  · exact fl_in 76 (by decide +kernel)
  · exact fl_in 77 (by decide +kernel)
  · exact fl_in 78 (by decide +kernel)
theorem ws_el : ∀ i, i < 9 → Cond.eq (.elem (.static "PastryBench$1" "$SwitchMap$PastryBench$Command" "[I") (.int (Int32.ofNat i))) (.int (iI (swV i))) ∈ fl := by
  intro i hi
  rcases (show i = 0 ∨ i = 1 ∨ i = 2 ∨ i = 3 ∨ i = 4 ∨ i = 5 ∨ i = 6 ∨ i = 7 ∨ i = 8 by omega) with rfl | rfl | rfl | rfl | rfl | rfl | rfl | rfl | rfl
  · exact fl_in 82 (by decide +kernel)
  · exact fl_in 83 (by decide +kernel)
  · exact fl_in 84 (by decide +kernel)
  · exact fl_in 85 (by decide +kernel)
  · exact fl_in 86 (by decide +kernel)
  · exact fl_in 87 (by decide +kernel)
  · exact fl_in 88 (by decide +kernel)
  · exact fl_in 89 (by decide +kernel)
  · exact fl_in 90 (by decide +kernel)
def strW (tm : Term) (tx : List Int) : List Cond := [.exactly tm "java/lang/String", .eq (.field tm "java/lang/String" "coder" "B") (.int (iI 0)), .arrayOf (.field tm "java/lang/String" "value" "[B") .byte, .eq (.length (.field tm "java/lang/String" "value" "[B")) (.int (Int32.ofNat tx.length))] ++ (List.range tx.length).map (fun j => Cond.eq (.elem (.field tm "java/lang/String" "value" "[B") (.int (Int32.ofNat j))) (.int (iI (tx.getD j 0))))
theorem str_at {tm : Term} {tx : List Int} {p : Nat} (h : strW tm tx = (fl.drop p).take (4 + tx.length)) : ∀ w ∈ strW tm tx, w ∈ fl := fun _ hw => List.mem_of_mem_drop (List.mem_of_mem_take (h ▸ hw))
theorem wt_0 : ∀ w ∈ strW (.string "PastryBench$Parser" 72) (txS 0), w ∈ fl := str_at (p := 420) (by decide +kernel)
theorem wt_1 : ∀ w ∈ strW (.string "PastryBench$Parser" 74) (txS 1), w ∈ fl := str_at (p := 411) (by decide +kernel)
theorem wt_2 : ∀ w ∈ strW (.string "PastryBench$Parser" 102) (txS 2), w ∈ fl := str_at (p := 429) (by decide +kernel)
theorem wt_3 : ∀ w ∈ strW (.string "PastryBench$Parser" 104) (txS 3), w ∈ fl := str_at (p := 438) (by decide +kernel)
theorem wt_4 : ∀ w ∈ strW (.string "PastryBenchModel" 43) (txS 4), w ∈ fl := str_at (p := 634) (by decide +kernel)
theorem wt_5 : ∀ w ∈ strW (.string "PastryBenchModel" 45) (txS 5), w ∈ fl := str_at (p := 642) (by decide +kernel)
theorem wt_6 : ∀ w ∈ strW (.string "PastryBenchModel" 47) (txS 6), w ∈ fl := str_at (p := 650) (by decide +kernel)
theorem wt_7 : ∀ w ∈ strW (.string "PastryBenchModel" 49) (txS 7), w ∈ fl := str_at (p := 658) (by decide +kernel)
theorem wt_8 : ∀ w ∈ strW (.string "PastryBenchModel" 51) (txS 8), w ∈ fl := str_at (p := 666) (by decide +kernel)
theorem wt_9 : ∀ w ∈ strW (.string "PastryBenchModel" 53) (txS 9), w ∈ fl := str_at (p := 674) (by decide +kernel)
theorem wt_10 : ∀ w ∈ strW (.string "PastryBenchModel" 55) (txS 10), w ∈ fl := str_at (p := 685) (by decide +kernel)
theorem wt_11 : ∀ w ∈ strW (.string "PastryBenchModel" 57) (txS 11), w ∈ fl := str_at (p := 693) (by decide +kernel)
theorem wt_12 : ∀ w ∈ strW (.string "PastryBenchModel" 59) (txS 12), w ∈ fl := str_at (p := 700) (by decide +kernel)
