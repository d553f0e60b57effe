/-! ===== constants: strings, tables, their fields ===== -/
section CONSTS
variable {G : xG} {M : xM} {h : xH} {pc : Nat} {ls : List (Nat × Value)} {st : List Value} {kc ks : Nat} {Q : xR → xH → Prop} {idx q : Nat} {v : Value}
theorem r_getc {o n d : String} (hZ : x_zz G (va_OF o n d v q)) (hl : Cond.fieldLink M.1.cls idx o n d ∈ bg_L) (hd : decode M.2.1 pc = .ok (.getfield idx, 3)) (k : RR G M (pc + 3) ls (v :: st) h kc ks Q) : RR G M pc ls (.ref q :: st) h kc ks Q := rr_of k fun _ _ _ _ s _ _ _ _ _ _ _ _ _ _ _ E S w => by
  exact vk_getf E.1.1 E.1.2.1 (hZ s E.2.2.2.2.2.2.2.2.2.1) S.2.2.1 E.1.2.2.2.1 (E.1.2.2.2.2 _ hl) (fun _ z => z) hd w
theorem r_ldcS {own tx : String} (hZ : x_zz G (fun _ U _ => vk_R own idx tx q U)) (ho : M.1.cls = own) (hd : decode M.2.1 pc = .ok (.ldc idx, 2)) (k : RR G M (pc + 2) ls (.ref q :: st) h kc ks Q) : RR G M pc ls st h kc ks Q := rr_of k fun _ _ _ _ s _ _ _ _ _ _ _ _ _ _ _ E S w => by
  exact va_ldcS E.1.1 E.1.2.1 (by rw [← ho]; exact E.1.2.2.2.1) (hZ s E.2.2.2.2.2.2.2.2.2.1) hd w
theorem x_rvc {C : String} (hZ : x_zz G (va_O C q)) : x_RV G h C q := fun s H locs hw hK hs hS => by
  obtain ⟨cell, h1, h2, h3, -⟩ := (hZ s hs).kept hS.2.1
  exact ⟨cell, h1, h2, h3⟩
theorem i_tlen {ty : FieldType} {N : Nat} {f : Nat → Value} (hZ : x_zz G (va_T ty q N f)) (hd : decode M.2.1 pc = .ok (.arraylength, 1)) (k : RR G M (pc + 1) ls (.int (iI (N : Int)) :: st) h kc ks Q) : RR G M pc ls (.ref q :: st) h kc ks Q := rr_of k fun _ _ _ _ s _ _ _ _ _ _ _ _ _ _ _ E S w => by
  exact va_tlen E.1.1 E.1.2.1 (hZ s E.2.2.2.2.2.2.2.2.2.1) S.2.2.1 (show Int32.ofNat N = iI (N : Int) from (Int32.ofInt_eq_ofNat (n := N)).symm) hd w
theorem i_tb {N : Nat} {f : Nat → Value} {e : Int} (hZ : x_zz G (va_T .byte q N f)) (j : Nat) (he : e = (j : Int)) (hd : decode M.2.1 pc = .ok (.baload, 1)) (hj : j < N) (hn : N < 2 ^ 31) (hv : f j = v) (k : RR G M (pc + 1) ls (v :: st) h kc ks Q) : RR G M pc ls (.int (iI e) :: .ref q :: st) h kc ks Q := rr_of k fun _ _ _ _ s _ _ _ _ _ _ _ _ _ _ _ E S w => by
  obtain ⟨h1, h2⟩ := x_in (i := iI e) (by rw [he, iI_nat]) hj hn
  exact va_tb E.1.1 E.1.2.1 (hZ s E.2.2.2.2.2.2.2.2.2.1) S.2.2.1 h1 (by rw [h2]; exact hv) hd w
theorem i_ti {N : Nat} {f : Nat → Value} {e : Int} (hZ : x_zz G (va_T .int q N f)) (j : Nat) (he : e = (j : Int)) (hd : decode M.2.1 pc = .ok (.iaload, 1)) (hj : j < N) (hn : N < 2 ^ 31) (hv : f j = v) (k : RR G M (pc + 1) ls (v :: st) h kc ks Q) : RR G M pc ls (.int (iI e) :: .ref q :: st) h kc ks Q := rr_of k fun _ _ _ _ s _ _ _ _ _ _ _ _ _ _ _ E S w => by
  obtain ⟨h1, h2⟩ := x_in (i := iI e) (by rw [he, iI_nat]) hj hn
  exact va_ti E.1.1 E.1.2.1 (hZ s E.2.2.2.2.2.2.2.2.2.1) S.2.2.1 h1 (by rw [h2]; exact hv) hd w
theorem i_tq {C : String} {N : Nat} {f : Nat → Value} {e : Int} (hZ : x_zz G (va_T (.object C) q N f)) (j : Nat) (he : e = (j : Int)) (hd : decode M.2.1 pc = .ok (.aaload, 1)) (hj : j < N) (hn : N < 2 ^ 31) (hv : f j = v) (k : RR G M (pc + 1) ls (v :: st) h kc ks Q) : RR G M pc ls (.int (iI e) :: .ref q :: st) h kc ks Q := rr_of k fun _ _ _ _ s _ _ _ _ _ _ _ _ _ _ _ E S w => by
  obtain ⟨h1, h2⟩ := x_in (i := iI e) (by rw [he, iI_nat]) hj hn
  exact vb_tq E.1.1 E.1.2.1 (hZ s E.2.2.2.2.2.2.2.2.2.1) S.2.2.1 h1 (by rw [h2]; exact hv) hd w
theorem c256_a : ∀ n : Fin 128, iI (n.val : Int) &&& iI 255 = iI (n.val : Int) := by decide
theorem c256_b : ∀ n : Fin 128, ((iI (n.val : Int)).toUInt32 % 65536).toInt32 = iI (n.val : Int) := by decide
theorem and255 {z : Int} (h : 0 ≤ z ∧ z < 128) : iI z &&& iI 255 = iI z := by
  have e : z = ((z.toNat : Nat) : Int) := by omega
  rw [e]; exact c256_a ⟨z.toNat, by omega⟩
theorem i_i2c {z : Int} (hd : decode M.2.1 pc = .ok (.i2c, 1)) (hz : 0 ≤ z ∧ z < 128) (k : RR G M (pc + 1) ls (.int (iI z) :: st) h kc ks Q) : RR G M pc ls (.int (iI z) :: st) h kc ks Q := rr_of k fun _ _ _ _ _ _ _ _ _ _ _ _ _ _ _ _ E _ w => by
  refine lv_i2c E.1.1 E.1.2.1 hd (v := iI z) ?_ w
  have e : z = ((z.toNat : Nat) : Int) := by omega
  rw [e]; exact c256_b ⟨z.toNat, by omega⟩
theorem c256_c : ∀ n : Fin 128, narrow .char (.int (iI (n.val : Int))) = .int (iI (n.val : Int)) := by decide
theorem ch_nar {z : Int} (h : 0 ≤ z ∧ z < 128) : narrow .char (.int (iI z)) = .int (iI z) := by
  have e : z = ((z.toNat : Nat) : Int) := by omega
  rw [e]; exact c256_c ⟨z.toNat, by omega⟩
theorem shr0 (x : Int32) : x >>> (iI 0 &&& 31) = x := by rw [show iI 0 &&& 31 = 0 by decide]; simp
end CONSTS
/-- the string at q has the bytes tx -/
def STR (G : xG) (q : Nat) (tx : List Int) : Prop := (∃ w : Nat, x_zz G (va_O "java/lang/String" q) ∧ x_zz G (va_OF "java/lang/String" "coder" "B" (.int (iI 0)) q) ∧ x_zz G (va_OF "java/lang/String" "value" "[B" (.ref w) q) ∧ x_zz G (va_T .byte w tx.length (fun j => .int (iI (tx.getD j 0))))) ∧ tx.length < 100 ∧ ∀ k, k < tx.length → 0 ≤ tx.getD k 0 ∧ tx.getD k 0 < 128
def GS (G : xG) : Prop := x_zz G (va_Z "java/lang/String" "COMPACT_STRINGS" "Z" (.int (iI 1))) ∧ ((∃ w : Nat, x_zz G (va_Z "jdk/internal/util/Preconditions" "SIOOBE_FORMATTER" "Ljava/util/function/BiFunction;" (.ref w))) ∨ x_zz G (va_Z "jdk/internal/util/Preconditions" "SIOOBE_FORMATTER" "Ljava/util/function/BiFunction;" .null))
set_option maxRecDepth 20000 in
set_option maxHeartbeats 1000000 in
theorem c_J0_coder_7d493 {G : xG} {h : xH} (hGS : GS G) {q : Nat} {tx : List Int} (hT : STR G q tx) : CC G MJ0_coder_7d493 [.ref q] h (qI (0) h) := by
  obtain ⟨⟨w, hO, hC, hV, hW⟩, hl, hb⟩ := hT
  show RR G MJ0_coder_7d493 0 [(0, .ref q)] [] h (xm_R MJ0_coder_7d493).cells (xm_R MJ0_coder_7d493).slots (qI (0) h)
  refine r_gets hGS.1 kg_J0_38 dJ0_coder_7d493_0 ?_
  refine i_ifeq dJ0_coder_7d493_3 (tgt := 13) (by decide) ⟨by decide, by decide⟩ (fun c => absurd c (by decide)) (fun _ => ?_)
  refine r_aload_n dJ0_coder_7d493_6 0 rfl ?_
  refine r_getc hC kg_J0_15 dJ0_coder_7d493_7 ?_
  refine r_goto dJ0_coder_7d493_10 (tgt := 14) (by decide) ?_
  refine r_ireturn rfl rfl dJ0_coder_7d493_14 ?_
  exact ⟨rfl, rfl⟩
set_option maxRecDepth 20000 in
set_option maxHeartbeats 1000000 in
theorem c_J0_isLatin1_aae02 {G : xG} {h : xH} (hGS : GS G) {q : Nat} {tx : List Int} (hT : STR G q tx) : CC G MJ0_isLatin1_aae02 [.ref q] h (qI (1) h) := by
  obtain ⟨⟨w, hO, hC, hV, hW⟩, hl, hb⟩ := hT
  show RR G MJ0_isLatin1_aae02 0 [(0, .ref q)] [] h (xm_R MJ0_isLatin1_aae02).cells (xm_R MJ0_isLatin1_aae02).slots (qI (1) h)
  refine r_gets hGS.1 kg_J0_38 dJ0_isLatin1_aae02_0 ?_
  refine i_ifeq dJ0_isLatin1_aae02_3 (tgt := 17) (by decide) ⟨by decide, by decide⟩ (fun c => absurd c (by decide)) (fun _ => ?_)
  refine r_aload_n dJ0_isLatin1_aae02_6 0 rfl ?_
  refine r_getc hC kg_J0_15 dJ0_isLatin1_aae02_7 ?_
  refine i_ifne dJ0_isLatin1_aae02_10 (tgt := 17) (by decide) ⟨by decide, by decide⟩ (fun c => absurd c (by decide)) (fun _ => ?_)
  refine i_const (1) dJ0_isLatin1_aae02_13 ?_
  refine r_goto dJ0_isLatin1_aae02_14 (tgt := 18) (by decide) ?_
  refine r_ireturn rfl (b2_nar true) dJ0_isLatin1_aae02_18 ?_
  exact ⟨rfl, rfl⟩
set_option maxRecDepth 20000 in
set_option maxHeartbeats 1000000 in
theorem c_J0_length_8abf5 {G : xG} {h : xH} (hGS : GS G) {q : Nat} {tx : List Int} (hT : STR G q tx) : CC G MJ0_length_8abf5 [.ref q] h (qI ((tx.length : Int)) h) := by
  have hT0 := hT
  obtain ⟨⟨w, hO, hC, hV, hW⟩, hl, hb⟩ := hT
  show RR G MJ0_length_8abf5 0 [(0, .ref q)] [] h (xm_R MJ0_length_8abf5).cells (xm_R MJ0_length_8abf5).slots (qI ((tx.length : Int)) h)
  refine r_aload_n dJ0_length_8abf5_0 0 rfl ?_
  refine r_getc hV kg_J0_9 dJ0_length_8abf5_1 ?_
  refine i_tlen hW dJ0_length_8abf5_4 ?_
  refine r_aload_n dJ0_length_8abf5_5 0 rfl ?_
  refine p_callV (As := []) (b := q) (rest := [.int (iI ((tx.length : Int)))]) (w := (some (.int (iI 0)))) (st' := [.int (iI 0), .int (iI ((tx.length : Int)))]) kv_J0_length_8abf5_335 dJ0_length_8abf5_6 rfl rfl (Nat.le_of_ble_eq_true rfl) (Nat.le_of_ble_eq_true rfl) (x_rvc hO) rfl rfl (c_J0_coder_7d493 hGS hT0) rfl (fun h9 e9 => ?_)
  rw [show h9 = h from e9]
  refine r_ishr dJ0_length_8abf5_9 ?_
  rw [shr0]
  refine r_ireturn rfl rfl dJ0_length_8abf5_10 ?_
  exact ⟨rfl, rfl⟩
set_option maxRecDepth 20000 in
set_option maxHeartbeats 1000000 in
theorem c_J3_checkIndex_8e157_r {G : xG} {h : xH} {i n : Int} {sio : Nat} (hi : 0 ≤ i ∧ i < n) (hn : n < 1000) : CC G MJ3_checkIndex_8e157 [.int (iI i), .int (iI n), .ref sio] h (qI (i) h) := by
  show RR G MJ3_checkIndex_8e157 0 [(0, .int (iI i)), (1, .int (iI n)), (2, .ref sio)] [] h (xm_R MJ3_checkIndex_8e157).cells (xm_R MJ3_checkIndex_8e157).slots (qI (i) h)
  refine r_iload_n dJ3_checkIndex_8e157_0 0 rfl ?_
  refine i_iflt dJ3_checkIndex_8e157_1 (tgt := 9) (by decide) (by unfold in32; omega) (fun c1 => ?_) (fun c1 => ?_)
  · exfalso
    omega
  · refine r_iload_n dJ3_checkIndex_8e157_4 0 rfl ?_
    refine r_iload_n dJ3_checkIndex_8e157_5 1 rfl ?_
    refine i_icmplt dJ3_checkIndex_8e157_6 (tgt := 16) (by decide) (by unfold in32; omega) (by unfold in32; omega) (fun c6 => ?_) (fun c6 => ?_)
    · refine r_iload_n dJ3_checkIndex_8e157_16 0 rfl ?_
      refine r_ireturn rfl rfl dJ3_checkIndex_8e157_17 ?_
      exact ⟨rfl, rfl⟩
    · exfalso
      omega
set_option maxRecDepth 20000 in
set_option maxHeartbeats 1000000 in
theorem c_J0_checkIndex_df160_r {G : xG} {h : xH} {i n : Int} {sio : Nat} (hsio : x_zz G (va_Z "jdk/internal/util/Preconditions" "SIOOBE_FORMATTER" "Ljava/util/function/BiFunction;" (.ref sio))) (hi : 0 ≤ i ∧ i < n) (hn : n < 1000) : CC G MJ0_checkIndex_df160 [.int (iI i), .int (iI n)] h (fun o h' => o = .inl none ∧ h' = h) := by
  show RR G MJ0_checkIndex_df160 0 [(0, .int (iI i)), (1, .int (iI n))] [] h (xm_R MJ0_checkIndex_df160).cells (xm_R MJ0_checkIndex_df160).slots (fun o h' => o = .inl none ∧ h' = h)
  refine r_iload_n dJ0_checkIndex_df160_0 0 rfl ?_
  refine r_iload_n dJ0_checkIndex_df160_1 1 rfl ?_
  refine r_gets hsio kg_J0_1053 dJ0_checkIndex_df160_2 ?_
  refine p_callS (As := [.int (iI i), .int (iI n), .ref sio]) (rest := []) (w := (some (.int (iI i)))) (st' := [.int (iI i)]) kv_J0_checkIndex_df160_1059 dJ0_checkIndex_df160_5 rfl rfl (Nat.le_of_ble_eq_true rfl) (Nat.le_of_ble_eq_true rfl) rfl rfl (c_J3_checkIndex_8e157_r hi hn) rfl (fun h9 e9 => ?_)
  rw [show h9 = h from e9]
  refine r_pop dJ0_checkIndex_df160_8 rfl ?_
  refine r_return rfl dJ0_checkIndex_df160_9 ?_
  exact ⟨rfl, rfl⟩
set_option maxRecDepth 20000 in
set_option maxHeartbeats 1000000 in
theorem c_J3_checkIndex_8e157_n {G : xG} {h : xH} {i n : Int} (hi : 0 ≤ i ∧ i < n) (hn : n < 1000) : CC G MJ3_checkIndex_8e157 [.int (iI i), .int (iI n), .null] h (qI (i) h) := by
  show RR G MJ3_checkIndex_8e157 0 [(0, .int (iI i)), (1, .int (iI n)), (2, .null)] [] h (xm_R MJ3_checkIndex_8e157).cells (xm_R MJ3_checkIndex_8e157).slots (qI (i) h)
  refine r_iload_n dJ3_checkIndex_8e157_0 0 rfl ?_
  refine i_iflt dJ3_checkIndex_8e157_1 (tgt := 9) (by decide) (by unfold in32; omega) (fun c1 => ?_) (fun c1 => ?_)
  · exfalso
    omega
  · refine r_iload_n dJ3_checkIndex_8e157_4 0 rfl ?_
    refine r_iload_n dJ3_checkIndex_8e157_5 1 rfl ?_
    refine i_icmplt dJ3_checkIndex_8e157_6 (tgt := 16) (by decide) (by unfold in32; omega) (by unfold in32; omega) (fun c6 => ?_) (fun c6 => ?_)
    · refine r_iload_n dJ3_checkIndex_8e157_16 0 rfl ?_
      refine r_ireturn rfl rfl dJ3_checkIndex_8e157_17 ?_
      exact ⟨rfl, rfl⟩
    · exfalso
      omega
set_option maxRecDepth 20000 in
set_option maxHeartbeats 1000000 in
theorem c_J0_checkIndex_df160_n {G : xG} {h : xH} {i n : Int} (hsio : x_zz G (va_Z "jdk/internal/util/Preconditions" "SIOOBE_FORMATTER" "Ljava/util/function/BiFunction;" (.null))) (hi : 0 ≤ i ∧ i < n) (hn : n < 1000) : CC G MJ0_checkIndex_df160 [.int (iI i), .int (iI n)] h (fun o h' => o = .inl none ∧ h' = h) := by
  show RR G MJ0_checkIndex_df160 0 [(0, .int (iI i)), (1, .int (iI n))] [] h (xm_R MJ0_checkIndex_df160).cells (xm_R MJ0_checkIndex_df160).slots (fun o h' => o = .inl none ∧ h' = h)
  refine r_iload_n dJ0_checkIndex_df160_0 0 rfl ?_
  refine r_iload_n dJ0_checkIndex_df160_1 1 rfl ?_
  refine r_gets hsio kg_J0_1053 dJ0_checkIndex_df160_2 ?_
  refine p_callS (As := [.int (iI i), .int (iI n), .null]) (rest := []) (w := (some (.int (iI i)))) (st' := [.int (iI i)]) kv_J0_checkIndex_df160_1059 dJ0_checkIndex_df160_5 rfl rfl (Nat.le_of_ble_eq_true rfl) (Nat.le_of_ble_eq_true rfl) rfl rfl (c_J3_checkIndex_8e157_n hi hn) rfl (fun h9 e9 => ?_)
  rw [show h9 = h from e9]
  refine r_pop dJ0_checkIndex_df160_8 rfl ?_
  refine r_return rfl dJ0_checkIndex_df160_9 ?_
  exact ⟨rfl, rfl⟩
theorem c_J0_checkIndex_df160 {G : xG} {h : xH} (hGS : GS G) {i n : Int} (hi : 0 ≤ i ∧ i < n) (hn : n < 1000) : CC G MJ0_checkIndex_df160 [.int (iI i), .int (iI n)] h (fun o h' => o = .inl none ∧ h' = h) := by
  rcases hGS.2 with ⟨sio, hsio⟩ | hsio
  · exact c_J0_checkIndex_df160_r hsio hi hn
  · exact c_J0_checkIndex_df160_n hsio hi hn
set_option maxRecDepth 20000 in
set_option maxHeartbeats 1000000 in
theorem c_J1_charAt_3b067 {G : xG} {h : xH} (hGS : GS G) {w : Nat} {tx : List Int} (hW : x_zz G (va_T .byte w tx.length (fun j => .int (iI (tx.getD j 0))))) (hl : tx.length < 100) (hb : ∀ k, k < tx.length → 0 ≤ tx.getD k 0 ∧ tx.getD k 0 < 128) {i : Nat} (hi : i < tx.length) : CC G MJ1_charAt_3b067 [.ref w, .int (iI ((i : Int)))] h (qI (tx.getD i 0) h) := by
  show RR G MJ1_charAt_3b067 0 [(0, .ref w), (1, .int (iI ((i : Int))))] [] h (xm_R MJ1_charAt_3b067).cells (xm_R MJ1_charAt_3b067).slots (qI (tx.getD i 0) h)
  refine r_iload_n dJ1_charAt_3b067_0 1 rfl ?_
  refine r_aload_n dJ1_charAt_3b067_1 0 rfl ?_
  refine i_tlen hW dJ1_charAt_3b067_2 ?_
  refine p_callS (As := [.int (iI ((i : Int))), .int (iI ((tx.length : Int)))]) (rest := []) (w := none) (st' := []) kv_J1_charAt_3b067_9 dJ1_charAt_3b067_3 rfl rfl (Nat.le_of_ble_eq_true rfl) (Nat.le_of_ble_eq_true rfl) rfl rfl (c_J0_checkIndex_df160 hGS (by omega) (by omega)) rfl (fun h9 e9 => ?_)
  rw [show h9 = h from e9]
  refine r_aload_n dJ1_charAt_3b067_6 0 rfl ?_
  refine r_iload_n dJ1_charAt_3b067_7 1 rfl ?_
  refine i_tb hW i rfl dJ1_charAt_3b067_8 (by omega) (by omega) rfl ?_
  refine i_sipush (255) (by decide) dJ1_charAt_3b067_9 ?_
  refine r_iand dJ1_charAt_3b067_12 ?_
  rw [and255 (hb i hi)]
  refine i_i2c dJ1_charAt_3b067_13 (hb i hi) ?_
  refine r_ireturn rfl (ch_nar (hb i hi)) dJ1_charAt_3b067_14 ?_
  exact ⟨rfl, rfl⟩
set_option maxRecDepth 20000 in
set_option maxHeartbeats 1000000 in
theorem c_J0_charAt_5068e {G : xG} {h : xH} (hGS : GS G) {q : Nat} {tx : List Int} (hT : STR G q tx) {i : Nat} (hi : i < tx.length) : CC G MJ0_charAt_5068e [.ref q, .int (iI ((i : Int)))] h (qI (tx.getD i 0) h) := by
  have hT0 := hT
  obtain ⟨⟨w, hO, hC, hV, hW⟩, hl, hb⟩ := hT
  show RR G MJ0_charAt_5068e 0 [(0, .ref q), (1, .int (iI ((i : Int))))] [] h (xm_R MJ0_charAt_5068e).cells (xm_R MJ0_charAt_5068e).slots (qI (tx.getD i 0) h)
  refine r_aload_n dJ0_charAt_5068e_0 0 rfl ?_
  refine p_callV (As := []) (b := q) (rest := []) (w := (some (.int (iI 1)))) (st' := [.int (iI 1)]) kv_J0_charAt_5068e_492 dJ0_charAt_5068e_1 rfl rfl (Nat.le_of_ble_eq_true rfl) (Nat.le_of_ble_eq_true rfl) (x_rvc hO) rfl rfl (c_J0_isLatin1_aae02 hGS hT0) rfl (fun h9 e9 => ?_)
  rw [show h9 = h from e9]
  refine i_ifeq dJ0_charAt_5068e_4 (tgt := 16) (by decide) ⟨by decide, by decide⟩ (fun c => absurd c (by decide)) (fun _ => ?_)
  refine r_aload_n dJ0_charAt_5068e_7 0 rfl ?_
  refine r_getc hV kg_J0_9 dJ0_charAt_5068e_8 ?_
  refine r_iload_n dJ0_charAt_5068e_11 1 rfl ?_
  refine p_callS (As := [.ref w, .int (iI ((i : Int)))]) (rest := []) (w := (some (.int (iI (tx.getD i 0))))) (st' := [.int (iI (tx.getD i 0))]) kv_J0_charAt_5068e_495 dJ0_charAt_5068e_12 rfl rfl (Nat.le_of_ble_eq_true rfl) (Nat.le_of_ble_eq_true rfl) rfl rfl (c_J1_charAt_3b067 hGS hW hl hb hi) rfl (fun h9 e9 => ?_)
  rw [show h9 = h from e9]
  refine r_ireturn rfl (ch_nar (hb i hi)) dJ0_charAt_5068e_15 ?_
  exact ⟨rfl, rfl⟩
