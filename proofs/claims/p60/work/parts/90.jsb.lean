/-! ===== the JDK's StringBuilder: what a builder holds ===== -/
section BROWS
variable {G : xG} {M : xM} {h : xH} {pc : Nat} {ls : List (Nat × Value)} {st : List Value} {kc ks : Nat} {Q : xR → xH → Prop}
theorem r_ishl {x y : Int32} (hd : decode M.2.1 pc = .ok (.ishl, 1)) (k : RR G M (pc + 1) ls (.int (x <<< (y &&& 31)) :: st) h kc ks Q) : RR G M pc ls (.int y :: .int x :: st) h kc ks Q := rr_of k fun _ _ _ _ _ _ _ _ _ _ _ _ _ _ _ _ E _ kk => lv_ishl E.1.1 E.1.2.1 hd kk
theorem r_ior {x y : Int32} (hd : decode M.2.1 pc = .ok (.ior, 1)) (k : RR G M (pc + 1) ls (.int (x ||| y) :: st) h kc ks Q) : RR G M pc ls (.int y :: .int x :: st) h kc ks Q := rr_of k fun _ _ _ _ _ _ _ _ _ _ _ _ _ _ _ _ E _ kk => lv_ior E.1.1 E.1.2.1 hd kk
theorem r_dupx1 {v w : Value} (hd : decode M.2.1 pc = .ok (.dup_x1, 1)) (hv : v.category = 1) (hw : w.category = 1) (k : RR G M (pc + 1) ls (v :: w :: v :: st) h kc ks Q) : RR G M pc ls (v :: w :: st) h kc ks Q := rr_of k fun _ _ _ _ _ _ _ _ _ _ _ _ _ _ _ _ E _ kk => lv_dup_x1 E.1.1 E.1.2.1 hd hv hw kk
theorem c128_c : ∀ n : Fin 128, (iI (n.val : Int)).toInt8.toInt32 = iI (n.val : Int) := by decide
theorem i_i2b {z : Int} (hd : decode M.2.1 pc = .ok (.i2b, 1)) (hz : 0 ≤ z ∧ z < 128) (k : RR G M (pc + 1) ls (.int (iI z) :: st) h kc ks Q) : RR G M pc ls (.int (iI z) :: st) h kc ks Q := rr_of k fun _ _ _ _ _ _ _ _ _ _ _ _ _ _ _ _ E _ kk => by
  refine lv_i2b E.1.1 E.1.2.1 hd (v := iI z) ?_ kk
  have e : z = ((z.toNat : Nat) : Int) := by omega
  rw [e]; exact c128_c ⟨z.toNat, by omega⟩
theorem r_areturnA {a : Nat} {t : FieldType} (hr : M.2.2.2.1 = some (.array t)) (hd : decode M.2.1 pc = .ok (.areturn, 1)) (hQ : Q (.inl (some (.ref a))) h) : RR G M pc ls [.ref a] h kc ks Q := rr_end hQ fun _ _ _ _ _ _ _ _ _ _ _ _ _ _ _ E u b => W.aret E.1.1 E.1.2.1 (E.2.1.trans hr) (Or.inr ⟨t, rfl⟩) (Or.inr ⟨a, rfl⟩) u b hd E.2.2.1
end BROWS
theorem shl0 (x : Int32) : x <<< (iI 0 &&& 31) = x := by rw [show iI 0 &&& 31 = 0 by decide]; simp
/-- a builder: its row of bytes, the text -/
def SBB (G : xG) (h : xH) (o v cap : Nat) (T : List Int) (g : Nat → Int32) (ml : Int32) : Prop := (o ∈ h.1 ∧ v ∈ h.1) ∧ h.2 o = .inr (9, [.ref v, .int (iI 0), .int ml, .int (iI (T.length : Int))]) ∧ h.2 v = .inl (G.2.1 2, cap, .inl g) ∧ T.length ≤ cap ∧ cap ≤ 700 ∧ (∀ k, bok (g k)) ∧ ∀ k, k < T.length → g k = iI (T.getD k 0)
theorem bok.cpy {f g : Nat → Int32} (hf : ∀ k, bok (f k)) (hg : ∀ k, bok (g k)) (a b n k : Nat) : bok (va_cpy f g a b n k) := by
  unfold va_cpy
  split
  · exact hf _
  · exact hg _
theorem bok.up {g : Nat → Int32} (hg : ∀ k, bok (g k)) (i : Nat) {z : Int} (hz : 0 ≤ z ∧ z < 128) (k : Nat) : bok (upd g i (iI z) k) := by
  unfold upd
  split
  · exact bok.mk hz
  · exact hg k
theorem STR.bok {G : xG} {q : Nat} {tx : List Int} (hT : STR G q tx) (k : Nat) : bok (iI (tx.getD k 0)) := by
  by_cases h : k < tx.length
  · exact bok.mk (hT.2.2 k h)
  · have e : tx.getD k 0 = 0 := by simp [Nat.not_lt.mp h]
    rw [e]; exact bok.mk (by omega)
theorem cat_cpy {T tx : List Int} {g : Nat → Int32} (hr : ∀ k, k < T.length → g k = iI (T.getD k 0)) : ∀ k, k < (T ++ tx).length → va_cpy (fun j => iI (tx.getD j 0)) g 0 T.length tx.length k = iI ((T ++ tx).getD k 0) := by
  intro k hk
  rw [List.length_append] at hk
  unfold va_cpy
  by_cases c : T.length ≤ k
  · rw [if_pos ⟨c, by omega⟩]
    show iI (tx.getD (0 + (k - T.length)) 0) = _
    rw [Nat.zero_add, List.getD_eq_getElem?_getD, List.getD_eq_getElem?_getD, List.getElem?_append_right c]
  · rw [if_neg (by omega), hr k (by omega)]
    rw [List.getD_eq_getElem?_getD, List.getD_eq_getElem?_getD, List.getElem?_append_left (by omega)]
theorem cat_upd {T : List Int} {g : Nat → Int32} {z : Int} (hr : ∀ k, k < T.length → g k = iI (T.getD k 0)) : ∀ k, k < (T ++ [z]).length → upd g T.length (iI z) k = iI ((T ++ [z]).getD k 0) := by
  intro k hk
  rw [List.length_append] at hk
  have hk : k < T.length + 1 := hk
  unfold upd
  by_cases c : k = T.length
  · rw [if_pos c, c, List.getD_eq_getElem?_getD, List.getElem?_append_right (Nat.le_refl _)]; simp
  · rw [if_neg c, hr k (by omega), List.getD_eq_getElem?_getD, List.getD_eq_getElem?_getD, List.getElem?_append_left (by omega)]
/-- the digits' tables -/
def GN (G : xG) : Prop := (∃ d1 : Nat, x_zz G (va_Z "java/lang/Integer" "DigitOnes" "[B" (.ref d1)) ∧ x_zz G (va_T .byte d1 100 (fun j => .int (iI (48 + (j : Int) % 10))))) ∧ ∃ d2 : Nat, x_zz G (va_Z "java/lang/Integer" "DigitTens" "[B" (.ref d2)) ∧ x_zz G (va_T .byte d2 100 (fun j => .int (iI (48 + (j : Int) / 10))))

theorem GRp.off2 {fp fp' : List Nat} {h h1 h2 : xH} (x : GRp fp h h1) (y : GRp fp' h1 h2) (hn : ∀ q ∈ fp', q ∈ h.1 → q ∈ fp) : GRp fp h h2 := ⟨fun q z => y.1 q (x.1 q z), fun q z n => (y.2 q (x.1 q z) (fun m => n (hn q m z))).trans (x.2 q z n)⟩
abbrev qN (P : Nat → xH → Prop) : xR → xH → Prop := fun o h' => ∃ q : Nat, o = .inl (some (.ref q)) ∧ P q h'
section QCALL
variable {G : xG} {M M' : xM} {h : xH} {pc : Nat} {ls : List (Nat × Value)} {st rest : List Value} {kc ks : Nat} {Q : xR → xH → Prop} {P : Nat → xH → Prop}
theorem q_callS {idx n : Nat} {As : List Value} (hL : x_LS M idx M' n) (hd : decode M.2.1 pc = .ok (.invokestatic idx, 3)) (hst : st = As.reverse ++ rest) (hn : As.length = n) (hrest : (rest.map fun v => v.category).sum ≤ 8) (hlen : (lg_sl As).length ≤ M'.2.2.1) (h1 : (xm_R M').cells ≤ kc) (h2 : (xm_R M').slots ≤ ks) (spec : CC G M' As h (qN P)) (kk : ∀ q h', P q h' → RR G M (pc + 3) ls (.ref q :: rest) h' (kc - (xm_R M').cells) (ks - (xm_R M').slots) Q) : RR G M pc ls st h kc ks Q := by
  refine r_callS hL hd hst hn hrest hlen h1 h2 spec (fun E h' q => by obtain ⟨_, q1, _⟩ := q; cases q1) (fun v h' q => ?_)
  obtain ⟨x, q1, q2⟩ := q
  cases q1
  exact kk x h' q2
theorem q_callV {idx n b : Nat} {As : List Value} (hL : x_LV M idx M' n) (hd : decode M.2.1 pc = .ok (.invokevirtual idx, 3)) (hst : st = As.reverse ++ .ref b :: rest) (hn : As.length = n) (hrest : (rest.map fun v => v.category).sum ≤ 8) (hlen : (lg_sl (.ref b :: As)).length ≤ M'.2.2.1) (hrv : x_RV G h M'.1.cls b) (h1 : (xm_R M').cells ≤ kc) (h2 : (xm_R M').slots ≤ ks) (spec : CC G M' (.ref b :: As) h (qN P)) (kk : ∀ q h', P q h' → RR G M (pc + 3) ls (.ref q :: rest) h' (kc - (xm_R M').cells) (ks - (xm_R M').slots) Q) : RR G M pc ls st h kc ks Q := by
  refine r_callV hL hd hst hn hrest hlen hrv h1 h2 spec (fun E h' q => by obtain ⟨_, q1, _⟩ := q; cases q1) (fun v h' q => ?_)
  obtain ⟨x, q1, q2⟩ := q
  cases q1
  exact kk x h' q2
end QCALL
/-- one thing more, at q; all else as it was -/
def NEW1 (h h9 : xH) (q : Nat) (e : va_E) : Prop := q ∉ h.1 ∧ h9.1 = h.1 ++ [q] ∧ h9.2 q = e ∧ ∀ x, x ≠ q → h9.2 x = h.2 x
/-- what an append leaves -/
def SBP (G : xG) (h h9 : xH) (o v : Nat) (T : List Int) (ml : Int32) : Prop := ∃ (v' cap' : Nat) (g' : Nat → Int32), SBB G h9 o v' cap' T g' ml ∧ (v' = v ∨ v' ∉ h.1) ∧ GRp [o, v] h h9
/-- the digits of a number of at most two -/
def dg (i : Int) : List Int := if i < 10 then [48 + i] else [48 + i / 10, 48 + i % 10]
theorem dg_1 {i : Int} (h : i < 10) : dg i = [48 + i] := if_pos h
theorem dg_2 {i : Int} (h : ¬ i < 10) : dg i = [48 + i / 10, 48 + i % 10] := if_neg h
theorem dg_len {i : Int} : ((dg i).length : Int) = (if i < 10 then 1 else 2) := by unfold dg; split <;> rfl
theorem cat_dg {T : List Int} {D : List Int} {g g' : Nat → Int32} (hr : ∀ k, k < T.length → g k = iI (T.getD k 0)) (h1 : ∀ k, k < T.length → g' k = g k) (h2 : ∀ k, k < D.length → g' (T.length + k) = iI (D.getD k 0)) : ∀ k, k < (T ++ D).length → g' k = iI ((T ++ D).getD k 0) := by
  intro k hk
  rw [List.length_append] at hk
  by_cases c : k < T.length
  · rw [h1 k c, hr k c, List.getD_eq_getElem?_getD, List.getD_eq_getElem?_getD, List.getElem?_append_left c]
  · have := h2 (k - T.length) (by omega)
    rw [show T.length + (k - T.length) = k by omega] at this
    rw [this, List.getD_eq_getElem?_getD, List.getD_eq_getElem?_getD, List.getElem?_append_right (by omega)]
set_option maxRecDepth 20000 in
set_option maxHeartbeats 1000000 in
theorem c_J5_isLatin1_aae02 {G : xG} {h : xH} {o v cap : Nat} {T : List Int} {g : Nat → Int32} {ml : Int32} (hS : SBB G h o v cap T g ml) (hGS : GS G) : CC G MJ5_isLatin1_aae02 [.ref o] h (qI (1) h) := by
  have hS0 := hS
  obtain ⟨⟨mo, mv⟩, fo, fv, hTc, hcap, hg, hr⟩ := hS
  have nov : o ≠ v := ne_oi fo fv
  show RR G MJ5_isLatin1_aae02 0 [(0, .ref o)] [] h (xm_R MJ5_isLatin1_aae02).cells (xm_R MJ5_isLatin1_aae02).slots (qI (1) h)
  refine r_gets hGS.1 kg_J5_18 dJ5_isLatin1_aae02_0 ?_
  refine i_ifeq dJ5_isLatin1_aae02_3 (tgt := 17) (by decide) ⟨by decide, by decide⟩ (fun c => absurd c (by decide)) (fun _ => ?_)
  refine r_aload_n dJ5_isLatin1_aae02_6 0 rfl ?_
  refine r_get cl_J4 1 (by decide) kg_J5_22 dJ5_isLatin1_aae02_7 mo fo rfl ?_
  refine i_ifne dJ5_isLatin1_aae02_10 (tgt := 17) (by decide) ⟨by decide, by decide⟩ (fun c => absurd c (by decide)) (fun _ => ?_)
  refine i_const (1) dJ5_isLatin1_aae02_13 ?_
  refine r_goto dJ5_isLatin1_aae02_14 (tgt := 18) (by decide) ?_
  refine r_ireturn rfl (b2_nar true) dJ5_isLatin1_aae02_18 ?_
  exact ⟨rfl, rfl⟩
set_option maxRecDepth 20000 in
set_option maxHeartbeats 1000000 in
theorem c_J5_getValue_6d5f1 {G : xG} {h : xH} {o v cap : Nat} {T : List Int} {g : Nat → Int32} {ml : Int32} (hS : SBB G h o v cap T g ml) : CC G MJ5_getValue_6d5f1 [.ref o] h (fun o' h' => o' = .inl (some (.ref v)) ∧ h' = h) := by
  have hS0 := hS
  obtain ⟨⟨mo, mv⟩, fo, fv, hTc, hcap, hg, hr⟩ := hS
  have nov : o ≠ v := ne_oi fo fv
  show RR G MJ5_getValue_6d5f1 0 [(0, .ref o)] [] h (xm_R MJ5_getValue_6d5f1).cells (xm_R MJ5_getValue_6d5f1).slots (fun o' h' => o' = .inl (some (.ref v)) ∧ h' = h)
  refine r_aload_n dJ5_getValue_6d5f1_0 0 rfl ?_
  refine r_get cl_J4 0 (by decide) kg_J5_15 dJ5_getValue_6d5f1_1 mo fo rfl ?_
  refine r_areturnA rfl dJ5_getValue_6d5f1_4 ?_
  exact ⟨rfl, rfl⟩
set_option maxRecDepth 20000 in
set_option maxHeartbeats 1000000 in
theorem c_J5_length_8abf5 {G : xG} {h : xH} {o v cap : Nat} {T : List Int} {g : Nat → Int32} {ml : Int32} (hS : SBB G h o v cap T g ml) : CC G MJ5_length_8abf5 [.ref o] h (qI ((T.length : Int)) h) := by
  have hS0 := hS
  obtain ⟨⟨mo, mv⟩, fo, fv, hTc, hcap, hg, hr⟩ := hS
  have nov : o ≠ v := ne_oi fo fv
  show RR G MJ5_length_8abf5 0 [(0, .ref o)] [] h (xm_R MJ5_length_8abf5).cells (xm_R MJ5_length_8abf5).slots (qI ((T.length : Int)) h)
  refine r_aload_n dJ5_length_8abf5_0 0 rfl ?_
  refine r_get cl_J4 3 (by decide) kg_J5_79 dJ5_length_8abf5_1 mo fo rfl ?_
  refine r_ireturn rfl rfl dJ5_length_8abf5_4 ?_
  exact ⟨rfl, rfl⟩
set_option maxRecDepth 20000 in
set_option maxHeartbeats 1000000 in
theorem c_J4_length_8abf5 {G : xG} {h : xH} {o v cap : Nat} {T : List Int} {g : Nat → Int32} {ml : Int32} (hS : SBB G h o v cap T g ml) : CC G MJ4_length_8abf5 [.ref o] h (qI ((T.length : Int)) h) := by
  have hS0 := hS
  obtain ⟨⟨mo, mv⟩, fo, fv, hTc, hcap, hg, hr⟩ := hS
  have nov : o ≠ v := ne_oi fo fv
  show RR G MJ4_length_8abf5 0 [(0, .ref o)] [] h (xm_R MJ4_length_8abf5).cells (xm_R MJ4_length_8abf5).slots (qI ((T.length : Int)) h)
  refine r_aload_n dJ4_length_8abf5_0 0 rfl ?_
  refine k_callSU (As := []) (b := o) (rest := []) (w := (some (.int (iI ((T.length : Int)))))) (st' := [.int (iI ((T.length : Int)))]) kl_J4_length_8abf5_343 kw_J4_length_8abf5_343 (by decide) dJ4_length_8abf5_1 rfl rfl (Nat.le_of_ble_eq_true rfl) (Nat.le_of_ble_eq_true rfl) mo fo rfl (by first | omega | exact Nat.le_of_ble_eq_true rfl) (by first | omega | exact Nat.le_of_ble_eq_true rfl) (c_J5_length_8abf5 hS0) rfl (fun hk1 e9k1 => ?_)
  rw [show hk1 = h from e9k1]
  refine r_ireturn rfl rfl dJ4_length_8abf5_4 ?_
  exact ⟨rfl, rfl⟩
set_option maxRecDepth 20000 in
set_option maxHeartbeats 1000000 in
theorem c_J8_newLength_cabcc {G : xG} {h : xH} {a b c : Int} (ha : 0 ≤ a ∧ a ≤ 700) (hb : -1000 ≤ b ∧ b ≤ 1000) (hc : 1 ≤ c ∧ c ≤ 800) : CC G MJ8_newLength_cabcc [.int (iI a), .int (iI b), .int (iI c)] h (qI (a + max b c) h) := by
  show RR G MJ8_newLength_cabcc 0 [(0, .int (iI a)), (1, .int (iI b)), (2, .int (iI c))] [] h (xm_R MJ8_newLength_cabcc).cells (xm_R MJ8_newLength_cabcc).slots (qI (a + max b c) h)
  refine r_iload_n dJ8_newLength_cabcc_0 0 rfl ?_
  refine r_iload_n dJ8_newLength_cabcc_1 1 rfl ?_
  refine r_iload_n dJ8_newLength_cabcc_2 2 rfl ?_
  refine i_max (kv_J8_newLength_cabcc_194 1 (by decide)) rfl dJ8_newLength_cabcc_3 (by unfold in32; omega) (by unfold in32; omega) ?_
  refine i_add dJ8_newLength_cabcc_6 ?_
  refine r_istore_n (ls' := [(0, .int (iI a)), (1, .int (iI b)), (2, .int (iI c)), (3, .int (iI (a + (max b c))))]) dJ8_newLength_cabcc_7 (by decide) rfl ?_
  refine i_const (0) dJ8_newLength_cabcc_8 ?_
  refine r_iload_n dJ8_newLength_cabcc_9 3 rfl ?_
  refine i_icmpge dJ8_newLength_cabcc_10 (tgt := 21) (by decide) ⟨by decide, by decide⟩ (by unfold in32; omega) (fun c10 => ?_) (fun c10 => ?_)
  · exfalso
    omega
  · refine r_iload_n dJ8_newLength_cabcc_13 3 rfl ?_
    refine i_ldc (2147483639) (by decide) kk_J8_200 dJ8_newLength_cabcc_14 ?_
    refine i_icmpgt dJ8_newLength_cabcc_16 (tgt := 21) (by decide) (by unfold in32; omega) ⟨by decide, by decide⟩ (fun c16 => ?_) (fun c16 => ?_)
    · exfalso
      omega
    · refine r_iload_n dJ8_newLength_cabcc_19 3 rfl ?_
      refine r_ireturn rfl rfl dJ8_newLength_cabcc_20 ?_
      exact ⟨rfl, rfl⟩
set_option maxRecDepth 20000 in
set_option maxHeartbeats 1000000 in
theorem c_J5_newCapacity_0f7a4 {G : xG} {h : xH} {o v cap : Nat} {T : List Int} {g : Nat → Int32} {ml : Int32} (hS : SBB G h o v cap T g ml) {n : Int} (hn : 0 ≤ n ∧ n ≤ 400) : CC G MJ5_newCapacity_0f7a4 [.ref o, .int (iI n)] h (qI ((cap : Int) + max (n - (cap : Int)) ((cap : Int) + 2)) h) := by
  have hS0 := hS
  obtain ⟨⟨mo, mv⟩, fo, fv, hTc, hcap, hg, hr⟩ := hS
  have nov : o ≠ v := ne_oi fo fv
  show RR G MJ5_newCapacity_0f7a4 0 [(0, .ref o), (1, .int (iI n))] [] h (xm_R MJ5_newCapacity_0f7a4).cells (xm_R MJ5_newCapacity_0f7a4).slots (qI ((cap : Int) + max (n - (cap : Int)) ((cap : Int) + 2)) h)
  refine r_aload_n dJ5_newCapacity_0f7a4_0 0 rfl ?_
  refine r_get cl_J4 0 (by decide) kg_J5_15 dJ5_newCapacity_0f7a4_1 mo fo rfl ?_
  refine r_alen (t := 2) (v := iI (cap : Int)) rfl dJ5_newCapacity_0f7a4_4 mv fv (iI_nat _).symm ?_
  refine r_istore_n (ls' := [(0, .ref o), (1, .int (iI n)), (2, .int (iI ((cap : Int))))]) dJ5_newCapacity_0f7a4_5 (by decide) rfl ?_
  refine r_iload_n dJ5_newCapacity_0f7a4_6 1 rfl ?_
  refine r_aload_n dJ5_newCapacity_0f7a4_7 0 rfl ?_
  refine r_get cl_J4 1 (by decide) kg_J5_22 dJ5_newCapacity_0f7a4_8 mo fo rfl ?_
  refine r_ishl dJ5_newCapacity_0f7a4_11 ?_
  rw [shl0]
  refine r_istore_n (ls' := [(0, .ref o), (1, .int (iI n)), (2, .int (iI ((cap : Int)))), (3, .int (iI n))]) dJ5_newCapacity_0f7a4_12 (by decide) rfl ?_
  refine r_iload_n dJ5_newCapacity_0f7a4_13 3 rfl ?_
  refine r_iload_n dJ5_newCapacity_0f7a4_14 2 rfl ?_
  refine i_sub dJ5_newCapacity_0f7a4_15 ?_
  refine r_istore (ls' := [(0, .ref o), (1, .int (iI n)), (2, .int (iI ((cap : Int)))), (3, .int (iI n)), (4, .int (iI (n - (cap : Int))))]) dJ5_newCapacity_0f7a4_16 (by decide) rfl ?_
  refine r_iload_n dJ5_newCapacity_0f7a4_18 2 rfl ?_
  refine r_iload dJ5_newCapacity_0f7a4_19 4 rfl ?_
  refine r_iload_n dJ5_newCapacity_0f7a4_21 2 rfl ?_
  refine i_const (2) dJ5_newCapacity_0f7a4_22 ?_
  refine r_aload_n dJ5_newCapacity_0f7a4_23 0 rfl ?_
  refine r_get cl_J4 1 (by decide) kg_J5_22 dJ5_newCapacity_0f7a4_24 mo fo rfl ?_
  refine r_ishl dJ5_newCapacity_0f7a4_27 ?_
  rw [shl0]
  refine i_add dJ5_newCapacity_0f7a4_28 ?_
  refine p_callS (As := [.int (iI ((cap : Int))), .int (iI (n - (cap : Int))), .int (iI ((cap : Int) + 2))]) (rest := []) (w := (some (.int (iI ((cap : Int) + max (n - (cap : Int)) ((cap : Int) + 2)))))) (st' := [.int (iI ((cap : Int) + max (n - (cap : Int)) ((cap : Int) + 2)))]) kv_J5_newCapacity_0f7a4_114 dJ5_newCapacity_0f7a4_29 rfl rfl (Nat.le_of_ble_eq_true rfl) (Nat.le_of_ble_eq_true rfl) rfl rfl (c_J8_newLength_cabcc (by omega) (by omega) (by omega)) rfl (fun hk1 e9k1 => ?_)
  rw [show hk1 = h from e9k1]
  refine r_istore (ls' := [(0, .ref o), (1, .int (iI n)), (2, .int (iI ((cap : Int)))), (3, .int (iI n)), (4, .int (iI (n - (cap : Int)))), (5, .int (iI ((cap : Int) + max (n - (cap : Int)) ((cap : Int) + 2))))]) dJ5_newCapacity_0f7a4_32 (by decide) rfl ?_
  refine r_iload dJ5_newCapacity_0f7a4_34 5 rfl ?_
  refine i_ldc (2147483647) (by decide) kk_J5_39 dJ5_newCapacity_0f7a4_36 ?_
  refine i_icmpne dJ5_newCapacity_0f7a4_38 (tgt := 51) (by decide) (by unfold in32; omega) ⟨by decide, by decide⟩ (fun c38 => ?_) (fun c38 => ?_)
  · refine r_iload dJ5_newCapacity_0f7a4_51 5 rfl ?_
    refine r_aload_n dJ5_newCapacity_0f7a4_53 0 rfl ?_
    refine r_get cl_J4 1 (by decide) kg_J5_22 dJ5_newCapacity_0f7a4_54 mo fo rfl ?_
    refine r_ishr dJ5_newCapacity_0f7a4_57 ?_
    rw [shr0]
    refine r_ireturn rfl rfl dJ5_newCapacity_0f7a4_58 ?_
    exact ⟨rfl, rfl⟩
  · exfalso
    omega
set_option maxRecDepth 20000 in
set_option maxHeartbeats 1000000 in
theorem c_J7_copyOf_9075b {G : xG} {h : xH} {v cap n : Nat} {g : Nat → Int32} (mv : v ∈ h.1) (fv : h.2 v = .inl (G.2.1 2, cap, .inl g)) (hn : cap < n ∧ n ≤ 1000) (hg : ∀ k, bok (g k)) : CC G MJ7_copyOf_9075b [.ref v, .int (iI ((n : Int)))] h (qN (fun q h' => NEW1 h h' q (.inl (G.2.1 2, n, .inl (va_cpy g (fun _ => iI 0) 0 0 cap))))) := by
  show RR G MJ7_copyOf_9075b 0 [(0, .ref v), (1, .int (iI ((n : Int))))] [] h (xm_R MJ7_copyOf_9075b).cells (xm_R MJ7_copyOf_9075b).slots (qN (fun q h' => NEW1 h h' q (.inl (G.2.1 2, n, .inl (va_cpy g (fun _ => iI 0) 0 0 cap)))))
  refine r_iload_n dJ7_copyOf_9075b_0 1 rfl ?_
  refine r_aload_n dJ7_copyOf_9075b_1 0 rfl ?_
  refine r_alen (t := 2) (v := iI (cap : Int)) rfl dJ7_copyOf_9075b_2 mv fv (iI_nat _).symm ?_
  refine i_icmpne dJ7_copyOf_9075b_3 (tgt := 14) (by decide) (by unfold in32; omega) (by unfold in32; omega) (fun c3 => ?_) (fun c3 => ?_)
  · refine r_iload_n dJ7_copyOf_9075b_14 1 rfl ?_
    refine i_newB n rfl (by omega) dJ7_copyOf_9075b_15 (Nat.le_of_ble_eq_true rfl) (Nat.le_trans (show n ≤ 1000 by omega) (Nat.le_of_ble_eq_true rfl)) (fun qn1 hn1 hqn1 e0_n1 e1_n1 e2_n1 => ?_)
    have nv_n1 : v ≠ qn1 := fun z => hqn1 (by rw [← z]; exact mv)
    have fv_n1 := (e2_n1 v nv_n1).trans fv
    have mv_n1 : v ∈ hn1.1 := by rw [e0_n1]; exact List.mem_append_left _ mv
    have mqn1 : qn1 ∈ hn1.1 := by rw [e0_n1]; exact List.mem_append_right _ (List.mem_singleton.mpr rfl)
    refine r_astore_n (ls' := [(0, .ref v), (1, .int (iI ((n : Int)))), (2, .ref qn1)]) dJ7_copyOf_9075b_17 (by decide) rfl ?_
    refine r_aload_n dJ7_copyOf_9075b_18 0 rfl ?_
    refine i_const (0) dJ7_copyOf_9075b_19 ?_
    refine r_aload_n dJ7_copyOf_9075b_20 2 rfl ?_
    refine i_const (0) dJ7_copyOf_9075b_21 ?_
    refine r_aload_n dJ7_copyOf_9075b_22 0 rfl ?_
    refine r_alen (t := 2) (v := iI (cap : Int)) rfl dJ7_copyOf_9075b_23 mv_n1 fv_n1 (iI_nat _).symm ?_
    refine r_iload_n dJ7_copyOf_9075b_24 1 rfl ?_
    refine i_min (kv_J7_copyOf_9075b_304 4 (by decide)) rfl dJ7_copyOf_9075b_25 (by unfold in32; omega) (by unfold in32; omega) ?_
    refine i_copyB 0 0 cap rfl rfl (by omega) (kv_J7_copyOf_9075b_150 0 (by decide)) rfl dJ7_copyOf_9075b_28 mv_n1 fv_n1 mqn1 e1_n1 (by omega) (by omega) (by omega) (by omega) hg (fun h2 e0_2 e1_2 e2_2 => ?_)
    have mv_2 : v ∈ h2.1 := by rw [e0_2]; exact mv_n1
    have fv_2 := (e2_2 _ nv_n1).trans fv_n1
    have mqn1_2 : qn1 ∈ h2.1 := by rw [e0_2]; exact mqn1
    refine r_aload_n dJ7_copyOf_9075b_31 2 rfl ?_
    refine r_areturnA rfl dJ7_copyOf_9075b_32 ?_
    exact ⟨qn1, rfl, hqn1, by rw [e0_2]; exact e0_n1, e1_2, fun x hx => (e2_2 x hx).trans (e2_n1 x hx)⟩
  · exfalso
    omega
set_option maxRecDepth 20000 in
set_option maxHeartbeats 1000000 in
theorem c_J1_canEncode_fc78d {G : xG} {h : xH} {c : Int} (hc : 0 ≤ c ∧ c < 128) : CC G MJ1_canEncode_fc78d [.int (iI c)] h (qI (1) h) := by
  show RR G MJ1_canEncode_fc78d 0 [(0, .int (iI c))] [] h (xm_R MJ1_canEncode_fc78d).cells (xm_R MJ1_canEncode_fc78d).slots (qI (1) h)
  refine r_iload_n dJ1_canEncode_fc78d_0 0 rfl ?_
  refine i_sipush (255) (by decide) dJ1_canEncode_fc78d_1 ?_
  refine i_icmpgt dJ1_canEncode_fc78d_4 (tgt := 11) (by decide) (by unfold in32; omega) ⟨by decide, by decide⟩ (fun c4 => ?_) (fun c4 => ?_)
  · exfalso
    omega
  · refine i_const (1) dJ1_canEncode_fc78d_7 ?_
    refine r_goto dJ1_canEncode_fc78d_8 (tgt := 12) (by decide) ?_
    refine r_ireturn rfl (b2_nar true) dJ1_canEncode_fc78d_12 ?_
    exact ⟨rfl, rfl⟩
set_option maxRecDepth 20000 in
set_option maxHeartbeats 1000000 in
theorem c_J5_ensureCapacityInternal_d00df {G : xG} {h : xH} {o v cap : Nat} {T : List Int} {g : Nat → Int32} {ml : Int32} (hS : SBB G h o v cap T g ml) {n : Int} (hn : 0 ≤ n ∧ n ≤ 320) : CC G MJ5_ensureCapacityInternal_d00df [.ref o, .int (iI n)] h (fun o' h' => o' = .inl none ∧ ∃ (v' cap' : Nat) (g' : Nat → Int32), SBB G h' o v' cap' T g' ml ∧ n ≤ (cap' : Int) ∧ (v' = v ∨ v' ∉ h.1) ∧ GRp [o] h h') := by
  have hS0 := hS
  obtain ⟨⟨mo, mv⟩, fo, fv, hTc, hcap, hg, hr⟩ := hS
  have nov : o ≠ v := ne_oi fo fv
  show RR G MJ5_ensureCapacityInternal_d00df 0 [(0, .ref o), (1, .int (iI n))] [] h (xm_R MJ5_ensureCapacityInternal_d00df).cells (xm_R MJ5_ensureCapacityInternal_d00df).slots (fun o' h' => o' = .inl none ∧ ∃ (v' cap' : Nat) (g' : Nat → Int32), SBB G h' o v' cap' T g' ml ∧ n ≤ (cap' : Int) ∧ (v' = v ∨ v' ∉ h.1) ∧ GRp [o] h h')
  refine r_aload_n dJ5_ensureCapacityInternal_d00df_0 0 rfl ?_
  refine r_get cl_J4 0 (by decide) kg_J5_15 dJ5_ensureCapacityInternal_d00df_1 mo fo rfl ?_
  refine r_alen (t := 2) (v := iI (cap : Int)) rfl dJ5_ensureCapacityInternal_d00df_4 mv fv (iI_nat _).symm ?_
  refine r_aload_n dJ5_ensureCapacityInternal_d00df_5 0 rfl ?_
  refine r_get cl_J4 1 (by decide) kg_J5_22 dJ5_ensureCapacityInternal_d00df_6 mo fo rfl ?_
  refine r_ishr dJ5_ensureCapacityInternal_d00df_9 ?_
  rw [shr0]
  refine r_istore_n (ls' := [(0, .ref o), (1, .int (iI n)), (2, .int (iI ((cap : Int))))]) dJ5_ensureCapacityInternal_d00df_10 (by decide) rfl ?_
  refine r_iload_n dJ5_ensureCapacityInternal_d00df_11 1 rfl ?_
  refine r_iload_n dJ5_ensureCapacityInternal_d00df_12 2 rfl ?_
  refine i_sub dJ5_ensureCapacityInternal_d00df_13 ?_
  refine i_ifle dJ5_ensureCapacityInternal_d00df_14 (tgt := 38) (by decide) (by unfold in32; omega) (fun c14 => ?_) (fun c14 => ?_)
  · refine r_return rfl dJ5_ensureCapacityInternal_d00df_38 ?_
    exact ⟨rfl, v, cap, g, hS0, by omega, Or.inl rfl, GRp.rf⟩
  · refine r_aload_n dJ5_ensureCapacityInternal_d00df_17 0 rfl ?_
    refine r_aload_n dJ5_ensureCapacityInternal_d00df_18 0 rfl ?_
    refine r_get cl_J4 0 (by decide) kg_J5_15 dJ5_ensureCapacityInternal_d00df_19 mo fo rfl ?_
    refine r_aload_n dJ5_ensureCapacityInternal_d00df_22 0 rfl ?_
    refine r_iload_n dJ5_ensureCapacityInternal_d00df_23 1 rfl ?_
    refine k_callU (x := ⟨"java/lang/AbstractStringBuilder", "newCapacity", "(I)I"⟩) (C := RJ4) (As := [.int (iI n)]) (b := o) (rest := [.ref v, .ref o]) (w := (some (.int (iI ((cap : Int) + max (n - (cap : Int)) ((cap : Int) + 2)))))) (st' := [.int (iI ((cap : Int) + max (n - (cap : Int)) ((cap : Int) + 2))), .ref v, .ref o]) kl_J5_ensureCapacityInternal_d00df_104 kw_J5_ensureCapacityInternal_d00df_104 rfl rfl dJ5_ensureCapacityInternal_d00df_24 rfl rfl (Nat.le_of_ble_eq_true rfl) (Nat.le_of_ble_eq_true rfl) (x_rv mo fo rfl) (by first | omega | exact Nat.le_of_ble_eq_true rfl) (by first | omega | exact Nat.le_of_ble_eq_true rfl) (c_J5_newCapacity_0f7a4 hS0 (by omega)) rfl (fun hk1 e9k1 => ?_)
    rw [show hk1 = h from e9k1]
    refine r_aload_n dJ5_ensureCapacityInternal_d00df_27 0 rfl ?_
    refine r_get cl_J4 1 (by decide) kg_J5_22 dJ5_ensureCapacityInternal_d00df_28 mo fo rfl ?_
    refine r_ishl dJ5_ensureCapacityInternal_d00df_31 ?_
    rw [shl0]
    obtain ⟨N, hN⟩ : ∃ N : Nat, (cap : Int) + max (n - (cap : Int)) ((cap : Int) + 2) = (N : Int) := ⟨((cap : Int) + max (n - (cap : Int)) ((cap : Int) + 2)).toNat, by omega⟩
    rw [hN]
    refine q_callS (As := [.ref v, .int (iI ((N : Int)))]) (rest := [.ref o]) kv_J5_ensureCapacityInternal_d00df_108 dJ5_ensureCapacityInternal_d00df_32 rfl rfl (Nat.le_of_ble_eq_true rfl) (Nat.le_of_ble_eq_true rfl) (by first | omega | exact Nat.le_of_ble_eq_true rfl) (by first | omega | exact Nat.le_of_ble_eq_true rfl) (c_J7_copyOf_9075b mv fv (by omega) hg) (fun q hk2 e9k2 => ?_)
    obtain ⟨hqk2, e0_k2, e1_k2, e2_k2⟩ := e9k2
    have no_k2 : o ≠ q := fun z => hqk2 (by rw [← z]; exact mo)
    have fo_k2 := (e2_k2 o no_k2).trans fo
    have mo_k2 : o ∈ hk2.1 := by rw [e0_k2]; exact List.mem_append_left _ mo
    have nv_k2 : v ≠ q := fun z => hqk2 (by rw [← z]; exact mv)
    have fv_k2 := (e2_k2 v nv_k2).trans fv
    have mv_k2 : v ∈ hk2.1 := by rw [e0_k2]; exact List.mem_append_left _ mv
    have mq : q ∈ hk2.1 := by rw [e0_k2]; exact List.mem_append_right _ (List.mem_singleton.mpr rfl)
    refine i_put [.ref q, .int (iI 0), .int ml, .int (iI ((T.length : Int)))] cl_J4 0 (by decide) kg_J5_15 rfl dJ5_ensureCapacityInternal_d00df_35 mo_k2 fo_k2 rfl rfl (by simp) rfl (fun h3 e0_3 e1_3 e2_3 => ?_)
    have mo_3 : o ∈ h3.1 := by rw [e0_3]; exact mo_k2
    have mv_3 : v ∈ h3.1 := by rw [e0_3]; exact mv_k2
    have fv_3 := (e2_3 _ (Ne.symm nov)).trans fv_k2
    have mq_3 : q ∈ h3.1 := by rw [e0_3]; exact mq
    have fq_3 := (e2_3 _ (Ne.symm no_k2)).trans e1_k2
    refine r_return rfl dJ5_ensureCapacityInternal_d00df_38 ?_
    refine ⟨rfl, q, N, _, ⟨⟨mo_3, mq_3⟩, e1_3, fq_3, by omega, by omega, fun k => bok.cpy hg (fun _ => bok.mk (by omega)) _ _ _ k, fun k hk => ?_⟩, by omega, Or.inr hqk2, ?_⟩
    · unfold va_cpy; rw [if_pos ⟨Nat.zero_le _, by omega⟩, show 0 + (k - 0) = k by omega]; exact hr k hk
    · exact ((GRp.new hqk2 e0_k2 e2_k2).mono (fun _ z => absurd z List.not_mem_nil)).tr (GRp.w (List.mem_singleton.mpr rfl) e0_3 e2_3)
set_option maxRecDepth 20000 in
set_option maxHeartbeats 1000000 in
theorem c_J0_getBytes_840e7 {G : xG} {h : xH} (hGS : GS G) {sa : Nat} {tx : List Int} (hT : STR G sa tx) {v cap n : Nat} {g : Nat → Int32} (mv : v ∈ h.1) (fv : h.2 v = .inl (G.2.1 2, cap, .inl g)) (hn : n + tx.length ≤ cap) (hcap : cap ≤ 700) : CC G MJ0_getBytes_840e7 [.ref sa, .ref v, .int (iI ((n : Int))), .int (iI 0)] h (fun o' h' => o' = .inl none ∧ h'.1 = h.1 ∧ h'.2 v = .inl (G.2.1 2, cap, .inl (va_cpy (fun j => iI (tx.getD j 0)) g 0 n tx.length)) ∧ ∀ x, x ≠ v → h'.2 x = h.2 x) := by
  have hT0 := hT
  have hbk := hT.bok
  obtain ⟨⟨w, hO, hC, hV, hW⟩, hl, hb⟩ := hT
  show RR G MJ0_getBytes_840e7 0 [(0, .ref sa), (1, .ref v), (2, .int (iI ((n : Int)))), (3, .int (iI 0))] [] h (xm_R MJ0_getBytes_840e7).cells (xm_R MJ0_getBytes_840e7).slots (fun o' h' => o' = .inl none ∧ h'.1 = h.1 ∧ h'.2 v = .inl (G.2.1 2, cap, .inl (va_cpy (fun j => iI (tx.getD j 0)) g 0 n tx.length)) ∧ ∀ x, x ≠ v → h'.2 x = h.2 x)
  refine r_aload_n dJ0_getBytes_840e7_0 0 rfl ?_
  refine p_callV (As := []) (b := sa) (rest := []) (w := (some (.int (iI 0)))) (st' := [.int (iI 0)]) kv_J0_getBytes_840e7_335 dJ0_getBytes_840e7_1 rfl rfl (Nat.le_of_ble_eq_true rfl) (Nat.le_of_ble_eq_true rfl) (x_rvc hO) rfl rfl (c_J0_coder_7d493 hGS hT0) rfl (fun hk1 e9k1 => ?_)
  rw [show hk1 = h from e9k1]
  refine r_iload_n dJ0_getBytes_840e7_4 3 rfl ?_
  refine i_icmpne dJ0_getBytes_840e7_5 (tgt := 28) (by decide) ⟨by decide, by decide⟩ ⟨by decide, by decide⟩ (fun c => absurd c (by decide)) (fun _ => ?_)
  refine r_aload_n dJ0_getBytes_840e7_8 0 rfl ?_
  refine r_getc hV kg_J0_9 dJ0_getBytes_840e7_9 ?_
  refine i_const (0) dJ0_getBytes_840e7_12 ?_
  refine r_aload_n dJ0_getBytes_840e7_13 1 rfl ?_
  refine r_iload_n dJ0_getBytes_840e7_14 2 rfl ?_
  refine r_iload_n dJ0_getBytes_840e7_15 3 rfl ?_
  refine r_ishl dJ0_getBytes_840e7_16 ?_
  rw [shl0]
  refine r_aload_n dJ0_getBytes_840e7_17 0 rfl ?_
  refine r_getc hV kg_J0_9 dJ0_getBytes_840e7_18 ?_
  refine i_tlen hW dJ0_getBytes_840e7_21 ?_
  refine i_copyT 0 n tx.length rfl rfl rfl (kv_J0_getBytes_840e7_212 0 (by decide)) rfl dJ0_getBytes_840e7_22 hW mv fv (by omega) (by omega) (by omega) (by omega) hbk (fun h2 e0_2 e1_2 e2_2 => ?_)
  have mv_2 : v ∈ h2.1 := by rw [e0_2]; exact mv
  refine r_goto dJ0_getBytes_840e7_25 (tgt := 43) (by decide) ?_
  refine r_return rfl dJ0_getBytes_840e7_43 ?_
  exact ⟨rfl, e0_2, e1_2, e2_2⟩
set_option maxRecDepth 20000 in
set_option maxHeartbeats 1000000 in
theorem c_J5_inflateIfNeededFor_a7421 {G : xG} {h : xH} {o v cap : Nat} {T : List Int} {g : Nat → Int32} {ml : Int32} (hS : SBB G h o v cap T g ml) (hGS : GS G) {sa : Nat} {tx : List Int} (hT : STR G sa tx) : CC G MJ5_inflateIfNeededFor_a7421 [.ref o, .ref sa] h (fun o' h' => o' = .inl none ∧ h' = h) := by
  have hS0 := hS
  obtain ⟨⟨mo, mv⟩, fo, fv, hTc, hcap, hg, hr⟩ := hS
  have nov : o ≠ v := ne_oi fo fv
  have hT0 := hT
  have hbk := hT.bok
  obtain ⟨⟨w, hO, hC, hV, hW⟩, hl, hb⟩ := hT
  show RR G MJ5_inflateIfNeededFor_a7421 0 [(0, .ref o), (1, .ref sa)] [] h (xm_R MJ5_inflateIfNeededFor_a7421).cells (xm_R MJ5_inflateIfNeededFor_a7421).slots (fun o' h' => o' = .inl none ∧ h' = h)
  refine r_gets hGS.1 kg_J5_18 dJ5_inflateIfNeededFor_a7421_0 ?_
  refine i_ifeq dJ5_inflateIfNeededFor_a7421_3 (tgt := 21) (by decide) ⟨by decide, by decide⟩ (fun c => absurd c (by decide)) (fun _ => ?_)
  refine r_aload_n dJ5_inflateIfNeededFor_a7421_6 0 rfl ?_
  refine r_get cl_J4 1 (by decide) kg_J5_22 dJ5_inflateIfNeededFor_a7421_7 mo fo rfl ?_
  refine r_aload_n dJ5_inflateIfNeededFor_a7421_10 1 rfl ?_
  refine p_callV (As := []) (b := sa) (rest := [.int (iI 0)]) (w := (some (.int (iI 0)))) (st' := [.int (iI 0), .int (iI 0)]) kv_J5_inflateIfNeededFor_a7421_40 dJ5_inflateIfNeededFor_a7421_11 rfl rfl (Nat.le_of_ble_eq_true rfl) (Nat.le_of_ble_eq_true rfl) (x_rvc hO) rfl rfl (c_J0_coder_7d493 hGS hT0) rfl (fun hk1 e9k1 => ?_)
  rw [show hk1 = h from e9k1]
  refine i_icmpeq dJ5_inflateIfNeededFor_a7421_14 (tgt := 21) (by decide) ⟨by decide, by decide⟩ ⟨by decide, by decide⟩ (fun _ => ?_) (fun c => absurd c (by decide))
  refine r_return rfl dJ5_inflateIfNeededFor_a7421_21 ?_
  exact ⟨rfl, rfl⟩
set_option maxRecDepth 20000 in
set_option maxHeartbeats 1000000 in
theorem c_J5_putStringAt_47b60 {G : xG} {h : xH} {o v cap : Nat} {T : List Int} {g : Nat → Int32} {ml : Int32} (hS : SBB G h o v cap T g ml) (hGS : GS G) {sa : Nat} {tx : List Int} (hT : STR G sa tx) {n : Nat} (hn : n + tx.length ≤ cap) : CC G MJ5_putStringAt_47b60 [.ref o, .int (iI ((n : Int))), .ref sa] h (fun o' h' => o' = .inl none ∧ h'.1 = h.1 ∧ h'.2 v = .inl (G.2.1 2, cap, .inl (va_cpy (fun j => iI (tx.getD j 0)) g 0 n tx.length)) ∧ ∀ x, x ≠ v → h'.2 x = h.2 x) := by
  have hS0 := hS
  obtain ⟨⟨mo, mv⟩, fo, fv, hTc, hcap, hg, hr⟩ := hS
  have nov : o ≠ v := ne_oi fo fv
  have hT0 := hT
  have hbk := hT.bok
  obtain ⟨⟨w, hO, hC, hV, hW⟩, hl, hb⟩ := hT
  show RR G MJ5_putStringAt_47b60 0 [(0, .ref o), (1, .int (iI ((n : Int)))), (2, .ref sa)] [] h (xm_R MJ5_putStringAt_47b60).cells (xm_R MJ5_putStringAt_47b60).slots (fun o' h' => o' = .inl none ∧ h'.1 = h.1 ∧ h'.2 v = .inl (G.2.1 2, cap, .inl (va_cpy (fun j => iI (tx.getD j 0)) g 0 n tx.length)) ∧ ∀ x, x ≠ v → h'.2 x = h.2 x)
  refine r_aload_n dJ5_putStringAt_47b60_0 0 rfl ?_
  refine r_aload_n dJ5_putStringAt_47b60_1 2 rfl ?_
  refine k_callU (x := ⟨"java/lang/AbstractStringBuilder", "inflateIfNeededFor", "(Ljava/lang/String;)V"⟩) (C := RJ4) (As := [.ref sa]) (b := o) (rest := []) (w := none) (st' := []) kl_J5_putStringAt_47b60_397 kw_J5_putStringAt_47b60_397 rfl rfl dJ5_putStringAt_47b60_2 rfl rfl (Nat.le_of_ble_eq_true rfl) (Nat.le_of_ble_eq_true rfl) (x_rv mo fo rfl) (by first | omega | exact Nat.le_of_ble_eq_true rfl) (by first | omega | exact Nat.le_of_ble_eq_true rfl) (c_J5_inflateIfNeededFor_a7421 hS0 hGS hT0) rfl (fun hk1 e9k1 => ?_)
  rw [show hk1 = h from e9k1]
  refine r_aload_n dJ5_putStringAt_47b60_5 2 rfl ?_
  refine r_aload_n dJ5_putStringAt_47b60_6 0 rfl ?_
  refine r_get cl_J4 0 (by decide) kg_J5_15 dJ5_putStringAt_47b60_7 mo fo rfl ?_
  refine r_iload_n dJ5_putStringAt_47b60_10 1 rfl ?_
  refine r_aload_n dJ5_putStringAt_47b60_11 0 rfl ?_
  refine r_get cl_J4 1 (by decide) kg_J5_22 dJ5_putStringAt_47b60_12 mo fo rfl ?_
  refine p_callV (As := [.ref v, .int (iI ((n : Int))), .int (iI 0)]) (b := sa) (rest := []) (w := none) (st' := []) kv_J5_putStringAt_47b60_399 dJ5_putStringAt_47b60_15 rfl rfl (Nat.le_of_ble_eq_true rfl) (Nat.le_of_ble_eq_true rfl) (x_rvc hO) rfl rfl (c_J0_getBytes_840e7 hGS hT0 mv fv hn hcap) rfl (fun hk2 e9k2 => ?_)
  obtain ⟨e0_k2, e1_k2, e2_k2⟩ := e9k2
  have mo_k2 : o ∈ hk2.1 := by rw [e0_k2]; exact mo
  have fo_k2 := (e2_k2 _ nov).trans fo
  have mv_k2 : v ∈ hk2.1 := by rw [e0_k2]; exact mv
  refine r_return rfl dJ5_putStringAt_47b60_18 ?_
  exact ⟨rfl, e0_k2, e1_k2, e2_k2⟩
set_option maxRecDepth 20000 in
set_option maxHeartbeats 1000000 in
theorem c_J5_append_cf1ce {G : xG} {h : xH} {o v cap : Nat} {T : List Int} {g : Nat → Int32} {ml : Int32} (hS : SBB G h o v cap T g ml) (hGS : GS G) {sa : Nat} {tx : List Int} (hT : STR G sa tx) (hn : T.length + tx.length ≤ 320) : CC G MJ5_append_cf1ce [.ref o, .ref sa] h (fun o' h' => o' = .inl (some (.ref o)) ∧ SBP G h h' o v (T ++ tx) ml) := by
  have hS0 := hS
  obtain ⟨⟨mo, mv⟩, fo, fv, hTc, hcap, hg, hr⟩ := hS
  have nov : o ≠ v := ne_oi fo fv
  have hT0 := hT
  have hbk := hT.bok
  obtain ⟨⟨w, hO, hC, hV, hW⟩, hl, hb⟩ := hT
  show RR G MJ5_append_cf1ce 0 [(0, .ref o), (1, .ref sa)] [] h (xm_R MJ5_append_cf1ce).cells (xm_R MJ5_append_cf1ce).slots (fun o' h' => o' = .inl (some (.ref o)) ∧ SBP G h h' o v (T ++ tx) ml)
  refine r_aload_n dJ5_append_cf1ce_0 1 rfl ?_
  refine r_ifnonnull dJ5_append_cf1ce_1 (tgt := 9) (by decide) ?_
  refine r_aload_n dJ5_append_cf1ce_9 1 rfl ?_
  refine p_callV (As := []) (b := sa) (rest := []) (w := (some (.int (iI ((tx.length : Int)))))) (st' := [.int (iI ((tx.length : Int)))]) kv_J5_append_cf1ce_32 dJ5_append_cf1ce_10 rfl rfl (Nat.le_of_ble_eq_true rfl) (Nat.le_of_ble_eq_true rfl) (x_rvc hO) rfl rfl (c_J0_length_8abf5 hGS hT0) rfl (fun hk1 e9k1 => ?_)
  rw [show hk1 = h from e9k1]
  refine r_istore_n (ls' := [(0, .ref o), (1, .ref sa), (2, .int (iI ((tx.length : Int))))]) dJ5_append_cf1ce_13 (by decide) rfl ?_
  refine r_aload_n dJ5_append_cf1ce_14 0 rfl ?_
  refine r_aload_n dJ5_append_cf1ce_15 0 rfl ?_
  refine r_get cl_J4 3 (by decide) kg_J5_79 dJ5_append_cf1ce_16 mo fo rfl ?_
  refine r_iload_n dJ5_append_cf1ce_19 2 rfl ?_
  refine i_add dJ5_append_cf1ce_20 ?_
  refine k_callU (x := ⟨"java/lang/AbstractStringBuilder", "ensureCapacityInternal", "(I)V"⟩) (C := RJ4) (As := [.int (iI ((T.length : Int) + (tx.length : Int)))]) (b := o) (rest := []) (w := none) (st' := []) kl_J5_append_cf1ce_100 kw_J5_append_cf1ce_100 rfl rfl dJ5_append_cf1ce_21 rfl rfl (Nat.le_of_ble_eq_true rfl) (Nat.le_of_ble_eq_true rfl) (x_rv mo fo rfl) (by first | omega | exact Nat.le_of_ble_eq_true rfl) (by first | omega | exact Nat.le_of_ble_eq_true rfl) (c_J5_ensureCapacityInternal_d00df hS0 (by omega)) rfl (fun hk2 e9k2 => ?_)
  obtain ⟨v', cap', g', hSk2, hcnk2, hvok2, hgrk2⟩ := e9k2
  have hS0k2 := hSk2
  obtain ⟨⟨mok2, mvk2⟩, fok2, fvk2, hTck2, hcapk2, hgk2, hrk2⟩ := hSk2
  have novk2 : o ≠ v' := ne_oi fok2 fvk2
  refine r_aload_n dJ5_append_cf1ce_24 0 rfl ?_
  refine r_aload_n dJ5_append_cf1ce_25 0 rfl ?_
  refine r_get cl_J4 3 (by decide) kg_J5_79 dJ5_append_cf1ce_26 mok2 fok2 rfl ?_
  refine r_aload_n dJ5_append_cf1ce_29 1 rfl ?_
  refine k_callU (x := ⟨"java/lang/AbstractStringBuilder", "putStringAt", "(ILjava/lang/String;)V"⟩) (C := RJ4) (As := [.int (iI ((T.length : Int))), .ref sa]) (b := o) (rest := []) (w := none) (st' := []) kl_J5_append_cf1ce_208 kw_J5_append_cf1ce_208 rfl rfl dJ5_append_cf1ce_30 rfl rfl (Nat.le_of_ble_eq_true rfl) (Nat.le_of_ble_eq_true rfl) (x_rv mok2 fok2 rfl) (by first | omega | exact Nat.le_of_ble_eq_true rfl) (by first | omega | exact Nat.le_of_ble_eq_true rfl) (c_J5_putStringAt_47b60 hS0k2 hGS hT0 (by omega)) rfl (fun hk3 e9k3 => ?_)
  obtain ⟨e0_k3, e1_k3, e2_k3⟩ := e9k3
  have mo_k3 : o ∈ hk3.1 := by rw [e0_k3]; exact mok2
  have fo_k3 := (e2_k3 _ novk2).trans fok2
  have mv'_k3 : v' ∈ hk3.1 := by rw [e0_k3]; exact mvk2
  refine r_aload_n dJ5_append_cf1ce_33 0 rfl ?_
  refine r_dup dJ5_append_cf1ce_34 rfl ?_
  refine r_get cl_J4 3 (by decide) kg_J5_79 dJ5_append_cf1ce_35 mo_k3 fo_k3 rfl ?_
  refine r_iload_n dJ5_append_cf1ce_38 2 rfl ?_
  refine i_add dJ5_append_cf1ce_39 ?_
  refine i_put [.ref v', .int (iI 0), .int ml, .int (iI ((T.length : Int) + (tx.length : Int)))] cl_J4 3 (by decide) kg_J5_79 rfl dJ5_append_cf1ce_40 mo_k3 fo_k3 rfl rfl (by simp) rfl (fun h4 e0_4 e1_4 e2_4 => ?_)
  have mo_4 : o ∈ h4.1 := by rw [e0_4]; exact mo_k3
  have mv'_4 : v' ∈ h4.1 := by rw [e0_4]; exact mv'_k3
  have fv'_4 := (e2_4 _ (Ne.symm novk2)).trans e1_k3
  refine r_aload_n dJ5_append_cf1ce_43 0 rfl ?_
  refine r_areturn rfl dJ5_append_cf1ce_44 ?_
  refine ⟨rfl, v', cap', _, ⟨⟨mo_4, mv'_4⟩, ?_, fv'_4, ?_, by omega, ?_, ?_⟩, hvok2, ?_⟩
  · have e : ((T ++ tx).length : Int) = (T.length : Int) + (tx.length : Int) := by rw [List.length_append]; push_cast; rfl
    rw [e]; exact e1_4
  · rw [List.length_append]; omega
  · exact fun k => bok.cpy hbk hgk2 _ _ _ k
  · exact cat_cpy hrk2
  · refine (((hgrk2.mono (by simp)).off2 (fp' := [v']) (GRp.of (FRp.w (fp := [v']) (List.mem_singleton.mpr rfl) e0_k3 e2_k3)) ?_).tr (GRp.w (by simp) e0_4 e2_4))
    intro q hq hq2
    rw [List.mem_singleton.mp hq] at hq2 ⊢
    rcases hvok2 with z | z
    · rw [z]; simp
    · exact absurd hq2 z
set_option maxRecDepth 20000 in
set_option maxHeartbeats 1000000 in
theorem c_J4_append_15ec4 {G : xG} {h : xH} {o v cap : Nat} {T : List Int} {g : Nat → Int32} {ml : Int32} (hS : SBB G h o v cap T g ml) (hGS : GS G) {sa : Nat} {tx : List Int} (hT : STR G sa tx) (hn : T.length + tx.length ≤ 320) : CC G MJ4_append_15ec4 [.ref o, .ref sa] h (fun o' h' => o' = .inl (some (.ref o)) ∧ SBP G h h' o v (T ++ tx) ml) := by
  have hS0 := hS
  obtain ⟨⟨mo, mv⟩, fo, fv, hTc, hcap, hg, hr⟩ := hS
  have nov : o ≠ v := ne_oi fo fv
  show RR G MJ4_append_15ec4 0 [(0, .ref o), (1, .ref sa)] [] h (xm_R MJ4_append_15ec4).cells (xm_R MJ4_append_15ec4).slots (fun o' h' => o' = .inl (some (.ref o)) ∧ SBP G h h' o v (T ++ tx) ml)
  refine r_aload_n dJ4_append_15ec4_0 0 rfl ?_
  refine r_aload_n dJ4_append_15ec4_1 1 rfl ?_
  refine k_callSU (As := [.ref sa]) (b := o) (rest := []) (w := (some (.ref o))) (st' := [.ref o]) kl_J4_append_15ec4_29 kw_J4_append_15ec4_29 (by decide) dJ4_append_15ec4_2 rfl rfl (Nat.le_of_ble_eq_true rfl) (Nat.le_of_ble_eq_true rfl) mo fo rfl (by first | omega | exact Nat.le_of_ble_eq_true rfl) (by first | omega | exact Nat.le_of_ble_eq_true rfl) (c_J5_append_cf1ce hS0 hGS hT hn) rfl (fun hk1 e9k1 => ?_)
  refine r_pop dJ4_append_15ec4_5 rfl ?_
  refine r_aload_n dJ4_append_15ec4_6 0 rfl ?_
  refine r_areturn rfl dJ4_append_15ec4_7 ?_
  exact ⟨rfl, e9k1⟩
set_option maxRecDepth 20000 in
set_option maxHeartbeats 1000000 in
theorem c_J4_append_cf1ce {G : xG} {h : xH} {o v cap : Nat} {T : List Int} {g : Nat → Int32} {ml : Int32} (hS : SBB G h o v cap T g ml) (hGS : GS G) {sa : Nat} {tx : List Int} (hT : STR G sa tx) (hn : T.length + tx.length ≤ 320) : CC G MJ4_append_cf1ce [.ref o, .ref sa] h (fun o' h' => o' = .inl (some (.ref o)) ∧ SBP G h h' o v (T ++ tx) ml) := by
  have hS0 := hS
  obtain ⟨⟨mo, mv⟩, fo, fv, hTc, hcap, hg, hr⟩ := hS
  have nov : o ≠ v := ne_oi fo fv
  show RR G MJ4_append_cf1ce 0 [(0, .ref o), (1, .ref sa)] [] h (xm_R MJ4_append_cf1ce).cells (xm_R MJ4_append_cf1ce).slots (fun o' h' => o' = .inl (some (.ref o)) ∧ SBP G h h' o v (T ++ tx) ml)
  refine r_aload_n dJ4_append_cf1ce_0 0 rfl ?_
  refine r_aload_n dJ4_append_cf1ce_1 1 rfl ?_
  refine k_callV (As := [.ref sa]) (b := o) (rest := []) (w := (some (.ref o))) (st' := [.ref o]) kv_J4_append_cf1ce_23 dJ4_append_cf1ce_2 rfl rfl (Nat.le_of_ble_eq_true rfl) (Nat.le_of_ble_eq_true rfl) (x_rv mo fo rfl) (Nat.le_of_ble_eq_true rfl) (Nat.le_of_ble_eq_true rfl) (c_J4_append_15ec4 hS0 hGS hT hn) rfl (fun hk1 e9k1 => ?_)
  refine r_areturn rfl dJ4_append_cf1ce_5 ?_
  exact ⟨rfl, e9k1⟩
set_option maxRecDepth 20000 in
set_option maxHeartbeats 1000000 in
theorem c_J5_init_a7421 {G : xG} {h : xH} (hGS : GS G) {sa : Nat} {tx : List Int} (hT : STR G sa tx) (h80 : tx.length ≤ 80) {o : Nat} (mo : o ∈ h.1) (fo : h.2 o = .inr (9, [.null, .int (iI 0), .int (iI 0), .int (iI 0)])) : CC G MJ5_init_a7421 [.ref o, .ref sa] h (fun o' h' => o' = .inl none ∧ ∃ (v cap : Nat) (g : Nat → Int32) (ml : Int32), SBB G h' o v cap tx g ml ∧ v ∉ h.1 ∧ GRp [o] h h') := by
  have hT0 := hT
  have hbk := hT.bok
  obtain ⟨⟨w, hO, hC, hV, hW⟩, hl, hb⟩ := hT
  show RR G MJ5_init_a7421 0 [(0, .ref o), (1, .ref sa)] [] h (xm_R MJ5_init_a7421).cells (xm_R MJ5_init_a7421).slots (fun o' h' => o' = .inl none ∧ ∃ (v cap : Nat) (g : Nat → Int32) (ml : Int32), SBB G h' o v cap tx g ml ∧ v ∉ h.1 ∧ GRp [o] h h')
  refine r_aload_n dJ5_init_a7421_0 0 rfl ?_
  refine r_objinit km_J5_3 ks_obj.1 ks_obj.2 dJ5_init_a7421_1 (by decide) (by decide) ?_
  refine r_aload_n dJ5_init_a7421_4 1 rfl ?_
  refine p_callV (As := []) (b := sa) (rest := []) (w := (some (.int (iI ((tx.length : Int)))))) (st' := [.int (iI ((tx.length : Int)))]) kv_J5_init_a7421_32 dJ5_init_a7421_5 rfl rfl (Nat.le_of_ble_eq_true rfl) (Nat.le_of_ble_eq_true rfl) (x_rvc hO) rfl rfl (c_J0_length_8abf5 hGS hT0) rfl (fun hk1 e9k1 => ?_)
  rw [show hk1 = h from e9k1]
  refine r_istore_n (ls' := [(0, .ref o), (1, .ref sa), (2, .int (iI ((tx.length : Int))))]) dJ5_init_a7421_8 (by decide) rfl ?_
  refine r_iload_n dJ5_init_a7421_9 2 rfl ?_
  refine i_ldc (2147483631) (by decide) kk_J5_38 dJ5_init_a7421_10 ?_
  refine i_icmpge dJ5_init_a7421_12 (tgt := 22) (by decide) (by unfold in32; omega) ⟨by decide, by decide⟩ (fun c12 => ?_) (fun c12 => ?_)
  · exfalso
    omega
  · refine r_iload_n dJ5_init_a7421_15 2 rfl ?_
    refine i_bipush (16) (by decide) dJ5_init_a7421_16 ?_
    refine i_add dJ5_init_a7421_18 ?_
    refine r_goto dJ5_init_a7421_19 (tgt := 24) (by decide) ?_
    refine r_istore_n (ls' := [(0, .ref o), (1, .ref sa), (2, .int (iI ((tx.length : Int)))), (3, .int (iI ((tx.length : Int) + 16)))]) dJ5_init_a7421_24 (by decide) rfl ?_
    refine r_aload_n dJ5_init_a7421_25 1 rfl ?_
    refine p_callV (As := []) (b := sa) (rest := []) (w := (some (.int (iI 0)))) (st' := [.int (iI 0)]) kv_J5_init_a7421_40 dJ5_init_a7421_26 rfl rfl (Nat.le_of_ble_eq_true rfl) (Nat.le_of_ble_eq_true rfl) (x_rvc hO) rfl rfl (c_J0_coder_7d493 hGS hT0) rfl (fun hk2 e9k2 => ?_)
    rw [show hk2 = h from e9k2]
    refine r_istore (ls' := [(0, .ref o), (1, .ref sa), (2, .int (iI ((tx.length : Int)))), (3, .int (iI ((tx.length : Int) + 16))), (4, .int (iI 0))]) dJ5_init_a7421_29 (by decide) rfl ?_
    refine r_aload_n dJ5_init_a7421_31 0 rfl ?_
    refine r_iload dJ5_init_a7421_32 4 rfl ?_
    refine i_put [.null, .int (iI 0), .int (iI 0), .int (iI 0)] cl_J4 1 (by decide) kg_J5_22 rfl dJ5_init_a7421_34 mo fo rfl rfl (by simp) rfl (fun h3 e0_3 e1_3 e2_3 => ?_)
    have mo_3 : o ∈ h3.1 := by rw [e0_3]; exact mo
    refine r_aload_n dJ5_init_a7421_37 0 rfl ?_
    refine r_iload dJ5_init_a7421_38 4 rfl ?_
    refine i_ifne dJ5_init_a7421_40 (tgt := 49) (by decide) ⟨by decide, by decide⟩ (fun c => absurd c (by decide)) (fun _ => ?_)
    refine r_iload_n dJ5_init_a7421_43 3 rfl ?_
    refine i_newB (tx.length + 16) (by omega) (by omega) dJ5_init_a7421_44 (Nat.le_of_ble_eq_true rfl) (Nat.le_trans (show (tx.length + 16) ≤ 1000 by omega) (Nat.le_of_ble_eq_true rfl)) (fun qn4 hn4 hqn4 e0_n4 e1_n4 e2_n4 => ?_)
    have no_n4 : o ≠ qn4 := fun z => hqn4 (by rw [← z]; exact mo_3)
    have fo_n4 := (e2_n4 o no_n4).trans e1_3
    have mo_n4 : o ∈ hn4.1 := by rw [e0_n4]; exact List.mem_append_left _ mo_3
    have mqn4 : qn4 ∈ hn4.1 := by rw [e0_n4]; exact List.mem_append_right _ (List.mem_singleton.mpr rfl)
    refine r_goto dJ5_init_a7421_46 (tgt := 53) (by decide) ?_
    refine i_put [.ref qn4, .int (iI 0), .int (iI 0), .int (iI 0)] cl_J4 0 (by decide) kg_J5_15 rfl dJ5_init_a7421_53 mo_n4 fo_n4 rfl rfl (by simp) rfl (fun h5 e0_5 e1_5 e2_5 => ?_)
    have mo_5 : o ∈ h5.1 := by rw [e0_5]; exact mo_n4
    have mqn4_5 : qn4 ∈ h5.1 := by rw [e0_5]; exact mqn4
    have fqn4_5 := (e2_5 _ (Ne.symm no_n4)).trans e1_n4
    have hSi : SBB G h5 o qn4 (tx.length + 16) [] (fun _ => iI 0) (iI 0) := ⟨⟨mo_5, mqn4_5⟩, e1_5, fqn4_5, Nat.zero_le _, by omega, fun _ => bok.mk (by omega), fun k hk => absurd hk (Nat.not_lt_zero k)⟩
    refine r_aload_n dJ5_init_a7421_56 0 rfl ?_
    refine r_aload_n dJ5_init_a7421_57 1 rfl ?_
    refine k_callO (x := ⟨"java/lang/AbstractStringBuilder", "append", "(Ljava/lang/String;)Ljava/lang/AbstractStringBuilder;"⟩) (C := RJ4) (owner := RJ5) (As := [.ref sa]) (b := o) (rest := []) (w := (some (.ref o))) (st' := [.ref o]) kl_J5_init_a7421_43 kw_J5_init_a7421_43 kc_J5_append_cf1ce.2.1 ⟨by decide +kernel, by decide +kernel, by decide +kernel⟩ dJ5_init_a7421_58 rfl rfl (Nat.le_of_ble_eq_true rfl) (Nat.le_of_ble_eq_true rfl) (x_rv mo_5 e1_5 rfl) (by first | omega | exact Nat.le_of_ble_eq_true rfl) (show 1000 ≤ 1100 - (tx.length + 16) by omega) (c_J4_append_cf1ce (T := []) hSi hGS hT0 (by simp; omega)) rfl (fun hk6 e9k6 => ?_)
    refine r_pop dJ5_init_a7421_61 rfl ?_
    refine r_return rfl dJ5_init_a7421_62 ?_
    obtain ⟨v', cap', g', hS9, hvo9, hgr9⟩ := e9k6
    refine ⟨rfl, v', cap', g', iI 0, by simpa using hS9, ?_, ?_⟩
    · rcases hvo9 with z | z
      · rw [z]; exact fun z2 => hqn4 (by rw [e0_3]; exact z2)
      · exact fun z2 => z (by rw [e0_5, e0_n4]; exact List.mem_append_left _ (by rw [e0_3]; exact z2))
    · have g1 : GRp [o] h h5 := ((GRp.w (List.mem_singleton.mpr rfl) e0_3 e2_3).tr ((GRp.new hqn4 e0_n4 e2_n4).mono (fun _ z => absurd z List.not_mem_nil))).tr (GRp.w (List.mem_singleton.mpr rfl) e0_5 e2_5)
      refine g1.off2 hgr9 ?_
      intro q hq hq2
      rcases List.mem_cons.mp hq with z | z
      · rw [z]; exact List.mem_singleton.mpr rfl
      · rw [List.mem_singleton.mp z] at hq2; exact absurd (by rw [e0_3]; exact hq2) hqn4
set_option maxRecDepth 20000 in
set_option maxHeartbeats 1000000 in
theorem c_J4_init_a7421 {G : xG} {h : xH} (hGS : GS G) {sa : Nat} {tx : List Int} (hT : STR G sa tx) (h80 : tx.length ≤ 80) {o : Nat} (mo : o ∈ h.1) (fo : h.2 o = .inr (9, [.null, .int (iI 0), .int (iI 0), .int (iI 0)])) : CC G MJ4_init_a7421 [.ref o, .ref sa] h (fun o' h' => o' = .inl none ∧ ∃ (v cap : Nat) (g : Nat → Int32) (ml : Int32), SBB G h' o v cap tx g ml ∧ v ∉ h.1 ∧ GRp [o] h h') := by
  show RR G MJ4_init_a7421 0 [(0, .ref o), (1, .ref sa)] [] h (xm_R MJ4_init_a7421).cells (xm_R MJ4_init_a7421).slots (fun o' h' => o' = .inl none ∧ ∃ (v cap : Nat) (g : Nat → Int32) (ml : Int32), SBB G h' o v cap tx g ml ∧ v ∉ h.1 ∧ GRp [o] h h')
  refine r_aload_n dJ4_init_a7421_0 0 rfl ?_
  refine r_aload_n dJ4_init_a7421_1 1 rfl ?_
  refine k_callI (As := [.ref sa]) (b := o) (rest := []) (w := none) (st' := []) kv_J4_init_a7421_7 dJ4_init_a7421_2 rfl rfl (Nat.le_of_ble_eq_true rfl) (Nat.le_of_ble_eq_true rfl) (Nat.le_of_ble_eq_true rfl) (Nat.le_of_ble_eq_true rfl) (c_J5_init_a7421 hGS hT h80 mo fo) rfl (fun hk1 e9k1 => ?_)
  refine r_return rfl dJ4_init_a7421_5 ?_
  exact ⟨rfl, e9k1⟩
set_option maxRecDepth 20000 in
set_option maxHeartbeats 1000000 in
theorem c_J5_append_3fe6f {G : xG} {h : xH} {o v cap : Nat} {T : List Int} {g : Nat → Int32} {ml : Int32} (hS : SBB G h o v cap T g ml) (hGS : GS G) {c : Int} (hc : 0 ≤ c ∧ c < 128) (hn : T.length + 1 ≤ 320) : CC G MJ5_append_3fe6f [.ref o, .int (iI c)] h (fun o' h' => o' = .inl (some (.ref o)) ∧ SBP G h h' o v (T ++ [c]) ml) := by
  have hS0 := hS
  obtain ⟨⟨mo, mv⟩, fo, fv, hTc, hcap, hg, hr⟩ := hS
  have nov : o ≠ v := ne_oi fo fv
  show RR G MJ5_append_3fe6f 0 [(0, .ref o), (1, .int (iI c))] [] h (xm_R MJ5_append_3fe6f).cells (xm_R MJ5_append_3fe6f).slots (fun o' h' => o' = .inl (some (.ref o)) ∧ SBP G h h' o v (T ++ [c]) ml)
  refine r_aload_n dJ5_append_3fe6f_0 0 rfl ?_
  refine r_aload_n dJ5_append_3fe6f_1 0 rfl ?_
  refine r_get cl_J4 3 (by decide) kg_J5_79 dJ5_append_3fe6f_2 mo fo rfl ?_
  refine i_const (1) dJ5_append_3fe6f_5 ?_
  refine i_add dJ5_append_3fe6f_6 ?_
  refine k_callU (x := ⟨"java/lang/AbstractStringBuilder", "ensureCapacityInternal", "(I)V"⟩) (C := RJ4) (As := [.int (iI ((T.length : Int) + 1))]) (b := o) (rest := []) (w := none) (st' := []) kl_J5_append_3fe6f_100 kw_J5_append_3fe6f_100 rfl rfl dJ5_append_3fe6f_7 rfl rfl (Nat.le_of_ble_eq_true rfl) (Nat.le_of_ble_eq_true rfl) (x_rv mo fo rfl) (by first | omega | exact Nat.le_of_ble_eq_true rfl) (by first | omega | exact Nat.le_of_ble_eq_true rfl) (c_J5_ensureCapacityInternal_d00df hS0 (by omega)) rfl (fun hk1 e9k1 => ?_)
  obtain ⟨v', cap', g', hSk1, hcnk1, hvok1, hgrk1⟩ := e9k1
  have hS0k1 := hSk1
  obtain ⟨⟨mok1, mvk1⟩, fok1, fvk1, hTck1, hcapk1, hgk1, hrk1⟩ := hSk1
  have novk1 : o ≠ v' := ne_oi fok1 fvk1
  refine r_aload_n dJ5_append_3fe6f_10 0 rfl ?_
  refine k_callU (x := ⟨"java/lang/AbstractStringBuilder", "isLatin1", "()Z"⟩) (C := RJ4) (As := []) (b := o) (rest := []) (w := (some (.int (iI 1)))) (st' := [.int (iI 1)]) kl_J5_append_3fe6f_83 kw_J5_append_3fe6f_83 rfl rfl dJ5_append_3fe6f_11 rfl rfl (Nat.le_of_ble_eq_true rfl) (Nat.le_of_ble_eq_true rfl) (x_rv mok1 fok1 rfl) (by first | omega | exact Nat.le_of_ble_eq_true rfl) (by first | omega | exact Nat.le_of_ble_eq_true rfl) (c_J5_isLatin1_aae02 hS0k1 hGS) rfl (fun hk2 e9k2 => ?_)
  rw [show hk2 = hk1 from e9k2]
  refine i_ifeq dJ5_append_3fe6f_14 (tgt := 45) (by decide) ⟨by decide, by decide⟩ (fun c => absurd c (by decide)) (fun _ => ?_)
  refine r_iload_n dJ5_append_3fe6f_17 1 rfl ?_
  refine p_callS (As := [.int (iI c)]) (rest := []) (w := (some (.int (iI 1)))) (st' := [.int (iI 1)]) kv_J5_append_3fe6f_191 dJ5_append_3fe6f_18 rfl rfl (Nat.le_of_ble_eq_true rfl) (Nat.le_of_ble_eq_true rfl) rfl rfl (c_J1_canEncode_fc78d hc) rfl (fun hk3 e9k3 => ?_)
  rw [show hk3 = hk1 from e9k3]
  refine i_ifeq dJ5_append_3fe6f_21 (tgt := 45) (by decide) ⟨by decide, by decide⟩ (fun c => absurd c (by decide)) (fun _ => ?_)
  refine r_aload_n dJ5_append_3fe6f_24 0 rfl ?_
  refine r_get cl_J4 0 (by decide) kg_J5_15 dJ5_append_3fe6f_25 mok1 fok1 rfl ?_
  refine r_aload_n dJ5_append_3fe6f_28 0 rfl ?_
  refine r_dup dJ5_append_3fe6f_29 rfl ?_
  refine r_get cl_J4 3 (by decide) kg_J5_79 dJ5_append_3fe6f_30 mok1 fok1 rfl ?_
  refine r_dupx1 dJ5_append_3fe6f_33 rfl rfl ?_
  refine i_const (1) dJ5_append_3fe6f_34 ?_
  refine i_add dJ5_append_3fe6f_35 ?_
  refine i_put [.ref v', .int (iI 0), .int ml, .int (iI ((T.length : Int) + 1))] cl_J4 3 (by decide) kg_J5_79 rfl dJ5_append_3fe6f_36 mok1 fok1 rfl rfl (by simp) rfl (fun h4 e0_4 e1_4 e2_4 => ?_)
  have mo_4 : o ∈ h4.1 := by rw [e0_4]; exact mok1
  have mv'_4 : v' ∈ h4.1 := by rw [e0_4]; exact mvk1
  have fv'_4 := (e2_4 _ (Ne.symm novk1)).trans fvk1
  refine r_iload_n dJ5_append_3fe6f_39 1 rfl ?_
  refine i_i2b dJ5_append_3fe6f_40 hc ?_
  refine i_bast T.length rfl dJ5_append_3fe6f_41 mv'_4 fv'_4 (by omega) (by omega) hc (fun h5 e0_5 e1_5 e2_5 => ?_)
  have mo_5 : o ∈ h5.1 := by rw [e0_5]; exact mo_4
  have fo_5 := (e2_5 _ novk1).trans e1_4
  have mv'_5 : v' ∈ h5.1 := by rw [e0_5]; exact mv'_4
  refine r_goto dJ5_append_3fe6f_42 (tgt := 75) (by decide) ?_
  refine r_aload_n dJ5_append_3fe6f_75 0 rfl ?_
  refine r_areturn rfl dJ5_append_3fe6f_76 ?_
  refine ⟨rfl, v', cap', _, ⟨⟨mo_5, mv'_5⟩, ?_, e1_5, ?_, by omega, ?_, ?_⟩, hvok1, ?_⟩
  · have e : ((T ++ [c]).length : Int) = (T.length : Int) + 1 := by rw [List.length_append]; push_cast; rfl
    rw [e]; exact fo_5
  · rw [List.length_append]; show T.length + 1 ≤ _; omega
  · exact fun k => bok.up hgk1 _ hc k
  · exact cat_upd hrk1
  · refine ((hgrk1.mono (by simp)).tr (GRp.w (by simp) e0_4 e2_4)).off2 (GRp.of (FRp.w (fp := [v']) (List.mem_singleton.mpr rfl) e0_5 e2_5)) ?_
    intro q hq hq2
    rw [List.mem_singleton.mp hq] at hq2 ⊢
    rcases hvok1 with z | z
    · rw [z]; simp
    · exact absurd hq2 z
set_option maxRecDepth 20000 in
set_option maxHeartbeats 1000000 in
theorem c_J4_append_cf468 {G : xG} {h : xH} {o v cap : Nat} {T : List Int} {g : Nat → Int32} {ml : Int32} (hS : SBB G h o v cap T g ml) (hGS : GS G) {c : Int} (hc : 0 ≤ c ∧ c < 128) (hn : T.length + 1 ≤ 320) : CC G MJ4_append_cf468 [.ref o, .int (iI c)] h (fun o' h' => o' = .inl (some (.ref o)) ∧ SBP G h h' o v (T ++ [c]) ml) := by
  have hS0 := hS
  obtain ⟨⟨mo, mv⟩, fo, fv, hTc, hcap, hg, hr⟩ := hS
  have nov : o ≠ v := ne_oi fo fv
  show RR G MJ4_append_cf468 0 [(0, .ref o), (1, .int (iI c))] [] h (xm_R MJ4_append_cf468).cells (xm_R MJ4_append_cf468).slots (fun o' h' => o' = .inl (some (.ref o)) ∧ SBP G h h' o v (T ++ [c]) ml)
  refine r_aload_n dJ4_append_cf468_0 0 rfl ?_
  refine r_iload_n dJ4_append_cf468_1 1 rfl ?_
  refine k_callSU (As := [.int (iI c)]) (b := o) (rest := []) (w := (some (.ref o))) (st' := [.ref o]) kl_J4_append_cf468_50 kw_J4_append_cf468_50 (by decide) dJ4_append_cf468_2 rfl rfl (Nat.le_of_ble_eq_true rfl) (Nat.le_of_ble_eq_true rfl) mo fo rfl (by first | omega | exact Nat.le_of_ble_eq_true rfl) (by first | omega | exact Nat.le_of_ble_eq_true rfl) (c_J5_append_3fe6f hS0 hGS hc hn) rfl (fun hk1 e9k1 => ?_)
  refine r_pop dJ4_append_cf468_5 rfl ?_
  refine r_aload_n dJ4_append_cf468_6 0 rfl ?_
  refine r_areturn rfl dJ4_append_cf468_7 ?_
  exact ⟨rfl, e9k1⟩
set_option maxRecDepth 20000 in
set_option maxHeartbeats 1000000 in
theorem c_J6_stringSize_0f7a4 {G : xG} {h : xH} {i : Int} (hi : 0 ≤ i ∧ i ≤ 99) : CC G MJ6_stringSize_0f7a4 [.int (iI i)] h (qI (if i < 10 then 1 else 2) h) := by
  show RR G MJ6_stringSize_0f7a4 0 [(0, .int (iI i))] [] h (xm_R MJ6_stringSize_0f7a4).cells (xm_R MJ6_stringSize_0f7a4).slots (qI (if i < 10 then 1 else 2) h)
  refine i_const (1) dJ6_stringSize_0f7a4_0 ?_
  refine r_istore_n (ls' := [(0, .int (iI i)), (1, .int (iI 1))]) dJ6_stringSize_0f7a4_1 (by decide) rfl ?_
  refine r_iload_n dJ6_stringSize_0f7a4_2 0 rfl ?_
  refine i_iflt dJ6_stringSize_0f7a4_3 (tgt := 11) (by decide) (by unfold in32; omega) (fun c => (by exfalso; omega)) (fun _ => ?_)
  refine i_const (0) dJ6_stringSize_0f7a4_6 ?_
  refine r_istore_n (ls' := [(0, .int (iI i)), (1, .int (iI 0))]) dJ6_stringSize_0f7a4_7 (by decide) rfl ?_
  refine r_iload_n dJ6_stringSize_0f7a4_8 0 rfl ?_
  refine i_neg dJ6_stringSize_0f7a4_9 ?_
  refine r_istore_n (ls' := [(0, .int (iI (-i))), (1, .int (iI 0))]) dJ6_stringSize_0f7a4_10 (by decide) rfl ?_
  refine i_bipush (-10) (by decide) dJ6_stringSize_0f7a4_11 ?_
  refine r_istore_n (ls' := [(0, .int (iI (-i))), (1, .int (iI 0)), (2, .int (iI ((-10))))]) dJ6_stringSize_0f7a4_13 (by decide) rfl ?_
  refine i_const (1) dJ6_stringSize_0f7a4_14 ?_
  refine r_istore_n (ls' := [(0, .int (iI (-i))), (1, .int (iI 0)), (2, .int (iI ((-10)))), (3, .int (iI 1))]) dJ6_stringSize_0f7a4_15 (by decide) rfl ?_
  refine r_iload_n dJ6_stringSize_0f7a4_16 3 rfl ?_
  refine i_bipush (10) (by decide) dJ6_stringSize_0f7a4_17 ?_
  refine i_icmpge dJ6_stringSize_0f7a4_19 (tgt := 42) (by decide) ⟨by decide, by decide⟩ ⟨by decide, by decide⟩ (fun c => absurd c (by decide)) (fun _ => ?_)
  refine r_iload_n dJ6_stringSize_0f7a4_22 0 rfl ?_
  refine r_iload_n dJ6_stringSize_0f7a4_23 2 rfl ?_
  refine i_icmple dJ6_stringSize_0f7a4_24 (tgt := 31) (by decide) (by unfold in32; omega) ⟨by decide, by decide⟩ (fun c24 => ?_) (fun c24 => ?_)
  · refine i_bipush (10) (by decide) dJ6_stringSize_0f7a4_31 ?_
    refine r_iload_n dJ6_stringSize_0f7a4_33 2 rfl ?_
    refine i_mul dJ6_stringSize_0f7a4_34 ?_
    refine r_istore_n (ls' := [(0, .int (iI (-i))), (1, .int (iI 0)), (2, .int (iI (10 * (-10)))), (3, .int (iI 1))]) dJ6_stringSize_0f7a4_35 (by decide) rfl ?_
    refine i_iinc (ls' := [(0, .int (iI (-i))), (1, .int (iI 0)), (2, .int (iI (10 * (-10)))), (3, .int (iI 2))]) (1) (v := 2) dJ6_stringSize_0f7a4_36 3 rfl (by decide) (by decide) rfl ?_
    refine r_goto dJ6_stringSize_0f7a4_39 (tgt := 16) (by decide) ?_
    refine r_iload_n dJ6_stringSize_0f7a4_16 3 rfl ?_
    refine i_bipush (10) (by decide) dJ6_stringSize_0f7a4_17 ?_
    refine i_icmpge dJ6_stringSize_0f7a4_19 (tgt := 42) (by decide) ⟨by decide, by decide⟩ ⟨by decide, by decide⟩ (fun c => absurd c (by decide)) (fun _ => ?_)
    refine r_iload_n dJ6_stringSize_0f7a4_22 0 rfl ?_
    refine r_iload_n dJ6_stringSize_0f7a4_23 2 rfl ?_
    refine i_icmple dJ6_stringSize_0f7a4_24 (tgt := 31) (by decide) (by unfold in32; omega) (by unfold in32; omega) (fun c => (by exfalso; omega)) (fun _ => ?_)
    refine r_iload_n dJ6_stringSize_0f7a4_27 3 rfl ?_
    refine r_iload_n dJ6_stringSize_0f7a4_28 1 rfl ?_
    refine i_add dJ6_stringSize_0f7a4_29 ?_
    refine r_ireturn rfl rfl dJ6_stringSize_0f7a4_30 ?_
    refine ⟨?_, rfl⟩
    rw [if_neg (by omega)]
    rfl
  · refine r_iload_n dJ6_stringSize_0f7a4_27 3 rfl ?_
    refine r_iload_n dJ6_stringSize_0f7a4_28 1 rfl ?_
    refine i_add dJ6_stringSize_0f7a4_29 ?_
    refine r_ireturn rfl rfl dJ6_stringSize_0f7a4_30 ?_
    refine ⟨?_, rfl⟩
    rw [if_pos (by omega)]
    rfl
set_option maxRecDepth 20000 in
set_option maxHeartbeats 1000000 in
theorem c_J6_getChars_ba4f3 {G : xG} {h : xH} (hGN : GN G) {v cap n p : Nat} {i : Int} {g : Nat → Int32} (mv : v ∈ h.1) (fv : h.2 v = .inl (G.2.1 2, cap, .inl g)) (hi : 0 ≤ i ∧ i ≤ 99) (hp : p = n + (dg i).length) (hpc : p ≤ cap) (hcap : cap ≤ 700) (hg : ∀ k, bok (g k)) : CC G MJ6_getChars_ba4f3 [.int (iI i), .int (iI ((p : Int))), .ref v] h (fun o' h' => ∃ g' : Nat → Int32, (∃ x : Int, o' = .inl (some (.int (iI x)))) ∧ h'.2 v = .inl (G.2.1 2, cap, .inl g') ∧ h'.1 = h.1 ∧ (∀ x, x ≠ v → h'.2 x = h.2 x) ∧ (∀ k, bok (g' k)) ∧ (∀ k, k < n → g' k = g k) ∧ ∀ k, k < (dg i).length → g' (n + k) = iI ((dg i).getD k 0)) := by
  obtain ⟨⟨d1, hd1, hd1t⟩, ⟨d2, hd2, hd2t⟩⟩ := hGN
  have hdl := dg_len (i := i)
  have hp1 : 1 ≤ p ∧ (¬ i < 10 → 2 ≤ p) := by split at hdl <;> omega
  show RR G MJ6_getChars_ba4f3 0 [(0, .int (iI i)), (1, .int (iI ((p : Int)))), (2, .ref v)] [] h (xm_R MJ6_getChars_ba4f3).cells (xm_R MJ6_getChars_ba4f3).slots (fun o' h' => ∃ g' : Nat → Int32, (∃ x : Int, o' = .inl (some (.int (iI x)))) ∧ h'.2 v = .inl (G.2.1 2, cap, .inl g') ∧ h'.1 = h.1 ∧ (∀ x, x ≠ v → h'.2 x = h.2 x) ∧ (∀ k, bok (g' k)) ∧ (∀ k, k < n → g' k = g k) ∧ ∀ k, k < (dg i).length → g' (n + k) = iI ((dg i).getD k 0))
  refine r_iload_n dJ6_getChars_ba4f3_0 1 rfl ?_
  refine r_istore (ls' := [(0, .int (iI i)), (1, .int (iI ((p : Int)))), (2, .ref v), (5, .int (iI ((p : Int))))]) dJ6_getChars_ba4f3_1 (by decide) rfl ?_
  refine r_iload_n dJ6_getChars_ba4f3_3 0 rfl ?_
  refine i_ifge dJ6_getChars_ba4f3_4 (tgt := 11) (by decide) (by unfold in32; omega) (fun _ => ?_) (fun c => (by exfalso; omega))
  refine i_const (0) dJ6_getChars_ba4f3_11 ?_
  refine r_istore (ls' := [(0, .int (iI i)), (1, .int (iI ((p : Int)))), (2, .ref v), (5, .int (iI ((p : Int)))), (6, .int (iI 0))]) dJ6_getChars_ba4f3_12 (by decide) rfl ?_
  refine r_iload dJ6_getChars_ba4f3_14 4 rfl ?_
  refine i_ifne dJ6_getChars_ba4f3_16 (tgt := 22) (by decide) ⟨by decide, by decide⟩ (fun c => absurd c (by decide)) (fun _ => ?_)
  refine r_iload_n dJ6_getChars_ba4f3_19 0 rfl ?_
  refine i_neg dJ6_getChars_ba4f3_20 ?_
  refine r_istore_n (ls' := [(0, .int (iI (-i))), (1, .int (iI ((p : Int)))), (2, .ref v), (5, .int (iI ((p : Int)))), (6, .int (iI 0))]) dJ6_getChars_ba4f3_21 (by decide) rfl ?_
  refine r_iload_n dJ6_getChars_ba4f3_22 0 rfl ?_
  refine i_bipush (-100) (by decide) dJ6_getChars_ba4f3_23 ?_
  refine i_icmpgt dJ6_getChars_ba4f3_25 (tgt := 72) (by decide) (by unfold in32; omega) ⟨by decide, by decide⟩ (fun _ => ?_) (fun c => (by exfalso; omega))
  refine r_aload_n dJ6_getChars_ba4f3_72 2 rfl ?_
  refine i_iinc (ls' := [(0, .int (iI (-i))), (1, .int (iI ((p : Int)))), (2, .ref v), (5, .int (iI ((p : Int) - 1))), (6, .int (iI 0))]) (-1) (v := (p : Int) - 1) dJ6_getChars_ba4f3_73 3 rfl (by omega) (by decide) rfl ?_
  refine r_iload dJ6_getChars_ba4f3_76 3 rfl ?_
  refine r_gets hd1 kg_J6_83 dJ6_getChars_ba4f3_78 ?_
  refine r_iload_n dJ6_getChars_ba4f3_81 0 rfl ?_
  refine i_neg dJ6_getChars_ba4f3_82 ?_
  refine i_tb hd1t i.toNat (by omega) dJ6_getChars_ba4f3_83 (by omega) (by omega) rfl ?_
  refine i_bast (p - 1) (by omega) dJ6_getChars_ba4f3_84 mv fv (by omega) (by omega) (by omega) (fun h1 e0_1 e1_1 e2_1 => ?_)
  have mv_1 : v ∈ h1.1 := by rw [e0_1]; exact mv
  refine r_iload_n dJ6_getChars_ba4f3_85 0 rfl ?_
  refine i_bipush (-9) (by decide) dJ6_getChars_ba4f3_86 ?_
  refine i_icmpge dJ6_getChars_ba4f3_88 (tgt := 104) (by decide) (by unfold in32; omega) ⟨by decide, by decide⟩ (fun c88 => ?_) (fun c88 => ?_)
  · refine r_iload dJ6_getChars_ba4f3_104 4 rfl ?_
    refine i_ifeq dJ6_getChars_ba4f3_106 (tgt := 118) (by decide) ⟨by decide, by decide⟩ (fun _ => ?_) (fun c => absurd c (by decide))
    refine r_iload dJ6_getChars_ba4f3_118 3 rfl ?_
    refine r_ireturn rfl rfl dJ6_getChars_ba4f3_120 ?_
    have hd := dg_1 (i := i) (by omega)
    rw [hd] at hp ⊢
    have hp : p = n + 1 := hp
    refine ⟨_, ⟨_, rfl⟩, e1_1, e0_1, e2_1, fun k => bok.up hg _ (by omega) k, fun k hk => ?_, fun k hk => ?_⟩
    · unfold upd; rw [if_neg (by omega)]
    · have hk : k < 1 := hk
      obtain rfl : k = 0 := by omega
      unfold upd; rw [if_pos (by omega)]; exact congrArg iI (by show _ = 48 + i; omega)
  · refine r_aload_n dJ6_getChars_ba4f3_91 2 rfl ?_
    refine i_iinc (ls' := [(0, .int (iI (-i))), (1, .int (iI ((p : Int)))), (2, .ref v), (5, .int (iI (((p : Int) - 1) - 1))), (6, .int (iI 0))]) (-1) (v := ((p : Int) - 1) - 1) dJ6_getChars_ba4f3_92 3 rfl (by omega) (by decide) rfl ?_
    refine r_iload dJ6_getChars_ba4f3_95 3 rfl ?_
    refine r_gets hd2 kg_J6_87 dJ6_getChars_ba4f3_97 ?_
    refine r_iload_n dJ6_getChars_ba4f3_100 0 rfl ?_
    refine i_neg dJ6_getChars_ba4f3_101 ?_
    refine i_tb hd2t i.toNat (by omega) dJ6_getChars_ba4f3_102 (by omega) (by omega) rfl ?_
    refine i_bast (p - 2) (by omega) dJ6_getChars_ba4f3_103 mv_1 e1_1 (by omega) (by omega) (by omega) (fun h2 e0_2 e1_2 e2_2 => ?_)
    have mv_2 : v ∈ h2.1 := by rw [e0_2]; exact mv_1
    refine r_iload dJ6_getChars_ba4f3_104 4 rfl ?_
    refine i_ifeq dJ6_getChars_ba4f3_106 (tgt := 118) (by decide) ⟨by decide, by decide⟩ (fun _ => ?_) (fun c => absurd c (by decide))
    refine r_iload dJ6_getChars_ba4f3_118 3 rfl ?_
    refine r_ireturn rfl rfl dJ6_getChars_ba4f3_120 ?_
    have hd := dg_2 (i := i) (by omega)
    rw [hd] at hp ⊢
    have hp : p = n + 2 := hp
    refine ⟨_, ⟨_, rfl⟩, e1_2, by rw [e0_2]; exact e0_1, fun x hx => (e2_2 x hx).trans (e2_1 x hx), fun k => bok.up (fun k => bok.up hg _ (by omega) k) _ (by omega) k, fun k hk => ?_, fun k hk => ?_⟩
    · unfold upd; rw [if_neg (by omega), if_neg (by omega)]
    · have hk : k < 2 := hk
      rcases (show k = 0 ∨ k = 1 by omega) with rfl | rfl
      · unfold upd; rw [if_pos (by omega)]; exact congrArg iI (by show _ = 48 + i / 10; omega)
      · unfold upd; rw [if_neg (by omega), if_pos (by omega)]; exact congrArg iI (by show _ = 48 + i % 10; omega)
set_option maxRecDepth 20000 in
set_option maxHeartbeats 1000000 in
theorem c_J5_append_c97b9 {G : xG} {h : xH} {o v cap : Nat} {T : List Int} {g : Nat → Int32} {ml : Int32} (hS : SBB G h o v cap T g ml) (hGS : GS G) (hGN : GN G) {i : Int} (hi : 0 ≤ i ∧ i ≤ 99) (hn : T.length + (dg i).length ≤ 320) : CC G MJ5_append_c97b9 [.ref o, .int (iI i)] h (fun o' h' => o' = .inl (some (.ref o)) ∧ SBP G h h' o v (T ++ dg i) ml) := by
  have hS0 := hS
  obtain ⟨⟨mo, mv⟩, fo, fv, hTc, hcap, hg, hr⟩ := hS
  have nov : o ≠ v := ne_oi fo fv
  have hdl := dg_len (i := i)
  show RR G MJ5_append_c97b9 0 [(0, .ref o), (1, .int (iI i))] [] h (xm_R MJ5_append_c97b9).cells (xm_R MJ5_append_c97b9).slots (fun o' h' => o' = .inl (some (.ref o)) ∧ SBP G h h' o v (T ++ dg i) ml)
  refine r_aload_n dJ5_append_c97b9_0 0 rfl ?_
  refine r_get cl_J4 3 (by decide) kg_J5_79 dJ5_append_c97b9_1 mo fo rfl ?_
  refine r_istore_n (ls' := [(0, .ref o), (1, .int (iI i)), (2, .int (iI ((T.length : Int))))]) dJ5_append_c97b9_4 (by decide) rfl ?_
  refine r_iload_n dJ5_append_c97b9_5 2 rfl ?_
  refine r_iload_n dJ5_append_c97b9_6 1 rfl ?_
  refine p_callS (As := [.int (iI i)]) (rest := [.int (iI ((T.length : Int)))]) (w := (some (.int (iI (if i < 10 then 1 else 2))))) (st' := [.int (iI (if i < 10 then 1 else 2)), .int (iI ((T.length : Int)))]) kv_J5_append_c97b9_245 dJ5_append_c97b9_7 rfl rfl (Nat.le_of_ble_eq_true rfl) (Nat.le_of_ble_eq_true rfl) rfl rfl (c_J6_stringSize_0f7a4 hi) rfl (fun hk1 e9k1 => ?_)
  rw [show hk1 = h from e9k1]
  refine i_add dJ5_append_c97b9_10 ?_
  obtain ⟨p, hp⟩ : ∃ p : Nat, p = T.length + (dg i).length := ⟨_, rfl⟩
  rw [show (T.length : Int) + (if i < 10 then 1 else 2) = (p : Int) by rw [hp, ← dg_len]; push_cast; rfl]
  refine r_istore_n (ls' := [(0, .ref o), (1, .int (iI i)), (2, .int (iI ((T.length : Int)))), (3, .int (iI ((p : Int))))]) dJ5_append_c97b9_11 (by decide) rfl ?_
  refine r_aload_n dJ5_append_c97b9_12 0 rfl ?_
  refine r_iload_n dJ5_append_c97b9_13 3 rfl ?_
  refine k_callU (x := ⟨"java/lang/AbstractStringBuilder", "ensureCapacityInternal", "(I)V"⟩) (C := RJ4) (As := [.int (iI ((p : Int)))]) (b := o) (rest := []) (w := none) (st' := []) kl_J5_append_c97b9_100 kw_J5_append_c97b9_100 rfl rfl dJ5_append_c97b9_14 rfl rfl (Nat.le_of_ble_eq_true rfl) (Nat.le_of_ble_eq_true rfl) (x_rv mo fo rfl) (by first | omega | exact Nat.le_of_ble_eq_true rfl) (by first | omega | exact Nat.le_of_ble_eq_true rfl) (c_J5_ensureCapacityInternal_d00df hS0 (by omega)) rfl (fun hk2 e9k2 => ?_)
  obtain ⟨v', cap', g', hSk2, hcnk2, hvok2, hgrk2⟩ := e9k2
  have hS0k2 := hSk2
  obtain ⟨⟨mok2, mvk2⟩, fok2, fvk2, hTck2, hcapk2, hgk2, hrk2⟩ := hSk2
  have novk2 : o ≠ v' := ne_oi fok2 fvk2
  refine r_aload_n dJ5_append_c97b9_17 0 rfl ?_
  refine k_callU (x := ⟨"java/lang/AbstractStringBuilder", "isLatin1", "()Z"⟩) (C := RJ4) (As := []) (b := o) (rest := []) (w := (some (.int (iI 1)))) (st' := [.int (iI 1)]) kl_J5_append_c97b9_83 kw_J5_append_c97b9_83 rfl rfl dJ5_append_c97b9_18 rfl rfl (Nat.le_of_ble_eq_true rfl) (Nat.le_of_ble_eq_true rfl) (x_rv mok2 fok2 rfl) (by first | omega | exact Nat.le_of_ble_eq_true rfl) (by first | omega | exact Nat.le_of_ble_eq_true rfl) (c_J5_isLatin1_aae02 hS0k2 hGS) rfl (fun hk3 e9k3 => ?_)
  rw [show hk3 = hk2 from e9k3]
  refine i_ifeq dJ5_append_c97b9_21 (tgt := 37) (by decide) ⟨by decide, by decide⟩ (fun c => absurd c (by decide)) (fun _ => ?_)
  refine r_iload_n dJ5_append_c97b9_24 1 rfl ?_
  refine r_iload_n dJ5_append_c97b9_25 3 rfl ?_
  refine r_aload_n dJ5_append_c97b9_26 0 rfl ?_
  refine r_get cl_J4 0 (by decide) kg_J5_15 dJ5_append_c97b9_27 mok2 fok2 rfl ?_
  refine r_callS (As := [.int (iI i), .int (iI ((p : Int))), .ref v']) (rest := []) kv_J5_append_c97b9_248 dJ5_append_c97b9_30 rfl rfl (Nat.le_of_ble_eq_true rfl) (Nat.le_of_ble_eq_true rfl) (by first | omega | exact Nat.le_of_ble_eq_true rfl) (by first | omega | exact Nat.le_of_ble_eq_true rfl) (c_J6_getChars_ba4f3 hGN (n := T.length) (p := p) mvk2 fvk2 hi hp (by omega) (by omega) hgk2) (fun E h9 e9 => by obtain ⟨_, ⟨_, z⟩, _⟩ := e9; cases z) (fun v9 hk4 e9k4 => ?_)
  obtain ⟨g9, ⟨x9, z9⟩, e1_k4, e0_k4, e2_k4, hg9, hlo9, hhi9⟩ := e9k4
  cases z9
  have mo_k4 : o ∈ hk4.1 := by rw [e0_k4]; exact mok2
  have fo_k4 := (e2_k4 _ novk2).trans fok2
  have mv'_k4 : v' ∈ hk4.1 := by rw [e0_k4]; exact mvk2
  show RR G MJ5_append_c97b9 33 [(0, .ref o), (1, .int (iI i)), (2, .int (iI ((T.length : Int)))), (3, .int (iI ((p : Int))))] [.int (iI x9)] hk4 _ _ _
  refine r_pop dJ5_append_c97b9_33 rfl ?_
  refine r_goto dJ5_append_c97b9_34 (tgt := 48) (by decide) ?_
  refine r_aload_n dJ5_append_c97b9_48 0 rfl ?_
  refine r_iload_n dJ5_append_c97b9_49 3 rfl ?_
  refine i_put [.ref v', .int (iI 0), .int ml, .int (iI ((p : Int)))] cl_J4 3 (by decide) kg_J5_79 rfl dJ5_append_c97b9_50 mo_k4 fo_k4 rfl rfl (by simp) rfl (fun h5 e0_5 e1_5 e2_5 => ?_)
  have mo_5 : o ∈ h5.1 := by rw [e0_5]; exact mo_k4
  have mv'_5 : v' ∈ h5.1 := by rw [e0_5]; exact mv'_k4
  have fv'_5 := (e2_5 _ (Ne.symm novk2)).trans e1_k4
  refine r_aload_n dJ5_append_c97b9_53 0 rfl ?_
  refine r_areturn rfl dJ5_append_c97b9_54 ?_
  refine ⟨rfl, v', cap', _, ⟨⟨mo_5, mv'_5⟩, ?_, fv'_5, ?_, by omega, ?_, ?_⟩, hvok2, ?_⟩
  · have e : ((T ++ dg i).length : Int) = (p : Int) := by rw [List.length_append, hp]
    rw [e]; exact e1_5
  · rw [List.length_append]; omega
  · exact hg9
  · exact cat_dg hrk2 hlo9 hhi9
  · refine (((hgrk2.mono (by simp)).off2 (fp' := [v']) (GRp.of (FRp.w (fp := [v']) (List.mem_singleton.mpr rfl) e0_k4 e2_k4)) ?_).tr (GRp.w (by simp) e0_5 e2_5))
    intro q hq hq2
    rw [List.mem_singleton.mp hq] at hq2 ⊢
    rcases hvok2 with z | z
    · rw [z]; simp
    · exact absurd hq2 z
set_option maxRecDepth 20000 in
set_option maxHeartbeats 1000000 in
theorem c_J4_append_bf812 {G : xG} {h : xH} {o v cap : Nat} {T : List Int} {g : Nat → Int32} {ml : Int32} (hS : SBB G h o v cap T g ml) (hGS : GS G) (hGN : GN G) {i : Int} (hi : 0 ≤ i ∧ i ≤ 99) (hn : T.length + (dg i).length ≤ 320) : CC G MJ4_append_bf812 [.ref o, .int (iI i)] h (fun o' h' => o' = .inl (some (.ref o)) ∧ SBP G h h' o v (T ++ dg i) ml) := by
  have hS0 := hS
  obtain ⟨⟨mo, mv⟩, fo, fv, hTc, hcap, hg, hr⟩ := hS
  have nov : o ≠ v := ne_oi fo fv
  show RR G MJ4_append_bf812 0 [(0, .ref o), (1, .int (iI i))] [] h (xm_R MJ4_append_bf812).cells (xm_R MJ4_append_bf812).slots (fun o' h' => o' = .inl (some (.ref o)) ∧ SBP G h h' o v (T ++ dg i) ml)
  refine r_aload_n dJ4_append_bf812_0 0 rfl ?_
  refine r_iload_n dJ4_append_bf812_1 1 rfl ?_
  refine k_callSU (As := [.int (iI i)]) (b := o) (rest := []) (w := (some (.ref o))) (st' := [.ref o]) kl_J4_append_bf812_53 kw_J4_append_bf812_53 (by decide) dJ4_append_bf812_2 rfl rfl (Nat.le_of_ble_eq_true rfl) (Nat.le_of_ble_eq_true rfl) mo fo rfl (by first | omega | exact Nat.le_of_ble_eq_true rfl) (by first | omega | exact Nat.le_of_ble_eq_true rfl) (c_J5_append_c97b9 hS0 hGS hGN hi hn) rfl (fun hk1 e9k1 => ?_)
  refine r_pop dJ4_append_bf812_5 rfl ?_
  refine r_aload_n dJ4_append_bf812_6 0 rfl ?_
  refine r_areturn rfl dJ4_append_bf812_7 ?_
  exact ⟨rfl, e9k1⟩
set_option maxRecDepth 20000 in
set_option maxHeartbeats 1000000 in
theorem c_J7_checkLength_df160 {G : xG} {h : xH} {a b : Int} (ha : in32 a) (hb : in32 b) (hab : a ≤ b) : CC G MJ7_checkLength_df160 [.int (iI a), .int (iI b)] h (fun o' h' => o' = .inl none ∧ h' = h) := by
  show RR G MJ7_checkLength_df160 0 [(0, .int (iI a)), (1, .int (iI b))] [] h (xm_R MJ7_checkLength_df160).cells (xm_R MJ7_checkLength_df160).slots (fun o' h' => o' = .inl none ∧ h' = h)
  refine r_iload_n dJ7_checkLength_df160_0 1 rfl ?_
  refine r_iload_n dJ7_checkLength_df160_1 0 rfl ?_
  refine i_icmpge dJ7_checkLength_df160_2 (tgt := 37) (by decide) (by first | assumption | (unfold in32; omega)) (by first | assumption | (unfold in32; omega)) (fun c2 => ?_) (fun c2 => ?_)
  · refine r_return rfl dJ7_checkLength_df160_37 ?_
    exact ⟨rfl, rfl⟩
  · exfalso
    omega
set_option maxRecDepth 20000 in
set_option maxHeartbeats 1000000 in
theorem c_J7_copyOfRangeByte_39247 {G : xG} {h : xH} {v cap n : Nat} {g : Nat → Int32} (mv : v ∈ h.1) (fv : h.2 v = .inl (G.2.1 2, cap, .inl g)) (hn : n ≤ cap) (hcap : cap ≤ 700) (hg : ∀ k, bok (g k)) : CC G MJ7_copyOfRangeByte_39247 [.ref v, .int (iI 0), .int (iI ((n : Int)))] h (qN (fun q h' => ∃ g' : Nat → Int32, NEW1 h h' q (.inl (G.2.1 2, n, .inl g')) ∧ ∀ k, k < n → g' k = g k)) := by
  show RR G MJ7_copyOfRangeByte_39247 0 [(0, .ref v), (1, .int (iI 0)), (2, .int (iI ((n : Int))))] [] h (xm_R MJ7_copyOfRangeByte_39247).cells (xm_R MJ7_copyOfRangeByte_39247).slots (qN (fun q h' => ∃ g' : Nat → Int32, NEW1 h h' q (.inl (G.2.1 2, n, .inl g')) ∧ ∀ k, k < n → g' k = g k))
  refine r_iload_n dJ7_copyOfRangeByte_39247_0 1 rfl ?_
  refine r_iload_n dJ7_copyOfRangeByte_39247_1 2 rfl ?_
  refine p_callS (As := [.int (iI 0), .int (iI ((n : Int)))]) (rest := []) (w := none) (st' := []) kv_J7_copyOfRangeByte_39247_343 dJ7_copyOfRangeByte_39247_2 rfl rfl (Nat.le_of_ble_eq_true rfl) (Nat.le_of_ble_eq_true rfl) rfl rfl (c_J7_checkLength_df160 ⟨by decide, by decide⟩ (by unfold in32; omega) (by omega)) rfl (fun hk1 e9k1 => ?_)
  rw [show hk1 = h from e9k1]
  refine r_iload_n dJ7_copyOfRangeByte_39247_5 2 rfl ?_
  refine r_iload_n dJ7_copyOfRangeByte_39247_6 1 rfl ?_
  refine i_sub dJ7_copyOfRangeByte_39247_7 ?_
  refine r_istore_n (ls' := [(0, .ref v), (1, .int (iI 0)), (2, .int (iI ((n : Int)))), (3, .int (iI ((n : Int) - 0)))]) dJ7_copyOfRangeByte_39247_8 (by decide) rfl ?_
  refine r_iload_n dJ7_copyOfRangeByte_39247_9 3 rfl ?_
  refine i_newB n (by omega) (by omega) dJ7_copyOfRangeByte_39247_10 (Nat.le_of_ble_eq_true rfl) (Nat.le_trans (show n ≤ 1000 by omega) (Nat.le_of_ble_eq_true rfl)) (fun qn2 hn2 hqn2 e0_n2 e1_n2 e2_n2 => ?_)
  have nv_n2 : v ≠ qn2 := fun z => hqn2 (by rw [← z]; exact mv)
  have fv_n2 := (e2_n2 v nv_n2).trans fv
  have mv_n2 : v ∈ hn2.1 := by rw [e0_n2]; exact List.mem_append_left _ mv
  have mqn2 : qn2 ∈ hn2.1 := by rw [e0_n2]; exact List.mem_append_right _ (List.mem_singleton.mpr rfl)
  refine r_astore (ls' := [(0, .ref v), (1, .int (iI 0)), (2, .int (iI ((n : Int)))), (3, .int (iI ((n : Int) - 0))), (4, .ref qn2)]) dJ7_copyOfRangeByte_39247_12 (by decide) rfl ?_
  refine r_aload_n dJ7_copyOfRangeByte_39247_14 0 rfl ?_
  refine r_iload_n dJ7_copyOfRangeByte_39247_15 1 rfl ?_
  refine r_aload dJ7_copyOfRangeByte_39247_16 4 rfl ?_
  refine i_const (0) dJ7_copyOfRangeByte_39247_18 ?_
  refine r_aload_n dJ7_copyOfRangeByte_39247_19 0 rfl ?_
  refine r_alen (t := 2) (v := iI (cap : Int)) rfl dJ7_copyOfRangeByte_39247_20 mv_n2 fv_n2 (iI_nat _).symm ?_
  refine r_iload_n dJ7_copyOfRangeByte_39247_21 1 rfl ?_
  refine i_sub dJ7_copyOfRangeByte_39247_22 ?_
  refine r_iload_n dJ7_copyOfRangeByte_39247_23 3 rfl ?_
  refine i_min (kv_J7_copyOfRangeByte_39247_304 4 (by decide)) rfl dJ7_copyOfRangeByte_39247_24 (by unfold in32; omega) (by unfold in32; omega) ?_
  refine i_copyB 0 0 n rfl rfl (by omega) (kv_J7_copyOfRangeByte_39247_150 0 (by decide)) rfl dJ7_copyOfRangeByte_39247_27 mv_n2 fv_n2 mqn2 e1_n2 (by omega) (by omega) (by omega) (by omega) hg (fun h3 e0_3 e1_3 e2_3 => ?_)
  have mv_3 : v ∈ h3.1 := by rw [e0_3]; exact mv_n2
  have fv_3 := (e2_3 _ nv_n2).trans fv_n2
  have mqn2_3 : qn2 ∈ h3.1 := by rw [e0_3]; exact mqn2
  refine r_aload dJ7_copyOfRangeByte_39247_30 4 rfl ?_
  refine r_areturnA rfl dJ7_copyOfRangeByte_39247_32 ?_
  refine ⟨qn2, rfl, _, ⟨hqn2, by rw [e0_3]; exact e0_n2, e1_3, fun x hx => (e2_3 x hx).trans (e2_n2 x hx)⟩, fun k hk => ?_⟩
  unfold va_cpy; rw [if_pos ⟨Nat.zero_le _, by omega⟩, show 0 + (k - 0) = k by omega]
set_option maxRecDepth 20000 in
set_option maxHeartbeats 1000000 in
theorem c_J7_copyOfRange_39247 {G : xG} {h : xH} (hGB : GB G) {v cap n : Nat} {g : Nat → Int32} (mv : v ∈ h.1) (fv : h.2 v = .inl (G.2.1 2, cap, .inl g)) (hn : n ≤ cap) (hcap : cap ≤ 700) (hg : ∀ k, bok (g k)) : CC G MJ7_copyOfRange_39247 [.ref v, .int (iI 0), .int (iI ((n : Int)))] h (qN (fun q h' => ∃ g' : Nat → Int32, NEW1 h h' q (.inl (G.2.1 2, n, .inl g')) ∧ ∀ k, k < n → g' k = g k)) := by
  show RR G MJ7_copyOfRange_39247 0 [(0, .ref v), (1, .int (iI 0)), (2, .int (iI ((n : Int))))] [] h (xm_R MJ7_copyOfRange_39247).cells (xm_R MJ7_copyOfRange_39247).slots (qN (fun q h' => ∃ g' : Nat → Int32, NEW1 h h' q (.inl (G.2.1 2, n, .inl g')) ∧ ∀ k, k < n → g' k = g k))
  refine r_iload_n dJ7_copyOfRange_39247_0 1 rfl ?_
  refine i_ifne dJ7_copyOfRange_39247_1 (tgt := 10) (by decide) ⟨by decide, by decide⟩ (fun c => absurd c (by decide)) (fun _ => ?_)
  refine r_iload_n dJ7_copyOfRange_39247_4 2 rfl ?_
  refine r_aload_n dJ7_copyOfRange_39247_5 0 rfl ?_
  refine r_alen (t := 2) (v := iI (cap : Int)) rfl dJ7_copyOfRange_39247_6 mv fv (iI_nat _).symm ?_
  refine i_icmpeq dJ7_copyOfRange_39247_7 (tgt := 17) (by decide) (by unfold in32; omega) (by unfold in32; omega) (fun c7 => ?_) (fun c7 => ?_)
  · refine r_aload_n dJ7_copyOfRange_39247_17 0 rfl ?_
    refine i_clone hGB (kn_J7_copyOfRange_39247 0 (by decide)) rfl dJ7_copyOfRange_39247_18 mv fv hg (Nat.le_of_ble_eq_true rfl) (Nat.le_trans (show cap ≤ 1000 by omega) (Nat.le_of_ble_eq_true rfl)) (fun qn1 hn1 hqn1 e0_n1 e1_n1 e2_n1 => ?_)
    have nv_n1 : v ≠ qn1 := fun z => hqn1 (by rw [← z]; exact mv)
    have fv_n1 := (e2_n1 v nv_n1).trans fv
    have mv_n1 : v ∈ hn1.1 := by rw [e0_n1]; exact List.mem_append_left _ mv
    have mqn1 : qn1 ∈ hn1.1 := by rw [e0_n1]; exact List.mem_append_right _ (List.mem_singleton.mpr rfl)
    refine i_castB hGB kl_byB dJ7_copyOfRange_39247_21 mqn1 e1_n1 ?_
    refine r_areturnA rfl dJ7_copyOfRange_39247_24 ?_
    have e : cap = n := by omega
    subst e
    exact ⟨qn1, rfl, g, ⟨hqn1, e0_n1, e1_n1, e2_n1⟩, fun _ _ => rfl⟩
  · refine r_aload_n dJ7_copyOfRange_39247_10 0 rfl ?_
    refine r_iload_n dJ7_copyOfRange_39247_11 1 rfl ?_
    refine r_iload_n dJ7_copyOfRange_39247_12 2 rfl ?_
    refine q_callS (As := [.ref v, .int (iI 0), .int (iI ((n : Int)))]) (rest := []) kv_J7_copyOfRange_39247_339 dJ7_copyOfRange_39247_13 rfl rfl (Nat.le_of_ble_eq_true rfl) (Nat.le_of_ble_eq_true rfl) (by first | omega | exact Nat.le_of_ble_eq_true rfl) (by first | omega | exact Nat.le_of_ble_eq_true rfl) (c_J7_copyOfRangeByte_39247 mv fv hn hcap hg) (fun q9 hk2 e9k2 => ?_)
    obtain ⟨g9, hN9, hg9⟩ := e9k2
    refine r_areturnA rfl dJ7_copyOfRange_39247_16 ?_
    exact ⟨q9, rfl, g9, hN9, hg9⟩
set_option maxRecDepth 20000 in
set_option maxHeartbeats 1000000 in
theorem c_J0_init_db425 {G : xG} {h : xH} {o v cap : Nat} {T : List Int} {g : Nat → Int32} {ml : Int32} (hS : SBB G h o v cap T g ml) (hGS : GS G) (hGB : GB G) {s : Nat} (ms : s ∈ h.1) (fs : h.2 s = .inr (8, [.null, .int (iI 0), .int (iI 0), .int (iI 0)])) : CC G MJ0_init_db425 [.ref s, .ref o, .null] h (fun o' h' => o' = .inl none ∧ ∃ (q : Nat) (g' : Nat → Int32), h'.2 s = .inr (8, [.ref q, .int (iI 0), .int (iI 0), .int (iI 0)]) ∧ h'.2 q = .inl (G.2.1 2, T.length, .inl g') ∧ (∀ k, k < T.length → g' k = iI (T.getD k 0)) ∧ q ∉ h.1 ∧ q ∈ h'.1 ∧ GRp [s] h h') := by
  have hS0 := hS
  obtain ⟨⟨mo, mv⟩, fo, fv, hTc, hcap, hg, hr⟩ := hS
  have nov : o ≠ v := ne_oi fo fv
  have nso : s ≠ o := fun z => by rw [z, fo] at fs; cases fs
  have nsv : s ≠ v := ne_oi fs fv
  show RR G MJ0_init_db425 0 [(0, .ref s), (1, .ref o), (2, .null)] [] h (xm_R MJ0_init_db425).cells (xm_R MJ0_init_db425).slots (fun o' h' => o' = .inl none ∧ ∃ (q : Nat) (g' : Nat → Int32), h'.2 s = .inr (8, [.ref q, .int (iI 0), .int (iI 0), .int (iI 0)]) ∧ h'.2 q = .inl (G.2.1 2, T.length, .inl g') ∧ (∀ k, k < T.length → g' k = iI (T.getD k 0)) ∧ q ∉ h.1 ∧ q ∈ h'.1 ∧ GRp [s] h h')
  refine r_aload_n dJ0_init_db425_0 0 rfl ?_
  refine r_objinit km_J0_1 ks_obj.1 ks_obj.2 dJ0_init_db425_1 (by decide) (by decide) ?_
  refine r_aload_n dJ0_init_db425_4 1 rfl ?_
  refine k_callU (x := ⟨"java/lang/AbstractStringBuilder", "getValue", "()[B"⟩) (C := RJ4) (As := []) (b := o) (rest := []) (w := (some (.ref v))) (st' := [.ref v]) kl_J0_init_db425_552 kw_J0_init_db425_552 rfl rfl dJ0_init_db425_5 rfl rfl (Nat.le_of_ble_eq_true rfl) (Nat.le_of_ble_eq_true rfl) (x_rv mo fo rfl) (by first | omega | exact Nat.le_of_ble_eq_true rfl) (by first | omega | exact Nat.le_of_ble_eq_true rfl) (c_J5_getValue_6d5f1 hS0) rfl (fun hk1 e9k1 => ?_)
  rw [show hk1 = h from e9k1]
  refine r_astore_n (ls' := [(0, .ref s), (1, .ref o), (2, .null), (3, .ref v)]) dJ0_init_db425_8 (by decide) rfl ?_
  refine r_aload_n dJ0_init_db425_9 1 rfl ?_
  refine k_callO (x := ⟨"java/lang/AbstractStringBuilder", "length", "()I"⟩) (C := RJ4) (owner := RJ5) (As := []) (b := o) (rest := []) (w := (some (.int (iI ((T.length : Int)))))) (st' := [.int (iI ((T.length : Int)))]) kl_J0_init_db425_549 kw_J0_init_db425_549 kc_J5_length_8abf5.2.1 ⟨by decide +kernel, by decide +kernel, by decide +kernel⟩ dJ0_init_db425_10 rfl rfl (Nat.le_of_ble_eq_true rfl) (Nat.le_of_ble_eq_true rfl) (x_rv mo fo rfl) (by first | omega | exact Nat.le_of_ble_eq_true rfl) (by first | omega | exact Nat.le_of_ble_eq_true rfl) (c_J4_length_8abf5 hS0) rfl (fun hk2 e9k2 => ?_)
  rw [show hk2 = h from e9k2]
  refine r_istore (ls' := [(0, .ref s), (1, .ref o), (2, .null), (3, .ref v), (4, .int (iI ((T.length : Int))))]) dJ0_init_db425_13 (by decide) rfl ?_
  refine r_aload_n dJ0_init_db425_15 1 rfl ?_
  refine k_callU (x := ⟨"java/lang/AbstractStringBuilder", "isLatin1", "()Z"⟩) (C := RJ4) (As := []) (b := o) (rest := []) (w := (some (.int (iI 1)))) (st' := [.int (iI 1)]) kl_J0_init_db425_1047 kw_J0_init_db425_1047 rfl rfl dJ0_init_db425_16 rfl rfl (Nat.le_of_ble_eq_true rfl) (Nat.le_of_ble_eq_true rfl) (x_rv mo fo rfl) (by first | omega | exact Nat.le_of_ble_eq_true rfl) (by first | omega | exact Nat.le_of_ble_eq_true rfl) (c_J5_isLatin1_aae02 hS0 hGS) rfl (fun hk3 e9k3 => ?_)
  rw [show hk3 = h from e9k3]
  refine i_ifeq dJ0_init_db425_19 (tgt := 41) (by decide) ⟨by decide, by decide⟩ (fun c => absurd c (by decide)) (fun _ => ?_)
  refine r_aload_n dJ0_init_db425_22 0 rfl ?_
  refine i_const (0) dJ0_init_db425_23 ?_
  refine i_putF [.null, .int (iI 0), .int (iI 0), .int (iI 0)] cl_J0 1 (by decide) kf_J0_15 rfl rfl rfl dJ0_init_db425_24 ms fs rfl rfl (by simp) rfl (fun h4 e0_4 e1_4 e2_4 => ?_)
  have mo_4 : o ∈ h4.1 := by rw [e0_4]; exact mo
  have fo_4 := (e2_4 _ (Ne.symm nso)).trans fo
  have mv_4 : v ∈ h4.1 := by rw [e0_4]; exact mv
  have fv_4 := (e2_4 _ (Ne.symm nsv)).trans fv
  have ms_4 : s ∈ h4.1 := by rw [e0_4]; exact ms
  refine r_aload_n dJ0_init_db425_27 0 rfl ?_
  refine r_aload_n dJ0_init_db425_28 3 rfl ?_
  refine i_const (0) dJ0_init_db425_29 ?_
  refine r_iload dJ0_init_db425_30 4 rfl ?_
  refine q_callS (As := [.ref v, .int (iI 0), .int (iI ((T.length : Int)))]) (rest := [.ref s]) kv_J0_init_db425_54 dJ0_init_db425_32 rfl rfl (Nat.le_of_ble_eq_true rfl) (Nat.le_of_ble_eq_true rfl) (by first | omega | exact Nat.le_of_ble_eq_true rfl) (by first | omega | exact Nat.le_of_ble_eq_true rfl) (c_J7_copyOfRange_39247 hGB mv_4 fv_4 hTc hcap hg) (fun q9 hk5 e9k5 => ?_)
  obtain ⟨g9, ⟨hqk5, e0_k5, e1_k5, e2_k5⟩, hg9⟩ := e9k5
  have no_k5 : o ≠ q9 := fun z => hqk5 (by rw [← z]; exact mo_4)
  have fo_k5 := (e2_k5 o no_k5).trans fo_4
  have mo_k5 : o ∈ hk5.1 := by rw [e0_k5]; exact List.mem_append_left _ mo_4
  have nv_k5 : v ≠ q9 := fun z => hqk5 (by rw [← z]; exact mv_4)
  have fv_k5 := (e2_k5 v nv_k5).trans fv_4
  have mv_k5 : v ∈ hk5.1 := by rw [e0_k5]; exact List.mem_append_left _ mv_4
  have ns_k5 : s ≠ q9 := fun z => hqk5 (by rw [← z]; exact ms_4)
  have fs_k5 := (e2_k5 s ns_k5).trans e1_4
  have ms_k5 : s ∈ hk5.1 := by rw [e0_k5]; exact List.mem_append_left _ ms_4
  have mq9 : q9 ∈ hk5.1 := by rw [e0_k5]; exact List.mem_append_right _ (List.mem_singleton.mpr rfl)
  refine i_putF [.ref q9, .int (iI 0), .int (iI 0), .int (iI 0)] cl_J0 0 (by decide) kf_J0_9 rfl rfl rfl dJ0_init_db425_35 ms_k5 fs_k5 rfl rfl (by simp) rfl (fun h6 e0_6 e1_6 e2_6 => ?_)
  have mo_6 : o ∈ h6.1 := by rw [e0_6]; exact mo_k5
  have fo_6 := (e2_6 _ (Ne.symm nso)).trans fo_k5
  have mv_6 : v ∈ h6.1 := by rw [e0_6]; exact mv_k5
  have fv_6 := (e2_6 _ (Ne.symm nsv)).trans fv_k5
  have ms_6 : s ∈ h6.1 := by rw [e0_6]; exact ms_k5
  have mq9_6 : q9 ∈ h6.1 := by rw [e0_6]; exact mq9
  have fq9_6 := (e2_6 _ (Ne.symm ns_k5)).trans e1_k5
  refine r_goto dJ0_init_db425_38 (tgt := 97) (by decide) ?_
  refine r_return rfl dJ0_init_db425_97 ?_
  refine ⟨rfl, q9, g9, e1_6, fq9_6, fun k hk => (hg9 k hk).trans (hr k hk), fun z => hqk5 (by rw [e0_4]; exact z), mq9_6, ?_⟩
  exact ((GRp.w (List.mem_singleton.mpr rfl) e0_4 e2_4).tr ((GRp.new hqk5 e0_k5 e2_k5).mono (fun _ z => absurd z List.not_mem_nil))).tr (GRp.w (List.mem_singleton.mpr rfl) e0_6 e2_6)
set_option maxRecDepth 20000 in
set_option maxHeartbeats 1000000 in
theorem c_J0_init_81219 {G : xG} {h : xH} {o v cap : Nat} {T : List Int} {g : Nat → Int32} {ml : Int32} (hS : SBB G h o v cap T g ml) (hGS : GS G) (hGB : GB G) {s : Nat} (ms : s ∈ h.1) (fs : h.2 s = .inr (8, [.null, .int (iI 0), .int (iI 0), .int (iI 0)])) : CC G MJ0_init_81219 [.ref s, .ref o] h (fun o' h' => o' = .inl none ∧ ∃ (q : Nat) (g' : Nat → Int32), h'.2 s = .inr (8, [.ref q, .int (iI 0), .int (iI 0), .int (iI 0)]) ∧ h'.2 q = .inl (G.2.1 2, T.length, .inl g') ∧ (∀ k, k < T.length → g' k = iI (T.getD k 0)) ∧ q ∉ h.1 ∧ q ∈ h'.1 ∧ GRp [s] h h') := by
  have hS0 := hS
  obtain ⟨⟨mo, mv⟩, fo, fv, hTc, hcap, hg, hr⟩ := hS
  have nov : o ≠ v := ne_oi fo fv
  show RR G MJ0_init_81219 0 [(0, .ref s), (1, .ref o)] [] h (xm_R MJ0_init_81219).cells (xm_R MJ0_init_81219).slots (fun o' h' => o' = .inl none ∧ ∃ (q : Nat) (g' : Nat → Int32), h'.2 s = .inr (8, [.ref q, .int (iI 0), .int (iI 0), .int (iI 0)]) ∧ h'.2 q = .inl (G.2.1 2, T.length, .inl g') ∧ (∀ k, k < T.length → g' k = iI (T.getD k 0)) ∧ q ∉ h.1 ∧ q ∈ h'.1 ∧ GRp [s] h h')
  refine r_aload_n dJ0_init_81219_0 0 rfl ?_
  refine r_aload_n dJ0_init_81219_1 1 rfl ?_
  refine r_null dJ0_init_81219_2 ?_
  refine k_callI (As := [.ref o, .null]) (b := s) (rest := []) (w := none) (st' := []) kv_J0_init_81219_489 dJ0_init_81219_3 rfl rfl (Nat.le_of_ble_eq_true rfl) (Nat.le_of_ble_eq_true rfl) (Nat.le_of_ble_eq_true rfl) (Nat.le_of_ble_eq_true rfl) (c_J0_init_db425 hS0 hGS hGB ms fs) rfl (fun hk1 e9k1 => ?_)
  refine r_return rfl dJ0_init_81219_6 ?_
  exact ⟨rfl, e9k1⟩
set_option maxRecDepth 20000 in
set_option maxHeartbeats 1000000 in
theorem c_J4_toString_0e30d {G : xG} {h : xH} {o v cap : Nat} {T : List Int} {g : Nat → Int32} {ml : Int32} (hS : SBB G h o v cap T g ml) (hGS : GS G) (hGB : GB G) : CC G MJ4_toString_0e30d [.ref o] h (qN (fun s h' => ∃ (q : Nat) (g' : Nat → Int32), h'.2 s = .inr (8, [.ref q, .int (iI 0), .int (iI 0), .int (iI 0)]) ∧ h'.2 q = .inl (G.2.1 2, T.length, .inl g') ∧ (∀ k, k < T.length → g' k = iI (T.getD k 0)) ∧ (s ∉ h.1 ∧ q ∉ h.1 ∧ s ∈ h'.1 ∧ q ∈ h'.1) ∧ GRp [] h h')) := by
  have hS0 := hS
  obtain ⟨⟨mo, mv⟩, fo, fv, hTc, hcap, hg, hr⟩ := hS
  have nov : o ≠ v := ne_oi fo fv
  show RR G MJ4_toString_0e30d 0 [(0, .ref o)] [] h (xm_R MJ4_toString_0e30d).cells (xm_R MJ4_toString_0e30d).slots (qN (fun s h' => ∃ (q : Nat) (g' : Nat → Int32), h'.2 s = .inr (8, [.ref q, .int (iI 0), .int (iI 0), .int (iI 0)]) ∧ h'.2 q = .inl (G.2.1 2, T.length, .inl g') ∧ (∀ k, k < T.length → g' k = iI (T.getD k 0)) ∧ (s ∉ h.1 ∧ q ∉ h.1 ∧ s ∈ h'.1 ∧ q ∈ h'.1) ∧ GRp [] h h'))
  refine i_newO cl_J0 (fs := [.null, .int (iI 0), .int (iI 0), .int (iI 0)]) kl_J4_18 kn_J0 ki_J0 dJ4_toString_0e30d_0 (fun j hj => by rcases (show j = 0 ∨ j = 1 ∨ j = 2 ∨ j = 3 by omega) with rfl | rfl | rfl | rfl <;> rfl) (by first | omega | exact Nat.le_of_ble_eq_true rfl) (by first | omega | exact Nat.le_of_ble_eq_true rfl) (fun qn1 hn1 hqn1 e0_n1 e1_n1 e2_n1 => ?_)
  have no_n1 : o ≠ qn1 := fun z => hqn1 (by rw [← z]; exact mo)
  have fo_n1 := (e2_n1 o no_n1).trans fo
  have mo_n1 : o ∈ hn1.1 := by rw [e0_n1]; exact List.mem_append_left _ mo
  have nv_n1 : v ≠ qn1 := fun z => hqn1 (by rw [← z]; exact mv)
  have fv_n1 := (e2_n1 v nv_n1).trans fv
  have mv_n1 : v ∈ hn1.1 := by rw [e0_n1]; exact List.mem_append_left _ mv
  have mqn1 : qn1 ∈ hn1.1 := by rw [e0_n1]; exact List.mem_append_right _ (List.mem_singleton.mpr rfl)
  refine r_dup dJ4_toString_0e30d_3 rfl ?_
  refine r_aload_n dJ4_toString_0e30d_4 0 rfl ?_
  have hS1 : SBB G hn1 o v cap T g ml := ⟨⟨mo_n1, mv_n1⟩, fo_n1, fv_n1, hTc, hcap, hg, hr⟩
  refine k_callI (As := [.ref o]) (b := qn1) (rest := [.ref qn1]) (w := none) (st' := [.ref qn1]) kv_J4_toString_0e30d_137 dJ4_toString_0e30d_5 rfl rfl (Nat.le_of_ble_eq_true rfl) (Nat.le_of_ble_eq_true rfl) (Nat.le_of_ble_eq_true rfl) (Nat.le_of_ble_eq_true rfl) (c_J0_init_81219 hS1 hGS hGB mqn1 e1_n1) rfl (fun hk2 e9k2 => ?_)
  refine r_areturn rfl dJ4_toString_0e30d_8 ?_
  obtain ⟨q9, g9, f1, f2, f3, f4, f5, f6⟩ := e9k2
  refine ⟨qn1, rfl, q9, g9, f1, f2, f3, ⟨hqn1, fun z => f4 (by rw [e0_n1]; exact List.mem_append_left _ z), f6.1 _ mqn1, f5⟩, ?_⟩
  exact ((GRp.new hqn1 e0_n1 e2_n1).mono (fun _ z => absurd z List.not_mem_nil)).off f6 (fun q z => by rw [List.mem_singleton.mp z]; exact hqn1)
/-- a string made by the law: its row, its letters -/
def STO (G : xG) (h : xH) (s q : Nat) (T : List Int) (g : Nat → Int32) : Prop := (s ∈ h.1 ∧ q ∈ h.1) ∧ h.2 s = .inr (8, [.ref q, .int (iI 0), .int (iI 0), .int (iI 0)]) ∧ h.2 q = .inl (G.2.1 2, T.length, .inl g) ∧ T.length ≤ 320 ∧ (∀ k, k < T.length → g k = iI (T.getD k 0)) ∧ ∀ k, k < T.length → 0 ≤ T.getD k 0 ∧ T.getD k 0 < 128
set_option maxRecDepth 20000 in
set_option maxHeartbeats 1000000 in
theorem c_J0_coder_o {G : xG} {h : xH} (hGS : GS G) {s q : Nat} {T : List Int} {g : Nat → Int32} (hS : STO G h s q T g) : CC G MJ0_coder_7d493 [.ref s] h (qI (0) h) := by
  have hS0 := hS
  obtain ⟨⟨ms, mq⟩, fs, fq, hl, hr, hb⟩ := hS
  have nsq : s ≠ q := ne_oi fs fq
  show RR G MJ0_coder_7d493 0 [(0, .ref s)] [] h (xm_R MJ0_coder_7d493).cells (xm_R MJ0_coder_7d493).slots (qI (0) h)
  refine r_gets hGS.1 kg_J0_38 dJ0_coder_7d493_0 ?_
  refine i_ifeq dJ0_coder_7d493_3 (tgt := 13) (by decide) ⟨by decide, by decide⟩ (fun c => absurd c (by decide)) (fun _ => ?_)
  refine r_aload_n dJ0_coder_7d493_6 0 rfl ?_
  refine r_get cl_J0 1 (by decide) kf_J0_15 dJ0_coder_7d493_7 ms fs rfl ?_
  refine r_goto dJ0_coder_7d493_10 (tgt := 14) (by decide) ?_
  refine r_ireturn rfl rfl dJ0_coder_7d493_14 ?_
  exact ⟨rfl, rfl⟩
set_option maxRecDepth 20000 in
set_option maxHeartbeats 1000000 in
theorem c_J0_isLatin1_o {G : xG} {h : xH} (hGS : GS G) {s q : Nat} {T : List Int} {g : Nat → Int32} (hS : STO G h s q T g) : CC G MJ0_isLatin1_aae02 [.ref s] h (qI (1) h) := by
  have hS0 := hS
  obtain ⟨⟨ms, mq⟩, fs, fq, hl, hr, hb⟩ := hS
  have nsq : s ≠ q := ne_oi fs fq
  show RR G MJ0_isLatin1_aae02 0 [(0, .ref s)] [] h (xm_R MJ0_isLatin1_aae02).cells (xm_R MJ0_isLatin1_aae02).slots (qI (1) h)
  refine r_gets hGS.1 kg_J0_38 dJ0_isLatin1_aae02_0 ?_
  refine i_ifeq dJ0_isLatin1_aae02_3 (tgt := 17) (by decide) ⟨by decide, by decide⟩ (fun c => absurd c (by decide)) (fun _ => ?_)
  refine r_aload_n dJ0_isLatin1_aae02_6 0 rfl ?_
  refine r_get cl_J0 1 (by decide) kf_J0_15 dJ0_isLatin1_aae02_7 ms fs rfl ?_
  refine i_ifne dJ0_isLatin1_aae02_10 (tgt := 17) (by decide) ⟨by decide, by decide⟩ (fun c => absurd c (by decide)) (fun _ => ?_)
  refine i_const (1) dJ0_isLatin1_aae02_13 ?_
  refine r_goto dJ0_isLatin1_aae02_14 (tgt := 18) (by decide) ?_
  refine r_ireturn rfl (b2_nar true) dJ0_isLatin1_aae02_18 ?_
  exact ⟨rfl, rfl⟩
set_option maxRecDepth 20000 in
set_option maxHeartbeats 1000000 in
theorem c_J0_length_o {G : xG} {h : xH} (hGS : GS G) {s q : Nat} {T : List Int} {g : Nat → Int32} (hS : STO G h s q T g) : CC G MJ0_length_8abf5 [.ref s] h (qI ((T.length : Int)) h) := by
  have hS0 := hS
  obtain ⟨⟨ms, mq⟩, fs, fq, hl, hr, hb⟩ := hS
  have nsq : s ≠ q := ne_oi fs fq
  show RR G MJ0_length_8abf5 0 [(0, .ref s)] [] h (xm_R MJ0_length_8abf5).cells (xm_R MJ0_length_8abf5).slots (qI ((T.length : Int)) h)
  refine r_aload_n dJ0_length_8abf5_0 0 rfl ?_
  refine r_get cl_J0 0 (by decide) kf_J0_9 dJ0_length_8abf5_1 ms fs rfl ?_
  refine r_alen (t := 2) (v := iI (T.length : Int)) rfl dJ0_length_8abf5_4 mq fq (iI_nat _).symm ?_
  refine r_aload_n dJ0_length_8abf5_5 0 rfl ?_
  refine p_callV (As := []) (b := s) (rest := [.int (iI ((T.length : Int)))]) (w := (some (.int (iI 0)))) (st' := [.int (iI 0), .int (iI ((T.length : Int)))]) kv_J0_length_8abf5_335 dJ0_length_8abf5_6 rfl rfl (Nat.le_of_ble_eq_true rfl) (Nat.le_of_ble_eq_true rfl) (x_rv ms fs rfl) rfl rfl (c_J0_coder_o hGS hS0) rfl (fun hk1 e9k1 => ?_)
  rw [show hk1 = h from e9k1]
  refine r_ishr dJ0_length_8abf5_9 ?_
  rw [shr0]
  refine r_ireturn rfl rfl dJ0_length_8abf5_10 ?_
  exact ⟨rfl, rfl⟩
set_option maxRecDepth 20000 in
set_option maxHeartbeats 1000000 in
theorem c_J1_charAt_o {G : xG} {h : xH} (hGS : GS G) {s q : Nat} {T : List Int} {g : Nat → Int32} (hS : STO G h s q T g) {i : Nat} (hi : i < T.length) : CC G MJ1_charAt_3b067 [.ref q, .int (iI ((i : Int)))] h (qI (T.getD i 0) h) := by
  have hS0 := hS
  obtain ⟨⟨ms, mq⟩, fs, fq, hl, hr, hb⟩ := hS
  have nsq : s ≠ q := ne_oi fs fq
  show RR G MJ1_charAt_3b067 0 [(0, .ref q), (1, .int (iI ((i : Int))))] [] h (xm_R MJ1_charAt_3b067).cells (xm_R MJ1_charAt_3b067).slots (qI (T.getD i 0) h)
  refine r_iload_n dJ1_charAt_3b067_0 1 rfl ?_
  refine r_aload_n dJ1_charAt_3b067_1 0 rfl ?_
  refine r_alen (t := 2) (v := iI (T.length : Int)) rfl dJ1_charAt_3b067_2 mq fq (iI_nat _).symm ?_
  refine p_callS (As := [.int (iI ((i : Int))), .int (iI ((T.length : Int)))]) (rest := []) (w := none) (st' := []) kv_J1_charAt_3b067_9 dJ1_charAt_3b067_3 rfl rfl (Nat.le_of_ble_eq_true rfl) (Nat.le_of_ble_eq_true rfl) rfl rfl (c_J0_checkIndex_df160 hGS (by omega) (by omega)) rfl (fun hk1 e9k1 => ?_)
  rw [show hk1 = h from e9k1]
  refine r_aload_n dJ1_charAt_3b067_6 0 rfl ?_
  refine r_iload_n dJ1_charAt_3b067_7 1 rfl ?_
  refine i_bald i rfl dJ1_charAt_3b067_8 mq fq (by omega) (by omega) (hr i (by omega)) ?_
  refine i_sipush (255) (by decide) dJ1_charAt_3b067_9 ?_
  refine r_iand dJ1_charAt_3b067_12 ?_
  rw [and255 (hb i hi)]
  refine i_i2c dJ1_charAt_3b067_13 (hb i hi) ?_
  refine r_ireturn rfl (ch_nar (hb i hi)) dJ1_charAt_3b067_14 ?_
  exact ⟨rfl, rfl⟩
set_option maxRecDepth 20000 in
set_option maxHeartbeats 1000000 in
theorem c_J0_charAt_o {G : xG} {h : xH} (hGS : GS G) {s q : Nat} {T : List Int} {g : Nat → Int32} (hS : STO G h s q T g) {i : Nat} (hi : i < T.length) : CC G MJ0_charAt_5068e [.ref s, .int (iI ((i : Int)))] h (qI (T.getD i 0) h) := by
  have hS0 := hS
  obtain ⟨⟨ms, mq⟩, fs, fq, hl, hr, hb⟩ := hS
  have nsq : s ≠ q := ne_oi fs fq
  show RR G MJ0_charAt_5068e 0 [(0, .ref s), (1, .int (iI ((i : Int))))] [] h (xm_R MJ0_charAt_5068e).cells (xm_R MJ0_charAt_5068e).slots (qI (T.getD i 0) h)
  refine r_aload_n dJ0_charAt_5068e_0 0 rfl ?_
  refine p_callV (As := []) (b := s) (rest := []) (w := (some (.int (iI 1)))) (st' := [.int (iI 1)]) kv_J0_charAt_5068e_492 dJ0_charAt_5068e_1 rfl rfl (Nat.le_of_ble_eq_true rfl) (Nat.le_of_ble_eq_true rfl) (x_rv ms fs rfl) rfl rfl (c_J0_isLatin1_o hGS hS0) rfl (fun hk1 e9k1 => ?_)
  rw [show hk1 = h from e9k1]
  refine i_ifeq dJ0_charAt_5068e_4 (tgt := 16) (by decide) ⟨by decide, by decide⟩ (fun c => absurd c (by decide)) (fun _ => ?_)
  refine r_aload_n dJ0_charAt_5068e_7 0 rfl ?_
  refine r_get cl_J0 0 (by decide) kf_J0_9 dJ0_charAt_5068e_8 ms fs rfl ?_
  refine r_iload_n dJ0_charAt_5068e_11 1 rfl ?_
  refine p_callS (As := [.ref q, .int (iI ((i : Int)))]) (rest := []) (w := (some (.int (iI (T.getD i 0))))) (st' := [.int (iI (T.getD i 0))]) kv_J0_charAt_5068e_495 dJ0_charAt_5068e_12 rfl rfl (Nat.le_of_ble_eq_true rfl) (Nat.le_of_ble_eq_true rfl) rfl rfl (c_J1_charAt_o hGS hS0 hi) rfl (fun hk2 e9k2 => ?_)
  rw [show hk2 = h from e9k2]
  refine r_ireturn rfl (ch_nar (hb i hi)) dJ0_charAt_5068e_15 ?_
  exact ⟨rfl, rfl⟩
