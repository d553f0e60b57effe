/-! ===== the law's own methods: numbers, the script's words, rows that are alike ===== -/
section LCALL
variable {G : xG} {M : xM} {h : xH} {pc : Nat} {ls : List (Nat × Value)} {st : List Value} {kc ks : Nat} {Q : xR → xH → Prop}
theorem r_slen {b L : Nat} {zs : Nat → Int} (hX : x_zz G (fun _ U H => va_X b L (fun j => iI (zs j)) U H)) (hb : b < G.2.2.2) (hd : decode M.2.1 pc = .ok (.arraylength, 1)) (k : RR G M (pc + 1) ls (.int (iI (L : Int)) :: st) h kc ks Q) : RR G M pc ls (.ref b :: st) h kc ks Q := rr_of k fun _ _ _ _ s _ _ _ _ _ _ _ _ _ _ _ E S w => by
  exact va_slen E.1.1 E.1.2.1 (hX s E.2.2.2.2.2.2.2.2.2.1) (Nat.lt_of_lt_of_le hb E.2.2.2.2.2.2.2.1) (Nat.not_le.mpr hb) S.2.2.1 hd (by rw [← Int32.ofInt_eq_ofNat]; exact w)
theorem r_sld {b L : Nat} {zs : Nat → Int} {e : Int} (hX : x_zz G (fun _ U H => va_X b L (fun j => iI (zs j)) U H)) (hb : b < G.2.2.2) (j : Nat) (he : e = (j : Int)) (hj : j < L) (hL : L < 2 ^ 31) (hd : decode M.2.1 pc = .ok (.iaload, 1)) (k : RR G M (pc + 1) ls (.int (iI (zs j)) :: st) h kc ks Q) : RR G M pc ls (.int (iI e) :: .ref b :: st) h kc ks Q := rr_of k fun _ _ _ _ s _ _ _ _ _ _ _ _ _ _ _ E S w => by
  obtain ⟨h1, h2⟩ := x_in (i := iI e) (by rw [he, iI_nat]) hj hL
  exact va_sld E.1.1 E.1.2.1 (hX s E.2.2.2.2.2.2.2.2.2.1) (Nat.lt_of_lt_of_le hb E.2.2.2.2.2.2.2.1) (Nat.not_le.mpr hb) S.2.2.1 h1 hd (by rw [h2]; exact w)
end LCALL
theorem xb_rv {G : xG} {h : xH} {K : xK} {x : Nat} {a : XA} {S : XS} (hX : XB G h K x a S) : x_RV G h RX11 x := x_rv hX.1 hX.2.1 rfl
theorem XB.fr {G : xG} {h h' : xH} {K : xK} {x : Nat} {a : XA} {S : XS} {fp : List Nat} (hX : XB G h K x a S) (hF : FRp fp h h') (hd : ∀ q ∈ fpX x a, q ∉ fp) : XB G h' K x a S := by
  obtain ⟨mx, fx, hI, ⟨I0, T0, t, num, hP⟩, ⟨cs, hS⟩, hB, ⟨B1, hB1⟩, ⟨B2, hB2, e2⟩, hH, hU, hD⟩ := hX
  have n : ∀ c, c < 9 → ∀ q ∈ (grp x a).getD c [], q ∉ fp := fun c hc q hq => hd q (jn_m (by simp; omega) hq)
  exact ⟨by rw [hF.1]; exact mx, (hF.2 x (n 0 (by decide) x (by simp [grp]))).trans fx, hI.fr hF (n 1 (by decide) _ (by simp [grp])), ⟨I0, T0, t, num, hP.fr hF (n 2 (by decide) _ (by simp [grp])) (n 2 (by decide) _ (by simp [grp]))⟩, ⟨cs, hS.fr hF (n 3 (by decide) _ (by simp [grp])) (n 3 (by decide) _ (by simp [grp])) (n 3 (by decide) _ (by simp [grp])) (n 3 (by decide) _ (by simp [grp]))⟩, hB.fr hF (n 4 (by decide)), ⟨B1, hB1.fr hF (n 5 (by decide))⟩, ⟨B2, hB2.fr hF (n 6 (by decide)), e2⟩, hH.fr hF (n 7 (by decide)), hU.fr hF (n 8 (by decide) _ (by simp [grp])) (n 8 (by decide) _ (by simp [grp])), hD⟩
theorem XB.gr {G : xG} {h h' : xH} {K : xK} {x : Nat} {a : XA} {S : XS} {fp : List Nat} (hX : XB G h K x a S) (hF : GRp fp h h') (hd : ∀ q ∈ fpX x a, q ∉ fp) : XB G h' K x a S := by
  obtain ⟨mx, fx, hI, ⟨I0, T0, t, num, hP⟩, ⟨cs, hS⟩, hB, ⟨B1, hB1⟩, ⟨B2, hB2, e2⟩, hH, hU, hD⟩ := hX
  have n : ∀ c, c < 9 → ∀ q ∈ (grp x a).getD c [], q ∉ fp := fun c hc q hq => hd q (jn_m (by simp; omega) hq)
  exact ⟨hF.1 _ mx, (hF.2 x mx (n 0 (by decide) x (by simp [grp]))).trans fx, hI.gr hF (n 1 (by decide) _ (by simp [grp])), ⟨I0, T0, t, num, hP.gr hF (n 2 (by decide) _ (by simp [grp])) (n 2 (by decide) _ (by simp [grp]))⟩, ⟨cs, hS.gr hF (n 3 (by decide) _ (by simp [grp])) (n 3 (by decide) _ (by simp [grp])) (n 3 (by decide) _ (by simp [grp])) (n 3 (by decide) _ (by simp [grp]))⟩, hB.gr hF (n 4 (by decide)), ⟨B1, hB1.gr hF (n 5 (by decide))⟩, ⟨B2, hB2.gr hF (n 6 (by decide)), e2⟩, hH.gr hF (n 7 (by decide)), hU.gr hF (n 8 (by decide) _ (by simp [grp])) (n 8 (by decide) _ (by simp [grp])), hD⟩
theorem XB.len {G : xG} {h : xH} {K : xK} {x : Nat} {a : XA} {S : XS} (hX : XB G h K x a S) : S.2.2.1.2.length ≤ 6 ∧ ∀ s ∈ S.2.2.1.2, s.1.length ≤ 200 := by
  obtain ⟨-, -, -, -, -, ⟨g, bs, F, -, -, -, h6, hF, hS, -⟩, -⟩ := hX
  refine ⟨h6, fun s hs => ?_⟩
  obtain ⟨i, hi, rfl⟩ := List.getElem_of_mem hs
  obtain ⟨gt, gb, -, -, -, -, -, hl, -⟩ := (hS i (by omega)).2
  rw [hF i hi, getD_eqS hi] at hl
  exact hl
/-- a word of the script -/
def cel (zs : Nat → Int) (L k : Nat) : Int := if k < L then zs k else 37 * (k : Int)
/-- the text that went into the input so far; what waits in the row w -/
def inpU (U : List Int) : List Int := U.take (20 * (U.length / 20))
def resU (U : List Int) : List Int := U.drop (20 * (U.length / 20))
def WAR (G : xG) (h : xH) (w : Nat) (U : List Int) : Prop := ∃ g : Nat → Int32, w ∈ h.1 ∧ h.2 w = .inl (G.2.1 0, 6, .inl g) ∧ g 5 = iI (U.length : Int) ∧ ∀ j, j < 5 → g j = iI ((pkN (resU U) j : Nat) : Int)
theorem resU_len (U : List Int) : (resU U).length = U.length % 20 := by unfold resU; rw [List.length_drop]; omega
theorem resU_s {U : List Int} {z : Int} (h : (U.length + 1) % 20 ≠ 0) : resU (U ++ [z]) = resU U ++ [z] ∧ inpU (U ++ [z]) = inpU U := by
  have e : (U ++ [z]).length / 20 = U.length / 20 := by rw [List.length_append]; show (U.length + 1) / 20 = _; omega
  unfold resU inpU
  rw [e, List.drop_append_of_le_length (by omega), List.take_append_of_le_length (by omega)]
  exact ⟨rfl, rfl⟩
theorem resU_f {U : List Int} {z : Int} (h : (U.length + 1) % 20 = 0) : resU (U ++ [z]) = [] ∧ inpU (U ++ [z]) = inpU U ++ (resU U ++ [z]) ∧ (resU U ++ [z]).length = 20 := by
  have e : (U ++ [z]).length = U.length + 1 := by rw [List.length_append]; rfl
  have e1 : 20 * ((U ++ [z]).length / 20) = (U ++ [z]).length := by rw [e]; omega
  refine ⟨?_, ?_, by rw [List.length_append, resU_len]; show _ + 1 = _; omega⟩
  · unfold resU; rw [e1]; exact List.drop_length
  · unfold inpU resU
    rw [e1, List.take_length, ← List.append_assoc, List.take_append_drop]
theorem B7.drop {l : List Int} (h : B7 l) (n : Nat) : B7 (l.drop n) := fun i => by
  have e : (l.drop n).getD i 0 = l.getD (n + i) 0 := by rw [List.getD_eq_getElem?_getD, List.getElem?_drop, List.getD_eq_getElem?_getD]
  rw [e]; exact h _
theorem B7.app {l : List Int} (h : B7 l) {z : Int} (hz : 0 ≤ z ∧ z < 128) : B7 (l ++ [z]) := fun i => by
  rw [getD_app1]
  split
  · exact h i
  · split
    · exact hz
    · omega
theorem WAR.fr {G : xG} {h h' : xH} {w : Nat} {U : List Int} {fp : List Nat} (hw : WAR G h w U) (hF : FRp fp h h') (n : w ∉ fp) : WAR G h' w U := by
  obtain ⟨g, m, f, r⟩ := hw
  exact ⟨g, by rw [hF.1]; exact m, (hF.2 w n).trans f, r⟩
theorem fcmp_self {a : UInt32} (h : vf_n32 a) : FP.fcmp a a = some .eq := by
  have hn := dec32_nn h
  show Jvm.FP.Core.order (Jvm.FP.Core.decode Jvm.FP.Core.b32 a.toNat) (Jvm.FP.Core.decode Jvm.FP.Core.b32 a.toNat) = some .eq
  revert hn
  cases Jvm.FP.Core.decode Jvm.FP.Core.b32 a.toNat with
  | nan => exact fun z => absurd rfl z
  | inf s => exact fun _ => congrArg some (cmp_self _)
  | fin s c q => exact fun _ => congrArg some (cmp_self _)
set_option maxRecDepth 20000 in
set_option maxHeartbeats 1000000 in
theorem c_L_most {G : xG} {h : xH} {x : Int32} {m : Int} (hm : 1 ≤ m ∧ m ≤ 1000) : CC G ML_most [.int x, .int (iI m)] h (qI (mst x m) h) := by
  have hmb := msk_b x
  show RR G ML_most 0 [(0, .int x), (1, .int (iI m))] [] h (xm_R ML_most).cells (xm_R ML_most).slots (qI (mst x m) h)
  refine r_iload_n dL_most_0 0 rfl ?_
  refine i_ldc (2147483647) (by decide) kk_L_7 dL_most_1 ?_
  refine r_iand dL_most_3 ?_
  rw [show x &&& iI 2147483647 = iI (msk x) from (iI_of _).symm]
  refine r_iload_n dL_most_4 1 rfl ?_
  refine i_rem dL_most_5 (by unfold in32; omega) (by unfold in32; omega) (by omega) (by omega) ?_
  refine r_ireturn rfl rfl dL_most_6 ?_
  exact ⟨rfl, rfl⟩
set_option maxRecDepth 20000 in
set_option maxHeartbeats 1000000 in
theorem c_L_cell {G : xG} {h : xH} {b L : Nat} {zs : Nat → Int} (hS : x_zz G (fun _ U H => va_X b L (fun j => iI (zs j)) U H)) (hb : b < G.2.2.2) (hL : L ≤ 260) {k : Nat} (hk : k ≤ 300) : CC G ML_cell [.ref b, .int (iI ((k : Int)))] h (qI (cel zs L k) h) := by
  show RR G ML_cell 0 [(0, .ref b), (1, .int (iI ((k : Int))))] [] h (xm_R ML_cell).cells (xm_R ML_cell).slots (qI (cel zs L k) h)
  refine r_iload_n dL_cell_0 1 rfl ?_
  refine r_aload_n dL_cell_1 0 rfl ?_
  refine r_slen hS hb dL_cell_2 ?_
  refine i_icmpge dL_cell_3 (tgt := 12) (by decide) (by unfold in32; omega) (by unfold in32; omega) (fun c3 => ?_) (fun c3 => ?_)
  · refine i_bipush (37) (by decide) dL_cell_12 ?_
    refine r_iload_n dL_cell_14 1 rfl ?_
    refine i_mul dL_cell_15 ?_
    refine r_ireturn rfl rfl dL_cell_16 ?_
    refine ⟨?_, rfl⟩
    unfold cel
    rw [if_neg (by omega)]
  · refine r_aload_n dL_cell_6 0 rfl ?_
    refine r_iload_n dL_cell_7 1 rfl ?_
    refine r_sld hS hb k rfl (by omega) (by omega) dL_cell_8 ?_
    refine r_goto dL_cell_9 (tgt := 16) (by decide) ?_
    refine r_ireturn rfl rfl dL_cell_16 ?_
    refine ⟨?_, rfl⟩
    unfold cel
    rw [if_pos (by omega)]
set_option maxRecDepth 20000 in
set_option maxHeartbeats 1000000 in
theorem c_L_alike {G : xG} {h : xH} {x y n : Nat} {f g : Nat → Int32} (mx : x ∈ h.1) (fx : h.2 x = .inl (G.2.1 0, n, .inl f)) (my : y ∈ h.1) (fy : h.2 y = .inl (G.2.1 0, n, .inl g)) (hn : n < 100000) (hfg : ∀ k, k < n → f k = g k) : CC G ML_alike [.ref x, .ref y] h (qI (1) h) := by
  have L : ∀ i, i ≤ n → RR G ML_alike 11 [(0, .ref x), (1, .ref y), (2, .int (iI ((i : Int))))] [] h (xm_R ML_alike).cells (xm_R ML_alike).slots (qI (1) h) := by
    refine down (fun i hi ih => ?_)
    refine r_iload_n dL_alike_11 2 rfl ?_
    refine r_aload_n dL_alike_12 0 rfl ?_
    refine r_alen (t := 0) (v := iI (n : Int)) rfl dL_alike_13 mx fx (iI_nat _).symm ?_
    refine i_icmpge dL_alike_14 (tgt := 34) (by decide) (by unfold in32; omega) (by unfold in32; omega) (fun c14 => ?_) (fun c14 => ?_)
    · refine i_const (1) dL_alike_34 ?_
      refine r_ireturn rfl (b2_nar true) dL_alike_35 ?_
      exact ⟨rfl, rfl⟩
    · refine r_aload_n dL_alike_17 0 rfl ?_
      refine r_iload_n dL_alike_18 2 rfl ?_
      refine i_iald i rfl dL_alike_19 mx fx (by omega) (by omega) rfl ?_
      refine r_aload_n dL_alike_20 1 rfl ?_
      refine r_iload_n dL_alike_21 2 rfl ?_
      refine i_iald i rfl dL_alike_22 my fy (by omega) (by omega) rfl ?_
      refine r_icmpeq dL_alike_23 (tgt := 28) (by decide) (fun _ => ?_) (fun c => absurd (hfg i (by omega)) c)
      refine i_iinc (ls' := [(0, .ref x), (1, .ref y), (2, .int (iI ((i : Int) + 1)))]) (1) (v := (i : Int) + 1) dL_alike_28 2 rfl (by omega) (by decide) rfl ?_
      refine r_goto dL_alike_31 (tgt := 11) (by decide) ?_
      exact ih (i + 1) (by omega) (by omega)
  show RR G ML_alike 0 [(0, .ref x), (1, .ref y)] [] h (xm_R ML_alike).cells (xm_R ML_alike).slots (qI (1) h)
  refine r_aload_n dL_alike_0 0 rfl ?_
  refine r_alen (t := 0) (v := iI (n : Int)) rfl dL_alike_1 mx fx (iI_nat _).symm ?_
  refine r_aload_n dL_alike_2 1 rfl ?_
  refine r_alen (t := 0) (v := iI (n : Int)) rfl dL_alike_3 my fy (iI_nat _).symm ?_
  refine i_icmpeq dL_alike_4 (tgt := 9) (by decide) (by unfold in32; omega) (by unfold in32; omega) (fun _ => ?_) (fun c => absurd rfl c)
  refine i_const (0) dL_alike_9 ?_
  refine r_istore_n (ls' := [(0, .ref x), (1, .ref y), (2, .int (iI 0))]) dL_alike_10 (by decide) rfl ?_
  exact L 0 (by omega)
