theorem w4_b {v : Int32} {x : Int} (h : x ∈ words4 v) : 0 ≤ x ∧ x ≤ 255 := by
  unfold words4 at h
  rcases List.mem_cons.mp h with rfl | h
  · exact byA_b _ _
  rcases List.mem_cons.mp h with rfl | h
  · exact byA_b _ _
  rcases List.mem_cons.mp h with rfl | h
  · exact byA_b _ _
  rw [List.mem_singleton.mp h]
  exact byA_b _ _
/-! ===== the reference: text that is appended ===== -/
theorem sh_bits (b : BitVec 32) (n : Nat) (hn : n ≤ 24) : (b.sshiftRight n) &&& 255#32 = (b >>> n) &&& 255#32 := by
  apply BitVec.eq_of_getLsbD_eq
  intro i hi
  rw [BitVec.getLsbD_and, BitVec.getLsbD_and, BitVec.getLsbD_sshiftRight, BitVec.getLsbD_ushiftRight]
  by_cases c : i < 8
  · rw [if_pos (show n + i < 32 by omega), decide_eq_false (show ¬ 32 ≤ i by omega)]
    rfl
  · rw [(by decide : ∀ i, i < 32 → 8 ≤ i → (255#32).getLsbD i = false) i hi (by omega), Bool.and_false, Bool.and_false]
theorem sh_eq (w : Int32) {n : Nat} (hn : n = 24 ∨ n = 16 ∨ n = 8 ∨ n = 0) : ((w) >>> ((iI (n : Int)) &&& 31)) &&& (iI 255) = iI (byA w (n : Int)) := by
  rw [← byA_i]
  apply Int32.toBitVec_inj.1
  rw [Int32.toBitVec_and, Int32.toBitVec_and]
  have e0 : (iI 255).toBitVec = 255#32 := by decide +kernel
  rcases hn with rfl | rfl | rfl | rfl
  · have e1 : ((iI ((24 : Nat) : Int) &&& 31 : Int32).toBitVec.smod 32#32).toNat = 24 := by decide +kernel
    have e2 : (((iI ((24 : Nat) : Int)).toUInt32 &&& Int32.toUInt32 31) % 32).toBitVec.toNat = 24 := by decide +kernel
    have z := sh_bits w.toBitVec 24 (by decide)
    show (w.toBitVec.sshiftRight (((iI ((24 : Nat) : Int) &&& 31 : Int32).toBitVec.smod 32#32).toNat)) &&& (iI 255).toBitVec = (w.toBitVec >>> ((((iI ((24 : Nat) : Int)).toUInt32 &&& Int32.toUInt32 31) % 32).toBitVec.toNat)) &&& (iI 255).toBitVec
    rw [e1, e2, e0]
    exact z
  · have e1 : ((iI ((16 : Nat) : Int) &&& 31 : Int32).toBitVec.smod 32#32).toNat = 16 := by decide +kernel
    have e2 : (((iI ((16 : Nat) : Int)).toUInt32 &&& Int32.toUInt32 31) % 32).toBitVec.toNat = 16 := by decide +kernel
    have z := sh_bits w.toBitVec 16 (by decide)
    show (w.toBitVec.sshiftRight (((iI ((16 : Nat) : Int) &&& 31 : Int32).toBitVec.smod 32#32).toNat)) &&& (iI 255).toBitVec = (w.toBitVec >>> ((((iI ((16 : Nat) : Int)).toUInt32 &&& Int32.toUInt32 31) % 32).toBitVec.toNat)) &&& (iI 255).toBitVec
    rw [e1, e2, e0]
    exact z
  · have e1 : ((iI ((8 : Nat) : Int) &&& 31 : Int32).toBitVec.smod 32#32).toNat = 8 := by decide +kernel
    have e2 : (((iI ((8 : Nat) : Int)).toUInt32 &&& Int32.toUInt32 31) % 32).toBitVec.toNat = 8 := by decide +kernel
    have z := sh_bits w.toBitVec 8 (by decide)
    show (w.toBitVec.sshiftRight (((iI ((8 : Nat) : Int) &&& 31 : Int32).toBitVec.smod 32#32).toNat)) &&& (iI 255).toBitVec = (w.toBitVec >>> ((((iI ((8 : Nat) : Int)).toUInt32 &&& Int32.toUInt32 31) % 32).toBitVec.toNat)) &&& (iI 255).toBitVec
    rw [e1, e2, e0]
    exact z
  · have e1 : ((iI ((0 : Nat) : Int) &&& 31 : Int32).toBitVec.smod 32#32).toNat = 0 := by decide +kernel
    have e2 : (((iI ((0 : Nat) : Int)).toUInt32 &&& Int32.toUInt32 31) % 32).toBitVec.toNat = 0 := by decide +kernel
    have z := sh_bits w.toBitVec 0 (by decide)
    show (w.toBitVec.sshiftRight (((iI ((0 : Nat) : Int) &&& 31 : Int32).toBitVec.smod 32#32).toNat)) &&& (iI 255).toBitVec = (w.toBitVec >>> ((((iI ((0 : Nat) : Int)).toUInt32 &&& Int32.toUInt32 31) % 32).toBitVec.toNat)) &&& (iI 255).toBitVec
    rw [e1, e2, e0]
    exact z
def w20 (v1 v2 v3 v4 v5 : Int32) : List Int := words4 v1 ++ (words4 v2 ++ (words4 v3 ++ (words4 v4 ++ words4 v5)))
theorem w20_len {v1 v2 v3 v4 v5 : Int32} : (w20 v1 v2 v3 v4 v5).length = 20 := rfl
theorem w20_b {v1 v2 v3 v4 v5 : Int32} {k : Nat} (hk : k < 20) : 0 ≤ (w20 v1 v2 v3 v4 v5).getD k 0 ∧ (w20 v1 v2 v3 v4 v5).getD k 0 ≤ 255 := by
  have h : ∀ x ∈ (w20 v1 v2 v3 v4 v5), 0 ≤ x ∧ x ≤ 255 := by
    intro x hx
    rcases List.mem_append.mp hx with z | z
    · exact w4_b z
    rcases List.mem_append.mp z with z | z
    · exact w4_b z
    rcases List.mem_append.mp z with z | z
    · exact w4_b z
    rcases List.mem_append.mp z with z | z
    · exact w4_b z
    · exact w4_b z
  have hk2 : k < (w20 v1 v2 v3 v4 v5).length := by rw [w20_len]; exact hk
  have e : (w20 v1 v2 v3 v4 v5).getD k 0 = (w20 v1 v2 v3 v4 v5)[k] := by simp [hk2]
  rw [e]
  exact h _ (List.getElem_mem hk2)
theorem sh_k (w : Int32) {k i : Nat} (hi : i < 4) (hk : (k : Int) % 4 = (i : Int)) : ((w) >>> ((iI (24 - (8 * ((k : Int) % 4)))) &&& 31)) &&& (iI 255) = iI (byA w (24 - 8 * (i : Int))) := by
  rw [hk]
  rcases (show i = 0 ∨ i = 1 ∨ i = 2 ∨ i = 3 by omega) with rfl | rfl | rfl | rfl
  · exact sh_eq w (n := 24) (by simp)
  · exact sh_eq w (n := 16) (by simp)
  · exact sh_eq w (n := 8) (by simp)
  · exact sh_eq w (n := 0) (by simp)
theorem r_bl_bl (r : MR) (v w : Int) : r_bl (r_bl r v) w = r_bl r w := rfl
theorem r_bl_self (r : MR) : r_bl r r.2.2.2.2.2.2.2.2.2.2.1 = r := rfl
set_option maxRecDepth 20000 in
set_option maxHeartbeats 1000000 in
theorem c_X12_appendText_ok {G : xG} {h : xH} {m : Nat} {a : MA} {r : MR} (hM : MO G h m a r) {gi : Nat → Int32} (hA : AR G h a.2.2.2.2.2.2.1 500 gi) {n : Nat} (hbl : r.2.2.2.2.2.2.2.2.2.2.1 = (n : Int)) {v1 v2 v3 v4 v5 : Int32} (hn : n ≤ 480) : CC G MX12_appendText [.ref m, .int v1, .int v2, .int v3, .int v4, .int v5] h (fun o9 h' => o9 = .inl (some (.int (iI ((n + 20 : Nat) : Int)))) ∧ MO G h' m a (r_bl (r_th r 0) ((n + 20 : Nat) : Int)) ∧ (∃ g', AR G h' a.2.2.2.2.2.2.1 500 g' ∧ (∀ k, k < n → g' k = gi k) ∧ (∀ k, k < 20 → g' (n + k) = iI ((w20 v1 v2 v3 v4 v5).getD k 0))) ∧ FRp [m, a.2.2.2.2.2.2.1] h h') := by
  have L : ∀ k, k ≤ 20 → ∀ (h1 : xH) (g1 : Nat → Int32), MO G h1 m a (r_bl (r_th r 0) ((n + k : Nat) : Int)) → AR G h1 a.2.2.2.2.2.2.1 500 g1 → (∀ i, i < n → g1 i = gi i) → (∀ i, i < k → g1 (n + i) = iI ((w20 v1 v2 v3 v4 v5).getD i 0)) → FRp [m, a.2.2.2.2.2.2.1] h h1 → RR G MX12_appendText 23 [(0, .ref m), (1, .int v1), (2, .int v2), (3, .int v3), (4, .int v4), (5, .int v5), (6, .int (iI ((k : Int))))] [] h1 (xm_R MX12_appendText).cells (xm_R MX12_appendText).slots (fun o9 h' => o9 = .inl (some (.int (iI ((n + 20 : Nat) : Int)))) ∧ MO G h' m a (r_bl (r_th r 0) ((n + 20 : Nat) : Int)) ∧ (∃ g', AR G h' a.2.2.2.2.2.2.1 500 g' ∧ (∀ k, k < n → g' k = gi k) ∧ (∀ k, k < 20 → g' (n + k) = iI ((w20 v1 v2 v3 v4 v5).getD k 0))) ∧ FRp [m, a.2.2.2.2.2.2.1] h h') := by
    refine down (fun k hk ih => ?_)
    intro h1 g1 hM1 hA1 hlo1 hhi1 hF1
    refine r_iload dX12_appendText_23 6 rfl ?_
    refine i_bipush (20) (by decide) dX12_appendText_25 ?_
    refine i_icmpge dX12_appendText_27 (tgt := 120) (by decide) (by unfold in32; omega) ⟨by decide, by decide⟩ (fun c27 => ?_) (fun c27 => ?_)
    · refine r_aload_n dX12_appendText_120 0 rfl ?_
      refine m_g_bl (v := ((n + k : Nat) : Int)) hM1 rfl kf_X12_279 dX12_appendText_121 ?_
      refine r_ireturn rfl rfl dX12_appendText_124 ?_
      have hk20 : k = 20 := by omega
      subst hk20
      exact ⟨rfl, hM1, ⟨g1, hA1, hlo1, hhi1⟩, hF1⟩
    · refine r_iload dX12_appendText_30 6 rfl ?_
      refine i_const (4) dX12_appendText_32 ?_
      refine i_icmpge dX12_appendText_33 (tgt := 40) (by decide) (by unfold in32; omega) ⟨by decide, by decide⟩ (fun c33 => ?_) (fun c33 => ?_)
      · refine r_iload dX12_appendText_40 6 rfl ?_
        refine i_bipush (8) (by decide) dX12_appendText_42 ?_
        refine i_icmpge dX12_appendText_44 (tgt := 51) (by decide) (by unfold in32; omega) ⟨by decide, by decide⟩ (fun c44 => ?_) (fun c44 => ?_)
        · refine r_iload dX12_appendText_51 6 rfl ?_
          refine i_bipush (12) (by decide) dX12_appendText_53 ?_
          refine i_icmpge dX12_appendText_55 (tgt := 62) (by decide) (by unfold in32; omega) ⟨by decide, by decide⟩ (fun c55 => ?_) (fun c55 => ?_)
          · refine r_iload dX12_appendText_62 6 rfl ?_
            refine i_bipush (16) (by decide) dX12_appendText_64 ?_
            refine i_icmpge dX12_appendText_66 (tgt := 74) (by decide) (by unfold in32; omega) ⟨by decide, by decide⟩ (fun c66 => ?_) (fun c66 => ?_)
            · refine r_iload dX12_appendText_74 5 rfl ?_
              refine r_istore (ls' := [(0, .ref m), (1, .int v1), (2, .int v2), (3, .int v3), (4, .int v4), (5, .int v5), (6, .int (iI ((k : Int)))), (7, .int v5)]) dX12_appendText_76 (by decide) rfl ?_
              have hsh : ((v5) >>> ((iI (24 - (8 * ((k : Int) % 4)))) &&& 31)) &&& (iI 255) = iI ((w20 v1 v2 v3 v4 v5).getD k 0) := by
                rcases (show k = 16 ∨ k = 17 ∨ k = 18 ∨ k = 19 by omega) with e9 | e9 | e9 | e9
                · rw [sh_k v5 (i := 0) (by decide) (by omega), e9]; rfl
                · rw [sh_k v5 (i := 1) (by decide) (by omega), e9]; rfl
                · rw [sh_k v5 (i := 2) (by decide) (by omega), e9]; rfl
                · rw [sh_k v5 (i := 3) (by decide) (by omega), e9]; rfl
              refine r_aload_n dX12_appendText_78 0 rfl ?_
              refine m_g_bu (v := a.2.2.2.2.2.2.1) hM1 rfl kf_X12_31 dX12_appendText_79 ?_
              refine r_aload_n dX12_appendText_82 0 rfl ?_
              refine m_g_bl (v := ((n + k : Nat) : Int)) hM1 rfl kf_X12_279 dX12_appendText_83 ?_
              refine r_iload dX12_appendText_86 7 rfl ?_
              refine i_bipush (24) (by decide) dX12_appendText_88 ?_
              refine i_bipush (8) (by decide) dX12_appendText_90 ?_
              refine r_iload dX12_appendText_92 6 rfl ?_
              refine i_const (4) dX12_appendText_94 ?_
              refine i_rem dX12_appendText_95 (by unfold in32; omega) ⟨by decide, by decide⟩ (by omega) (by omega) ?_
              refine i_mul dX12_appendText_96 ?_
              refine i_sub dX12_appendText_97 ?_
              refine r_ishr dX12_appendText_98 ?_
              refine i_sipush (255) (by decide) dX12_appendText_99 ?_
              refine r_iand dX12_appendText_102 ?_
              rw [hsh]
              refine m_st (n + k) rfl hA1 dX12_appendText_103 (by omega) (by decide) (fun h11 hA11 F11 => ?_)
              have hM11 := hM1.row hA1 F11
              have FD11 : FRp [m, a.2.2.2.2.2.2.1] h h11 := hF1.tr (FRr F11)
              refine r_aload_n dX12_appendText_104 0 rfl ?_
              refine r_dup dX12_appendText_105 rfl ?_
              refine m_g_bl (v := ((n + k : Nat) : Int)) hM11 rfl kf_X12_279 dX12_appendText_106 ?_
              refine i_const (1) dX12_appendText_109 ?_
              refine i_add dX12_appendText_110 ?_
              refine m_p_bl (v := ((n + k : Nat) : Int) + 1) hM11 kf_X12_279 dX12_appendText_111 (fun h12 hM12 F12 => ?_)
              have hA11_12 := hA11.obj hM11 F12
              have FD12 : FRp [m, a.2.2.2.2.2.2.1] h h12 := FD11.tr (FRm F12)
              refine i_iinc (ls' := [(0, .ref m), (1, .int v1), (2, .int v2), (3, .int v3), (4, .int v4), (5, .int v5), (6, .int (iI ((k : Int) + 1))), (7, .int v5)]) (1) (v := (k : Int) + 1) dX12_appendText_114 6 rfl (by omega) (by decide) rfl ?_
              refine r_goto dX12_appendText_117 (tgt := 23) (by decide) ?_
              rw [r_bl_bl] at hM12
              refine rr_take 7 rfl ?_
              exact ih (k + 1) (by omega) (by omega) h12 _ hM12 hA11_12 (fun i hi => (upd_n (by omega)).trans (hlo1 i hi)) (fun i hi => (Decidable.em (i = k)).elim (fun c => by rw [c]; exact upd_s) (fun c => (upd_n (by omega)).trans (hhi1 i (by omega)))) FD12
            · refine r_iload dX12_appendText_69 4 rfl ?_
              refine r_goto dX12_appendText_71 (tgt := 76) (by decide) ?_
              refine r_istore (ls' := [(0, .ref m), (1, .int v1), (2, .int v2), (3, .int v3), (4, .int v4), (5, .int v5), (6, .int (iI ((k : Int)))), (7, .int v4)]) dX12_appendText_76 (by decide) rfl ?_
              have hsh : ((v4) >>> ((iI (24 - (8 * ((k : Int) % 4)))) &&& 31)) &&& (iI 255) = iI ((w20 v1 v2 v3 v4 v5).getD k 0) := by
                rcases (show k = 12 ∨ k = 13 ∨ k = 14 ∨ k = 15 by omega) with e9 | e9 | e9 | e9
                · rw [sh_k v4 (i := 0) (by decide) (by omega), e9]; rfl
                · rw [sh_k v4 (i := 1) (by decide) (by omega), e9]; rfl
                · rw [sh_k v4 (i := 2) (by decide) (by omega), e9]; rfl
                · rw [sh_k v4 (i := 3) (by decide) (by omega), e9]; rfl
              refine r_aload_n dX12_appendText_78 0 rfl ?_
              refine m_g_bu (v := a.2.2.2.2.2.2.1) hM1 rfl kf_X12_31 dX12_appendText_79 ?_
              refine r_aload_n dX12_appendText_82 0 rfl ?_
              refine m_g_bl (v := ((n + k : Nat) : Int)) hM1 rfl kf_X12_279 dX12_appendText_83 ?_
              refine r_iload dX12_appendText_86 7 rfl ?_
              refine i_bipush (24) (by decide) dX12_appendText_88 ?_
              refine i_bipush (8) (by decide) dX12_appendText_90 ?_
              refine r_iload dX12_appendText_92 6 rfl ?_
              refine i_const (4) dX12_appendText_94 ?_
              refine i_rem dX12_appendText_95 (by unfold in32; omega) ⟨by decide, by decide⟩ (by omega) (by omega) ?_
              refine i_mul dX12_appendText_96 ?_
              refine i_sub dX12_appendText_97 ?_
              refine r_ishr dX12_appendText_98 ?_
              refine i_sipush (255) (by decide) dX12_appendText_99 ?_
              refine r_iand dX12_appendText_102 ?_
              rw [hsh]
              refine m_st (n + k) rfl hA1 dX12_appendText_103 (by omega) (by decide) (fun h13 hA13 F13 => ?_)
              have hM13 := hM1.row hA1 F13
              have FD13 : FRp [m, a.2.2.2.2.2.2.1] h h13 := hF1.tr (FRr F13)
              refine r_aload_n dX12_appendText_104 0 rfl ?_
              refine r_dup dX12_appendText_105 rfl ?_
              refine m_g_bl (v := ((n + k : Nat) : Int)) hM13 rfl kf_X12_279 dX12_appendText_106 ?_
              refine i_const (1) dX12_appendText_109 ?_
              refine i_add dX12_appendText_110 ?_
              refine m_p_bl (v := ((n + k : Nat) : Int) + 1) hM13 kf_X12_279 dX12_appendText_111 (fun h14 hM14 F14 => ?_)
              have hA13_14 := hA13.obj hM13 F14
              have FD14 : FRp [m, a.2.2.2.2.2.2.1] h h14 := FD13.tr (FRm F14)
              refine i_iinc (ls' := [(0, .ref m), (1, .int v1), (2, .int v2), (3, .int v3), (4, .int v4), (5, .int v5), (6, .int (iI ((k : Int) + 1))), (7, .int v4)]) (1) (v := (k : Int) + 1) dX12_appendText_114 6 rfl (by omega) (by decide) rfl ?_
              refine r_goto dX12_appendText_117 (tgt := 23) (by decide) ?_
              rw [r_bl_bl] at hM14
              refine rr_take 7 rfl ?_
              exact ih (k + 1) (by omega) (by omega) h14 _ hM14 hA13_14 (fun i hi => (upd_n (by omega)).trans (hlo1 i hi)) (fun i hi => (Decidable.em (i = k)).elim (fun c => by rw [c]; exact upd_s) (fun c => (upd_n (by omega)).trans (hhi1 i (by omega)))) FD14
          · refine r_iload_n dX12_appendText_58 3 rfl ?_
            refine r_goto dX12_appendText_59 (tgt := 76) (by decide) ?_
            refine r_istore (ls' := [(0, .ref m), (1, .int v1), (2, .int v2), (3, .int v3), (4, .int v4), (5, .int v5), (6, .int (iI ((k : Int)))), (7, .int v3)]) dX12_appendText_76 (by decide) rfl ?_
            have hsh : ((v3) >>> ((iI (24 - (8 * ((k : Int) % 4)))) &&& 31)) &&& (iI 255) = iI ((w20 v1 v2 v3 v4 v5).getD k 0) := by
              rcases (show k = 8 ∨ k = 9 ∨ k = 10 ∨ k = 11 by omega) with e9 | e9 | e9 | e9
              · rw [sh_k v3 (i := 0) (by decide) (by omega), e9]; rfl
              · rw [sh_k v3 (i := 1) (by decide) (by omega), e9]; rfl
              · rw [sh_k v3 (i := 2) (by decide) (by omega), e9]; rfl
              · rw [sh_k v3 (i := 3) (by decide) (by omega), e9]; rfl
            refine r_aload_n dX12_appendText_78 0 rfl ?_
            refine m_g_bu (v := a.2.2.2.2.2.2.1) hM1 rfl kf_X12_31 dX12_appendText_79 ?_
            refine r_aload_n dX12_appendText_82 0 rfl ?_
            refine m_g_bl (v := ((n + k : Nat) : Int)) hM1 rfl kf_X12_279 dX12_appendText_83 ?_
            refine r_iload dX12_appendText_86 7 rfl ?_
            refine i_bipush (24) (by decide) dX12_appendText_88 ?_
            refine i_bipush (8) (by decide) dX12_appendText_90 ?_
            refine r_iload dX12_appendText_92 6 rfl ?_
            refine i_const (4) dX12_appendText_94 ?_
            refine i_rem dX12_appendText_95 (by unfold in32; omega) ⟨by decide, by decide⟩ (by omega) (by omega) ?_
            refine i_mul dX12_appendText_96 ?_
            refine i_sub dX12_appendText_97 ?_
            refine r_ishr dX12_appendText_98 ?_
            refine i_sipush (255) (by decide) dX12_appendText_99 ?_
            refine r_iand dX12_appendText_102 ?_
            rw [hsh]
            refine m_st (n + k) rfl hA1 dX12_appendText_103 (by omega) (by decide) (fun h15 hA15 F15 => ?_)
            have hM15 := hM1.row hA1 F15
            have FD15 : FRp [m, a.2.2.2.2.2.2.1] h h15 := hF1.tr (FRr F15)
            refine r_aload_n dX12_appendText_104 0 rfl ?_
            refine r_dup dX12_appendText_105 rfl ?_
            refine m_g_bl (v := ((n + k : Nat) : Int)) hM15 rfl kf_X12_279 dX12_appendText_106 ?_
            refine i_const (1) dX12_appendText_109 ?_
            refine i_add dX12_appendText_110 ?_
            refine m_p_bl (v := ((n + k : Nat) : Int) + 1) hM15 kf_X12_279 dX12_appendText_111 (fun h16 hM16 F16 => ?_)
            have hA15_16 := hA15.obj hM15 F16
            have FD16 : FRp [m, a.2.2.2.2.2.2.1] h h16 := FD15.tr (FRm F16)
            refine i_iinc (ls' := [(0, .ref m), (1, .int v1), (2, .int v2), (3, .int v3), (4, .int v4), (5, .int v5), (6, .int (iI ((k : Int) + 1))), (7, .int v3)]) (1) (v := (k : Int) + 1) dX12_appendText_114 6 rfl (by omega) (by decide) rfl ?_
            refine r_goto dX12_appendText_117 (tgt := 23) (by decide) ?_
            rw [r_bl_bl] at hM16
            refine rr_take 7 rfl ?_
            exact ih (k + 1) (by omega) (by omega) h16 _ hM16 hA15_16 (fun i hi => (upd_n (by omega)).trans (hlo1 i hi)) (fun i hi => (Decidable.em (i = k)).elim (fun c => by rw [c]; exact upd_s) (fun c => (upd_n (by omega)).trans (hhi1 i (by omega)))) FD16
        · refine r_iload_n dX12_appendText_47 2 rfl ?_
          refine r_goto dX12_appendText_48 (tgt := 76) (by decide) ?_
          refine r_istore (ls' := [(0, .ref m), (1, .int v1), (2, .int v2), (3, .int v3), (4, .int v4), (5, .int v5), (6, .int (iI ((k : Int)))), (7, .int v2)]) dX12_appendText_76 (by decide) rfl ?_
          have hsh : ((v2) >>> ((iI (24 - (8 * ((k : Int) % 4)))) &&& 31)) &&& (iI 255) = iI ((w20 v1 v2 v3 v4 v5).getD k 0) := by
            rcases (show k = 4 ∨ k = 5 ∨ k = 6 ∨ k = 7 by omega) with e9 | e9 | e9 | e9
            · rw [sh_k v2 (i := 0) (by decide) (by omega), e9]; rfl
            · rw [sh_k v2 (i := 1) (by decide) (by omega), e9]; rfl
            · rw [sh_k v2 (i := 2) (by decide) (by omega), e9]; rfl
            · rw [sh_k v2 (i := 3) (by decide) (by omega), e9]; rfl
          refine r_aload_n dX12_appendText_78 0 rfl ?_
          refine m_g_bu (v := a.2.2.2.2.2.2.1) hM1 rfl kf_X12_31 dX12_appendText_79 ?_
          refine r_aload_n dX12_appendText_82 0 rfl ?_
          refine m_g_bl (v := ((n + k : Nat) : Int)) hM1 rfl kf_X12_279 dX12_appendText_83 ?_
          refine r_iload dX12_appendText_86 7 rfl ?_
          refine i_bipush (24) (by decide) dX12_appendText_88 ?_
          refine i_bipush (8) (by decide) dX12_appendText_90 ?_
          refine r_iload dX12_appendText_92 6 rfl ?_
          refine i_const (4) dX12_appendText_94 ?_
          refine i_rem dX12_appendText_95 (by unfold in32; omega) ⟨by decide, by decide⟩ (by omega) (by omega) ?_
          refine i_mul dX12_appendText_96 ?_
          refine i_sub dX12_appendText_97 ?_
          refine r_ishr dX12_appendText_98 ?_
          refine i_sipush (255) (by decide) dX12_appendText_99 ?_
          refine r_iand dX12_appendText_102 ?_
          rw [hsh]
          refine m_st (n + k) rfl hA1 dX12_appendText_103 (by omega) (by decide) (fun h17 hA17 F17 => ?_)
          have hM17 := hM1.row hA1 F17
          have FD17 : FRp [m, a.2.2.2.2.2.2.1] h h17 := hF1.tr (FRr F17)
          refine r_aload_n dX12_appendText_104 0 rfl ?_
          refine r_dup dX12_appendText_105 rfl ?_
          refine m_g_bl (v := ((n + k : Nat) : Int)) hM17 rfl kf_X12_279 dX12_appendText_106 ?_
          refine i_const (1) dX12_appendText_109 ?_
          refine i_add dX12_appendText_110 ?_
          refine m_p_bl (v := ((n + k : Nat) : Int) + 1) hM17 kf_X12_279 dX12_appendText_111 (fun h18 hM18 F18 => ?_)
          have hA17_18 := hA17.obj hM17 F18
          have FD18 : FRp [m, a.2.2.2.2.2.2.1] h h18 := FD17.tr (FRm F18)
          refine i_iinc (ls' := [(0, .ref m), (1, .int v1), (2, .int v2), (3, .int v3), (4, .int v4), (5, .int v5), (6, .int (iI ((k : Int) + 1))), (7, .int v2)]) (1) (v := (k : Int) + 1) dX12_appendText_114 6 rfl (by omega) (by decide) rfl ?_
          refine r_goto dX12_appendText_117 (tgt := 23) (by decide) ?_
          rw [r_bl_bl] at hM18
          refine rr_take 7 rfl ?_
          exact ih (k + 1) (by omega) (by omega) h18 _ hM18 hA17_18 (fun i hi => (upd_n (by omega)).trans (hlo1 i hi)) (fun i hi => (Decidable.em (i = k)).elim (fun c => by rw [c]; exact upd_s) (fun c => (upd_n (by omega)).trans (hhi1 i (by omega)))) FD18
      · refine r_iload_n dX12_appendText_36 1 rfl ?_
        refine r_goto dX12_appendText_37 (tgt := 76) (by decide) ?_
        refine r_istore (ls' := [(0, .ref m), (1, .int v1), (2, .int v2), (3, .int v3), (4, .int v4), (5, .int v5), (6, .int (iI ((k : Int)))), (7, .int v1)]) dX12_appendText_76 (by decide) rfl ?_
        have hsh : ((v1) >>> ((iI (24 - (8 * ((k : Int) % 4)))) &&& 31)) &&& (iI 255) = iI ((w20 v1 v2 v3 v4 v5).getD k 0) := by
          rcases (show k = 0 ∨ k = 1 ∨ k = 2 ∨ k = 3 by omega) with e9 | e9 | e9 | e9
          · rw [sh_k v1 (i := 0) (by decide) (by omega), e9]; rfl
          · rw [sh_k v1 (i := 1) (by decide) (by omega), e9]; rfl
          · rw [sh_k v1 (i := 2) (by decide) (by omega), e9]; rfl
          · rw [sh_k v1 (i := 3) (by decide) (by omega), e9]; rfl
        refine r_aload_n dX12_appendText_78 0 rfl ?_
        refine m_g_bu (v := a.2.2.2.2.2.2.1) hM1 rfl kf_X12_31 dX12_appendText_79 ?_
        refine r_aload_n dX12_appendText_82 0 rfl ?_
        refine m_g_bl (v := ((n + k : Nat) : Int)) hM1 rfl kf_X12_279 dX12_appendText_83 ?_
        refine r_iload dX12_appendText_86 7 rfl ?_
        refine i_bipush (24) (by decide) dX12_appendText_88 ?_
        refine i_bipush (8) (by decide) dX12_appendText_90 ?_
        refine r_iload dX12_appendText_92 6 rfl ?_
        refine i_const (4) dX12_appendText_94 ?_
        refine i_rem dX12_appendText_95 (by unfold in32; omega) ⟨by decide, by decide⟩ (by omega) (by omega) ?_
        refine i_mul dX12_appendText_96 ?_
        refine i_sub dX12_appendText_97 ?_
        refine r_ishr dX12_appendText_98 ?_
        refine i_sipush (255) (by decide) dX12_appendText_99 ?_
        refine r_iand dX12_appendText_102 ?_
        rw [hsh]
        refine m_st (n + k) rfl hA1 dX12_appendText_103 (by omega) (by decide) (fun h19 hA19 F19 => ?_)
        have hM19 := hM1.row hA1 F19
        have FD19 : FRp [m, a.2.2.2.2.2.2.1] h h19 := hF1.tr (FRr F19)
        refine r_aload_n dX12_appendText_104 0 rfl ?_
        refine r_dup dX12_appendText_105 rfl ?_
        refine m_g_bl (v := ((n + k : Nat) : Int)) hM19 rfl kf_X12_279 dX12_appendText_106 ?_
        refine i_const (1) dX12_appendText_109 ?_
        refine i_add dX12_appendText_110 ?_
        refine m_p_bl (v := ((n + k : Nat) : Int) + 1) hM19 kf_X12_279 dX12_appendText_111 (fun h20 hM20 F20 => ?_)
        have hA19_20 := hA19.obj hM19 F20
        have FD20 : FRp [m, a.2.2.2.2.2.2.1] h h20 := FD19.tr (FRm F20)
        refine i_iinc (ls' := [(0, .ref m), (1, .int v1), (2, .int v2), (3, .int v3), (4, .int v4), (5, .int v5), (6, .int (iI ((k : Int) + 1))), (7, .int v1)]) (1) (v := (k : Int) + 1) dX12_appendText_114 6 rfl (by omega) (by decide) rfl ?_
        refine r_goto dX12_appendText_117 (tgt := 23) (by decide) ?_
        rw [r_bl_bl] at hM20
        refine rr_take 7 rfl ?_
        exact ih (k + 1) (by omega) (by omega) h20 _ hM20 hA19_20 (fun i hi => (upd_n (by omega)).trans (hlo1 i hi)) (fun i hi => (Decidable.em (i = k)).elim (fun c => by rw [c]; exact upd_s) (fun c => (upd_n (by omega)).trans (hhi1 i (by omega)))) FD20
  have hbl9 : (r_th r 0).2.2.2.2.2.2.2.2.2.2.1 = ((n + 0 : Nat) : Int) := (pj_th_bl _ _).trans hbl
  show RR G MX12_appendText 0 [(0, .ref m), (1, .int v1), (2, .int v2), (3, .int v3), (4, .int v4), (5, .int v5)] [] h (xm_R MX12_appendText).cells (xm_R MX12_appendText).slots (fun o9 h' => o9 = .inl (some (.int (iI ((n + 20 : Nat) : Int)))) ∧ MO G h' m a (r_bl (r_th r 0) ((n + 20 : Nat) : Int)) ∧ (∃ g', AR G h' a.2.2.2.2.2.2.1 500 g' ∧ (∀ k, k < n → g' k = gi k) ∧ (∀ k, k < 20 → g' (n + k) = iI ((w20 v1 v2 v3 v4 v5).getD k 0))) ∧ FRp [m, a.2.2.2.2.2.2.1] h h')
  refine r_aload_n dX12_appendText_0 0 rfl ?_
  refine i_const (0) dX12_appendText_1 ?_
  refine m_p_th (v := 0) hM kf_X12_79 dX12_appendText_2 (fun h1 hM1 F1 => ?_)
  have hA_1 := hA.obj hM F1
  have FD1 : FRp [m, a.2.2.2.2.2.2.1] h h1 := FRm F1
  refine r_aload_n dX12_appendText_5 0 rfl ?_
  refine m_g_bl (v := (n : Int)) hM1 hbl kf_X12_279 dX12_appendText_6 ?_
  refine i_bipush (20) (by decide) dX12_appendText_9 ?_
  refine i_add dX12_appendText_11 ?_
  refine i_sipush (500) (by decide) dX12_appendText_12 ?_
  refine i_icmple dX12_appendText_15 (tgt := 20) (by decide) (by unfold in32; omega) ⟨by decide, by decide⟩ (fun _ => ?_) (fun c => absurd c (by omega))
  refine i_const (0) dX12_appendText_20 ?_
  refine r_istore (ls' := [(0, .ref m), (1, .int v1), (2, .int v2), (3, .int v3), (4, .int v4), (5, .int v5), (6, .int (iI 0))]) dX12_appendText_21 (by decide) rfl ?_
  have hM9 : MO G h1 m a (r_bl (r_th r 0) ((n + 0 : Nat) : Int)) := by rw [show ((n + 0 : Nat) : Int) = (r_th r 0).2.2.2.2.2.2.2.2.2.2.1 from hbl9.symm, r_bl_self]; exact hM1
  exact L 0 (by omega) h1 gi hM9 hA_1 (fun i hi => rfl) (fun i hi => absurd hi (Nat.not_lt_zero i)) FD1
set_option maxRecDepth 20000 in
set_option maxHeartbeats 1000000 in
theorem c_X12_appendText_full {G : xG} {h : xH} {m : Nat} {a : MA} {r : MR} (hM : MO G h m a r) {gi : Nat → Int32} (hA : AR G h a.2.2.2.2.2.2.1 500 gi) {n : Nat} (hbl : r.2.2.2.2.2.2.2.2.2.2.1 = (n : Int)) {v1 v2 v3 v4 v5 : Int32} (hn : 480 < n) (hn5 : n ≤ 500) : CC G MX12_appendText [.ref m, .int v1, .int v2, .int v3, .int v4, .int v5] h (fun o h' => o = .inl (some (.int (iI (-1)))) ∧ MO G h' m a (r_th r 0) ∧ FRp [m] h h') := by
  show RR G MX12_appendText 0 [(0, .ref m), (1, .int v1), (2, .int v2), (3, .int v3), (4, .int v4), (5, .int v5)] [] h (xm_R MX12_appendText).cells (xm_R MX12_appendText).slots (fun o h' => o = .inl (some (.int (iI (-1)))) ∧ MO G h' m a (r_th r 0) ∧ FRp [m] h h')
  refine r_aload_n dX12_appendText_0 0 rfl ?_
  refine i_const (0) dX12_appendText_1 ?_
  refine m_p_th (v := 0) hM kf_X12_79 dX12_appendText_2 (fun h1 hM1 F1 => ?_)
  have hA_1 := hA.obj hM F1
  have FD1 : FRp [m, a.2.2.2.2.2.2.1] h h1 := FRm F1
  refine r_aload_n dX12_appendText_5 0 rfl ?_
  refine m_g_bl (v := (n : Int)) hM1 hbl kf_X12_279 dX12_appendText_6 ?_
  refine i_bipush (20) (by decide) dX12_appendText_9 ?_
  refine i_add dX12_appendText_11 ?_
  refine i_sipush (500) (by decide) dX12_appendText_12 ?_
  refine i_icmple dX12_appendText_15 (tgt := 20) (by decide) (by unfold in32; omega) ⟨by decide, by decide⟩ (fun c => absurd c (by omega)) (fun _ => ?_)
  refine i_const (-1) dX12_appendText_18 ?_
  refine r_ireturn rfl rfl dX12_appendText_19 ?_
  exact ⟨rfl, hM1, F1⟩
theorem fpm_bu {m : Nat} {a : MA} {h h' : xH} (hF : FRp [m, a.2.2.2.2.2.2.1] h h') : FRp (fpM m a) h h' := hF.mono (by simp [fpM])
set_option maxRecDepth 20000 in
set_option maxHeartbeats 1000000 in
theorem b_X12_appendText_ok {G : xG} {h : xH} {sa : Nat → Nat} {m : Nat} {a : MA} {S : XS} {c0 : Int} (hB0 : MB G h sa m a S c0) {v1 v2 v3 v4 v5 : Int32} (hr : S.1.length ≤ 480) : CC G MX12_appendText [.ref m, .int v1, .int v2, .int v3, .int v4, .int v5] h (fun o h' => o = .inl (some (.int (iI ((S.1 ++ words4 v1 ++ words4 v2 ++ words4 v3 ++ words4 v4 ++ words4 v5).length : Int)))) ∧ MB G h' sa m a (S.1 ++ words4 v1 ++ words4 v2 ++ words4 v3 ++ words4 v4 ++ words4 v5, S.2) 0 ∧ FRp (fpM m a) h h') := by
  obtain ⟨r, hth, hB⟩ := hB0
  obtain ⟨hM, hf, ⟨⟨gn, hn, hnW⟩, ⟨gd, hd⟩, ⟨gk, hk, hkW⟩, ⟨gs, hs, hsW⟩, ⟨gh, hh, hhl, hhW⟩, ⟨go, ho, hol, hoW⟩, hI, ⟨gq, hod⟩, how⟩, hND⟩ := id hB
  obtain ⟨gi, hI1, hI2, hI3, hI4, hI5⟩ := id hI
  obtain ⟨ow1, gw, ow2, ow3⟩ := id how
  have hds : DSa m a := hB.ds
  obtain ⟨f1, f2, f3, f4, f5, f6, f7⟩ := hf
  refine cc_mono (c_X12_appendText_ok hM ⟨hI1, hI2⟩ f6 hr) (fun o h' q => ?_)
  obtain ⟨q1, q2, ⟨g', q3, q4, q5⟩, hF⟩ := q
  have ea : S.1 ++ words4 v1 ++ words4 v2 ++ words4 v3 ++ words4 v4 ++ words4 v5 = S.1 ++ (w20 v1 v2 v3 v4 v5) := by unfold w20; simp only [List.append_assoc]
  have el : (S.1 ++ words4 v1 ++ words4 v2 ++ words4 v3 ++ words4 v4 ++ words4 v5).length = S.1.length + 20 := by rw [ea, List.length_append, w20_len]
  have eg : ∀ k, k < S.1.length → (S.1 ++ words4 v1 ++ words4 v2 ++ words4 v3 ++ words4 v4 ++ words4 v5).getD k 0 = S.1.getD k 0 := fun k hk => by
    rw [ea, List.getD_eq_getElem?_getD, List.getElem?_append_left hk, ← List.getD_eq_getElem?_getD]
  have eh : ∀ k, (S.1 ++ words4 v1 ++ words4 v2 ++ words4 v3 ++ words4 v4 ++ words4 v5).getD (S.1.length + k) 0 = (w20 v1 v2 v3 v4 v5).getD k 0 := fun k => by
    rw [ea, List.getD_eq_getElem?_getD, List.getElem?_append_right (Nat.le_add_right _ _), Nat.add_sub_cancel_left, ← List.getD_eq_getElem?_getD]
  have hIN : INP G h' a.2.2.2.2.2.2.1 (S.1 ++ words4 v1 ++ words4 v2 ++ words4 v3 ++ words4 v4 ++ words4 v5) := by
    refine ⟨g', q3.1, q3.2, by rw [el]; exact Nat.add_le_add_right hr 20, fun k hk => ?_, fun k hk => ?_⟩
    · by_cases c : k < S.1.length
      · rw [eg k c]; exact (q4 k c).trans (hI4 k c)
      · obtain ⟨j, rfl⟩ := Nat.exists_eq_add_of_le (Nat.le_of_not_lt c)
        rw [el] at hk
        rw [eh]
        exact q5 j (Nat.lt_of_add_lt_add_left hk)
    · by_cases c : k < S.1.length
      · rw [eg k c]; exact hI5 k c
      · obtain ⟨j, rfl⟩ := Nat.exists_eq_add_of_le (Nat.le_of_not_lt c)
        rw [el] at hk
        rw [eh]
        exact w20_b (Nat.lt_of_add_lt_add_left hk)
  rw [el]
  exact ⟨q1, ⟨_, ((pj_bl_th _ _).trans (pj_th_th _ _)), q2, ⟨((pj_bl_rr _ _).trans ((pj_th_rr _ _).trans f1)), ((pj_bl_un _ _).trans ((pj_th_un _ _).trans f2)), ((pj_bl_lc _ _).trans ((pj_th_lc _ _).trans f3)), ((pj_bl_sd _ _).trans ((pj_th_sd _ _).trans f4)), ((pj_bl_ol _ _).trans ((pj_th_ol _ _).trans f5)), (show _ = (((S.1 ++ words4 v1 ++ words4 v2 ++ words4 v3 ++ words4 v4 ++ words4 v5).length : Nat) : Int) by rw [el]; exact pj_bl_bl _ _), ((pj_bl_ep _ _).trans ((pj_th_ep _ _).trans f7))⟩, ⟨⟨gn, hn.fr hF (nm2 (hds.1).symm (hds.2.2.2.2.2.2.2.2.2.2.2.2.2.2.1)), hnW⟩, ⟨gd, hd.fr hF (nm2 (hds.2.1).symm (hds.2.2.2.2.2.2.2.2.2.2.2.2.2.2.2.2.2.2.2.2.2.1))⟩, ⟨gk, hk.fr hF (nm2 (hds.2.2.1).symm (hds.2.2.2.2.2.2.2.2.2.2.2.2.2.2.2.2.2.2.2.2.2.2.2.2.2.2.2.1)), hkW⟩, ⟨gs, hs.fr hF (nm2 (hds.2.2.2.1).symm (hds.2.2.2.2.2.2.2.2.2.2.2.2.2.2.2.2.2.2.2.2.2.2.2.2.2.2.2.2.2.2.2.2.1)), hsW⟩, ⟨gh, hh.fr hF (nm2 (hds.2.2.2.2.1).symm (hds.2.2.2.2.2.2.2.2.2.2.2.2.2.2.2.2.2.2.2.2.2.2.2.2.2.2.2.2.2.2.2.2.2.2.2.2.1)), hhl, hhW⟩, ⟨go, ho.fr hF (nm2 (hds.2.2.2.2.2.1).symm (hds.2.2.2.2.2.2.2.2.2.2.2.2.2.2.2.2.2.2.2.2.2.2.2.2.2.2.2.2.2.2.2.2.2.2.2.2.2.2.2.1)), hol, hoW⟩, hIN, ⟨gq, hod.fr hF (nm2 (hds.2.2.2.2.2.2.2.1).symm (hds.2.2.2.2.2.2.2.2.2.2.2.2.2.2.2.2.2.2.2.2.2.2.2.2.2.2.2.2.2.2.2.2.2.2.2.2.2.2.2.2.2.2.1).symm)⟩, ⟨by rw [hF.1]; exact ow1, gw, (hF.2 _ (nm2 (hds.2.2.2.2.2.2.2.2.1).symm (hds.2.2.2.2.2.2.2.2.2.2.2.2.2.2.2.2.2.2.2.2.2.2.2.2.2.2.2.2.2.2.2.2.2.2.2.2.2.2.2.2.2.2.2.1).symm)).trans ow2, ow3⟩⟩, hND⟩, fpm_bu hF⟩
theorem b_X12_appendText_full {G : xG} {h : xH} {sa : Nat → Nat} {m : Nat} {a : MA} {S : XS} {c0 : Int} (hB0 : MB G h sa m a S c0) {v1 v2 v3 v4 v5 : Int32} (hr : 480 < S.1.length) : CC G MX12_appendText [.ref m, .int v1, .int v2, .int v3, .int v4, .int v5] h (fun o h' => o = .inl (some (.int (iI (-1)))) ∧ MB G h' sa m a S 0 ∧ FRp (fpM m a) h h') := hB0.ask (fun r g hM hR hRW hB => by
  obtain ⟨gi, hI1, hI2, hI3, hI4, hI5⟩ := hB.2.2.1.2.2.2.2.2.2.1
  exact c_X12_appendText_full hM ⟨hI1, hI2⟩ hB.2.1.2.2.2.2.2.1 hr hI3)
