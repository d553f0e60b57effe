/-! ===== the reference: folding and rolling ===== -/
def EQs (i : Nat) (g g' : Nat → Int32) : Prop := ∀ k, k < 1249 → (k < 7 + 207 * i ∨ 7 + 207 * i + 207 ≤ k) → g' k = g k
theorem EQs.rf {i : Nat} {g : Nat → Int32} : EQs i g g := fun _ _ _ => rfl
theorem EQs.o {i : Nat} {g g1 g2 : Nat → Int32} (x : EQs i g g1) (y : EQo i g1 g2) : EQs i g g2 := fun k h hk => (y k hk).trans (x k h hk)
theorem EQs.o6 {i : Nat} {g g1 g2 : Nat → Int32} (x : EQs i g g1) (y : EQo 6 g1 g2) : EQs i g g2 := fun k h hk => (y k (by omega)).trans (x k h hk)
theorem EQo.s {i : Nat} {g g' : Nat → Int32} (x : EQo i g g') : EQs i g g' := fun k _ hk => x k hk
theorem RWc.sets {g g' : Nat → Int32} {B : AB} (h : RWc g 0 B) {i : Nat} (hi : i < B.2.length) {s' : AS} (hs : SWr g' (7 + 207 * i) s') (e : EQs i g g') : RWc g' 0 (B.1, B.2.set i s') := by
  have hb := h.2.1
  have hx : EQo i g (fun k => if k < 1249 then g' k else g k) := fun k hk => by
    by_cases c : k < 1249
    · exact (if_pos c).trans (e k c hk)
    · exact if_neg c
  have z := h.set hi (hs.eq (g' := fun k => if k < 1249 then g' k else g k) (fun k h1 h2 => if_pos (by omega))) hx
  obtain ⟨⟨h0, h1, h2, h3, h4, h5, h6⟩, h7, h8⟩ := z
  refine ⟨⟨h0, h1, h2, h3, h4, h5, h6⟩, h7, fun j hj => ?_⟩
  have h7' : (B.2.set i s').length ≤ 6 := h7
  have hj' : j < (B.2.set i s').length := hj
  exact (h8 j hj).eq (fun k h1 h2 => (if_pos (by omega)).symm)
theorem putN_room3 {l : List Int} {x : Int} {mt : Bool} (h : (putN l x mt).1.length ≤ 200) : l.length < 200 ∨ (mt = true ∧ joinsL l x = true) := by
  cases e : (mt && joinsL l x)
  · left
    unfold putN at h
    rw [e] at h
    simp at h
    omega
  · right
    simpa using e
theorem cpL_0 {l : List Int} {p k : Nat} (h : ((p : Int) % 2) = 0) : (cpL l p).getD k 0 = l.getD k 0 := by unfold cpL; rw [if_pos (by omega)]
theorem cpL_1 {l : List Int} {p k : Nat} (hk : k < l.length) (h : ((p : Int) % 2) ≠ 0) : (cpL l p).getD k 0 = l.getD (l.length - 1 - k) 0 := by unfold cpL; rw [if_neg (by omega), getD_rev hk]
theorem in32_nz {l : List Int} (hh : hgt l ≤ 4000) : ∀ k, k < l.length → in32 (l.getD k 0) := fun k hk => in32_lay hh hk
theorem hgt_tk (l : List Int) (k : Nat) : hgt (l.take k) ≤ hgt l := by
  have h := hgt_app (l.take k) (l.drop k)
  rw [List.take_append_drop] at h
  have := hgt_nn (l.drop k)
  omega
theorem foldP_hb (l : List Int) (m : Bool) (p : Nat) : hgt (foldP l m p).1 = hgt l * (p : Int) := by
  induction p with
  | zero => simp [foldP, hgt]
  | succ p ih =>
    rw [foldP_s]
    show hgt (putA _ _ _).1 = _
    rw [putA_hgt, cpL_hgt, ih, show ((p + 1 : Nat) : Int) = (p : Int) + 1 by omega, Int.mul_add, Int.mul_one]
theorem sz_ge (x : Int) : - sz x ≤ x ∧ x ≤ sz x := by unfold sz; split <;> omega
set_option maxRecDepth 20000 in
set_option maxHeartbeats 1000000 in
theorem c_X12_foldUp {G : xG} {h : xH} {m : Nat} {a : MA} {r : MR} (hM : MO G h m a r) {g : Nat → Int32} (hR : AR G h r.1 1456 g) {i : Nat} (hi : i < 6) {s : AS} (hw : SWr g (7 + 207 * i) s) (hW : WS s) {mt : Bool} (hmt : mt = !s.2.2.2.2.1) {np : Nat} (hnp : 2 ≤ np ∧ np ≤ 4) (hroom : (foldP s.1 mt np).1.length ≤ 200) : CC G MX12_foldUp [.ref m, .int (iI (i : Int)), .int (iI (np : Int))] h (fun o h' => o = .inl none ∧ MO G h' m a (r_jz r (foldP s.1 mt np).2) ∧ ∃ g', AR G h' r.1 1456 g' ∧ SWr g' (7 + 207 * i) (foldS s np) ∧ SWr g' (7 + 207 * 6) s ∧ EQs i g g' ∧ FRp [m, r.1] h h') := by
  obtain ⟨h1, hnz, h4, hw0, hw9⟩ := hW
  have hl2 := hw.len
  have hnl : s.1.length ≤ 200 := hl2
  have foldP_in : ∀ p k, p < np → (∀ y ∈ (putA (foldP s.1 mt p).1 ((cpL s.1 p).take k) mt).1, y ≠ 0) ∧ (∀ q, q < (putA (foldP s.1 mt p).1 ((cpL s.1 p).take k) mt).1.length → in32 ((putA (foldP s.1 mt p).1 ((cpL s.1 p).take k) mt).1.getD q 0)) := fun p k hp => by
    have z1 : ∀ y ∈ (putA (foldP s.1 mt p).1 ((cpL s.1 p).take k) mt).1, y ≠ 0 := putA_nz (foldP_nz hnz p) (fun y hy => hnz y (cpL_mem.mp (List.mem_of_mem_take hy)))
    refine ⟨z1, fun q hq => ?_⟩
    have a1 := sz_le hq
    have a2 : hgt (putA (foldP s.1 mt p).1 ((cpL s.1 p).take k) mt).1 = hgt (foldP s.1 mt p).1 + hgt ((cpL s.1 p).take k) := putA_hgt _ _ _
    have a3 := foldP_hb s.1 mt p
    have a4 : hgt ((cpL s.1 p).take k) ≤ hgt (cpL s.1 p) := hgt_tk _ _
    rw [cpL_hgt] at a4
    have a5 := sz_ge ((putA (foldP s.1 mt p).1 ((cpL s.1 p).take k) mt).1.getD q 0)
    have a6 : hgt s.1 * (p : Int) ≤ 4000 * 4 := by
      have b1 : hgt s.1 * (p : Int) ≤ 4000 * (p : Int) := Int.mul_le_mul_of_nonneg_right h4 (by omega)
      omega
    unfold in32
    omega
  have L : ∀ p, p ≤ np → ∀ (h1 : xH) (g1 : Nat → Int32), MO G h1 m a (r_jz r (foldP s.1 mt p).2) → AR G h1 r.1 1456 g1 → SWr g1 (7 + 207 * i) ((foldP s.1 mt p).1, s.2) → SWr g1 (7 + 207 * 6) s → EQs i g g1 → FRp [m, r.1] h h1 → RR G MX12_foldUp 48 [(0, .ref m), (1, .int (iI ((i : Int)))), (2, .int (iI ((np : Int)))), (3, .int (iI (b2 mt))), (4, .int (iI ((s.1.length : Int)))), (5, .int (iI ((p : Int))))] [] h1 (xm_R MX12_foldUp).cells (xm_R MX12_foldUp).slots (fun o h' => o = .inl none ∧ MO G h' m a (r_jz r (foldP s.1 mt np).2) ∧ ∃ g', AR G h' r.1 1456 g' ∧ SWr g' (7 + 207 * i) (foldS s np) ∧ SWr g' (7 + 207 * 6) s ∧ EQs i g g' ∧ FRp [m, r.1] h h') := by
    refine down (fun p hp9 ih => ?_)
    intro h1 g1 hM1 hR1 hw1 hs61 hE1 hF1
    refine r_iload dX12_foldUp_48 5 rfl ?_
    refine r_iload_n dX12_foldUp_50 2 rfl ?_
    refine i_icmpge dX12_foldUp_51 (tgt := 120) (by decide) (by unfold in32; omega) (by unfold in32; omega) (fun c51 => ?_) (fun c51 => ?_)
    · have hp : p = np := by omega
      rw [hp] at hM1 hw1 ⊢
      refine r_aload_n dX12_foldUp_120 0 rfl ?_
      refine r_iload_n dX12_foldUp_121 1 rfl ?_
      refine i_const (5) dX12_foldUp_122 ?_
      refine r_iload_n dX12_foldUp_123 2 rfl ?_
      refine r_aload_n dX12_foldUp_124 0 rfl ?_
      refine r_iload_n dX12_foldUp_125 1 rfl ?_
      refine i_const (5) dX12_foldUp_126 ?_
      refine p_callV (As := [.int (iI ((i : Int))), .int (iI 5)]) (b := m) (rest := [.int (iI ((np : Int))), .int (iI 5), .int (iI ((i : Int))), .ref m]) (w := (some (.int (iI s.2.1)))) (st' := [.int (iI s.2.1), .int (iI ((np : Int))), .int (iI 5), .int (iI ((i : Int))), .ref m]) kv_X12_foldUp_93 dX12_foldUp_127 rfl rfl (Nat.le_of_ble_eq_true rfl) (Nat.le_of_ble_eq_true rfl) (x_rv hM1.1 hM1.2 rfl) rfl rfl (c_X12_of hM1 hR1 (i := i) (w := 5) (by omega) (by decide) hw1.2.2.2.2.2.1) rfl (fun h41 e41 => ?_)
      rw [show h41 = h1 from e41]
      refine i_mul dX12_foldUp_130 ?_
      refine r_aload_n dX12_foldUp_131 0 rfl ?_
      refine m_g_jz (v := (foldP s.1 mt np).2) hM1 rfl kf_X12_104 dX12_foldUp_132 ?_
      refine i_sub dX12_foldUp_135 ?_
      refine p_callV (As := [.int (iI ((i : Int))), .int (iI 5), .int (iI (((np : Int) * s.2.1) - ((foldP s.1 mt np).2)))]) (b := m) (rest := []) (w := none) (st' := []) kv_X12_foldUp_90 dX12_foldUp_136 rfl rfl (Nat.le_of_ble_eq_true rfl) (Nat.le_of_ble_eq_true rfl) (x_rv hM1.1 hM1.2 rfl) rfl rfl (c_X12_lay_5 hM1 hR1 (i := i) (by omega) hw1 (v := ((np : Int) * s.2.1) - ((foldP s.1 mt np).2))) rfl (fun h42 e42 => ?_)
      obtain ⟨g42, hR42, hw42, E42, F42⟩ := e42
      have hM42 := hM1.row hR1 F42
      have hF42 := hF1.tr (FRr F42)
      have hs61_42 := hs61.oth E42 (by omega)
      refine r_aload_n dX12_foldUp_139 0 rfl ?_
      refine r_iload_n dX12_foldUp_140 1 rfl ?_
      refine i_const (1) dX12_foldUp_141 ?_
      refine i_const (0) dX12_foldUp_142 ?_
      refine p_callV (As := [.int (iI ((i : Int))), .int (iI 1), .int (iI 0)]) (b := m) (rest := []) (w := none) (st' := []) kv_X12_foldUp_90 dX12_foldUp_143 rfl rfl (Nat.le_of_ble_eq_true rfl) (Nat.le_of_ble_eq_true rfl) (x_rv hM42.1 hM42.2 rfl) rfl rfl (c_X12_lay_1 hM42 hR42 (i := i) (by omega) hw42 (v := false)) rfl (fun h43 e43 => ?_)
      obtain ⟨g43, hR43, hw43, E43, F43⟩ := e43
      have hM43 := hM42.row hR42 F43
      have hF43 := hF42.tr (FRr F43)
      have hs61_43 := hs61_42.oth E43 (by omega)
      have Eq43 := E42.tr E43
      refine r_aload_n dX12_foldUp_146 0 rfl ?_
      refine r_iload_n dX12_foldUp_147 1 rfl ?_
      refine i_const (4) dX12_foldUp_148 ?_
      refine r_aload_n dX12_foldUp_149 0 rfl ?_
      refine r_iload_n dX12_foldUp_150 1 rfl ?_
      refine i_const (4) dX12_foldUp_151 ?_
      refine p_callV (As := [.int (iI ((i : Int))), .int (iI 4)]) (b := m) (rest := [.int (iI 4), .int (iI ((i : Int))), .ref m]) (w := (some (.int s.2.2.2.1))) (st' := [.int s.2.2.2.1, .int (iI 4), .int (iI ((i : Int))), .ref m]) kv_X12_foldUp_93 dX12_foldUp_152 rfl rfl (Nat.le_of_ble_eq_true rfl) (Nat.le_of_ble_eq_true rfl) (x_rv hM43.1 hM43.2 rfl) rfl rfl (c_X12_of hM43 hR43 (i := i) (w := 4) (by omega) (by decide) hw43.2.2.2.2.1) rfl (fun h44 e44 => ?_)
      rw [show h44 = h43 from e44]
      refine i_const (1) dX12_foldUp_155 ?_
      refine r_iadd dX12_foldUp_156 ?_
      refine p_callV (As := [.int (iI ((i : Int))), .int (iI 4), .int ((s.2.2.2.1) + (iI 1))]) (b := m) (rest := []) (w := none) (st' := []) kv_X12_foldUp_90 dX12_foldUp_157 rfl rfl (Nat.le_of_ble_eq_true rfl) (Nat.le_of_ble_eq_true rfl) (x_rv hM43.1 hM43.2 rfl) rfl rfl (c_X12_lay_4 hM43 hR43 (i := i) (by omega) hw43 (v := (s.2.2.2.1) + (iI 1))) rfl (fun h45 e45 => ?_)
      obtain ⟨g45, hR45, hw45, E45, F45⟩ := e45
      have hM45 := hM43.row hR43 F45
      have hF45 := hF43.tr (FRr F45)
      have hs61_45 := hs61_43.oth E45 (by omega)
      have Eq45 := Eq43.tr E45
      refine r_aload_n dX12_foldUp_160 0 rfl ?_
      refine r_iload_n dX12_foldUp_161 1 rfl ?_
      refine p_callV (As := [.int (iI ((i : Int)))]) (b := m) (rest := []) (w := none) (st' := []) kv_X12_foldUp_175 dX12_foldUp_162 rfl rfl (Nat.le_of_ble_eq_true rfl) (Nat.le_of_ble_eq_true rfl) (x_rv hM45.1 hM45.2 rfl) rfl rfl (c_X12_warm hM45 hR45 (i := i) (by omega) hw45 (by show 0 ≤ s.2.2.1 ∧ s.2.2.1 ≤ 40; omega)) rfl (fun h46 e46 => ?_)
      obtain ⟨g46, hR46, hw46, E46, F46⟩ := e46
      have hM46 := hM45.row hR45 F46
      have hF46 := hF45.tr (FRr F46)
      have hs61_46 := hs61_45.oth E46 (by omega)
      have Eq46 := Eq45.tr E46
      refine r_return rfl dX12_foldUp_165 ?_
      have ef : foldS s np = (((foldP s.1 mt np).1), (((np : Int) * s.2.1) - ((foldP s.1 mt np).2)), (warmed s.2.2.1), ((s.2.2.2.1) + (iI 1)), false, s.2.2.2.2.2.1, s.2.2.2.2.2.2) := by unfold foldS; rw [Int.mul_comm, ← hmt]
      rw [ef]
      exact ⟨rfl, hM46, _, hR46, hw46, hs61_46, hE1.o Eq46, hF46⟩
    · refine i_const (0) dX12_foldUp_54 ?_
      refine r_istore (ls' := [(0, .ref m), (1, .int (iI ((i : Int)))), (2, .int (iI ((np : Int)))), (3, .int (iI (b2 mt))), (4, .int (iI ((s.1.length : Int)))), (5, .int (iI ((p : Int)))), (6, .int (iI 0))]) dX12_foldUp_55 (by decide) rfl ?_
      have Lk : ∀ k, k ≤ s.1.length → ∀ (h2 : xH) (g2 : Nat → Int32), MO G h2 m a (r_jz r ((foldP s.1 mt p).2 + (putA (foldP s.1 mt p).1 ((cpL s.1 p).take k) mt).2)) → AR G h2 r.1 1456 g2 → SWr g2 (7 + 207 * i) ((putA (foldP s.1 mt p).1 ((cpL s.1 p).take k) mt).1, s.2) → SWr g2 (7 + 207 * 6) s → EQs i g g2 → FRp [m, r.1] h h2 → RR G MX12_foldUp 57 [(0, .ref m), (1, .int (iI ((i : Int)))), (2, .int (iI ((np : Int)))), (3, .int (iI (b2 mt))), (4, .int (iI ((s.1.length : Int)))), (5, .int (iI ((p : Int)))), (6, .int (iI ((k : Int))))] [] h2 (xm_R MX12_foldUp).cells (xm_R MX12_foldUp).slots (fun o h' => o = .inl none ∧ MO G h' m a (r_jz r (foldP s.1 mt np).2) ∧ ∃ g', AR G h' r.1 1456 g' ∧ SWr g' (7 + 207 * i) (foldS s np) ∧ SWr g' (7 + 207 * 6) s ∧ EQs i g g' ∧ FRp [m, r.1] h h') := by
        refine down (fun k hk ihk => ?_)
        intro h2 g2 hM2 hR2 hw2 hs62 hE2 hF2
        refine r_iload dX12_foldUp_57 6 rfl ?_
        refine r_iload dX12_foldUp_59 4 rfl ?_
        refine i_icmpge dX12_foldUp_61 (tgt := 114) (by decide) (by unfold in32; omega) (by unfold in32; omega) (fun c61 => ?_) (fun c61 => ?_)
        · refine i_iinc (ls' := [(0, .ref m), (1, .int (iI ((i : Int)))), (2, .int (iI ((np : Int)))), (3, .int (iI (b2 mt))), (4, .int (iI ((s.1.length : Int)))), (5, .int (iI ((p : Int) + 1))), (6, .int (iI ((k : Int))))]) (1) (v := (p : Int) + 1) dX12_foldUp_114 5 rfl (by omega) (by decide) rfl ?_
          refine r_goto dX12_foldUp_117 (tgt := 48) (by decide) ?_
          refine rr_take 6 rfl ?_
          have q := ih (p + 1) (by omega) (by omega) h2 g2
          rw [foldP_s] at q
          rw [show (cpL s.1 p).take k = cpL s.1 p by rw [show k = (cpL s.1 p).length by rw [cpL_len]; omega, take_all]] at hM2 hw2
          exact q hM2 hR2 hw2 hs62 hE2 hF2
        · refine r_aload_n dX12_foldUp_64 0 rfl ?_
          refine r_iload_n dX12_foldUp_65 1 rfl ?_
          refine r_aload_n dX12_foldUp_66 0 rfl ?_
          refine i_bipush (6) (by decide) dX12_foldUp_67 ?_
          refine r_iload dX12_foldUp_69 5 rfl ?_
          refine i_const (2) dX12_foldUp_71 ?_
          refine i_rem dX12_foldUp_72 (by unfold in32; omega) ⟨by decide, by decide⟩ (by omega) (by omega) ?_
          refine i_ifne dX12_foldUp_73 (tgt := 81) (by decide) (by unfold in32; omega) (fun c73 => ?_) (fun c73 => ?_)
          · refine r_iload dX12_foldUp_81 4 rfl ?_
            refine i_const (1) dX12_foldUp_83 ?_
            refine i_sub dX12_foldUp_84 ?_
            refine r_iload dX12_foldUp_85 6 rfl ?_
            refine i_sub dX12_foldUp_87 ?_
            refine p_callV (As := [.int (iI 6), .int (iI (((s.1.length : Int) - 1) - (k : Int)))]) (b := m) (rest := [.int (iI ((i : Int))), .ref m]) (w := (some (.int (iI (s.1.getD (s.1.length - 1 - k) 0))))) (st' := [.int (iI (s.1.getD (s.1.length - 1 - k) 0)), .int (iI ((i : Int))), .ref m]) kv_X12_foldUp_97 dX12_foldUp_88 rfl rfl (Nat.le_of_ble_eq_true rfl) (Nat.le_of_ble_eq_true rfl) (x_rv hM2.1 hM2.2 rfl) rfl rfl (c_X12_layer_z hM2 hR2 (i := 6) (k := (s.1.length - 1 - k)) (by omega) (by omega) hs62 (by omega)) rfl (fun h21 e21 => ?_)
            rw [show h21 = h2 from e21]
            refine r_iload_n dX12_foldUp_91 3 rfl ?_
            refine i_ifeqb dX12_foldUp_92 (tgt := 104) (by decide) (fun c92 => ?_) (fun c92 => ?_)
            · refine i_const (0) dX12_foldUp_104 ?_
              have hk9 : k < (cpL s.1 p).length := by rw [cpL_len]; omega
              have ed : (cpL s.1 p).getD k 0 = s.1.getD (s.1.length - 1 - k) 0 := cpL_1 (by omega) c73
              have em : (mt && decide (k = 0)) = false := by rw [c92]; rfl
              have es := putA_s (acc := (foldP s.1 mt p).1) (xs := cpL s.1 p) (m := mt) hk9
              rw [em, ed] at es
              have er : (putN (putA (foldP s.1 mt p).1 ((cpL s.1 p).take k) mt).1 (s.1.getD (s.1.length - 1 - k) 0) false).1.length ≤ 200 := by
                have z := putA_tk (foldP s.1 mt p).1 (cpL s.1 p) mt (k + 1)
                rw [es] at z
                exact Nat.le_trans z (Nat.le_trans (foldP_mono s.1 mt (show p + 1 ≤ np by omega)) hroom)
              have hin := foldP_in p k (by omega)
              refine p_callV (As := [.int (iI ((i : Int))), .int (iI (s.1.getD (s.1.length - 1 - k) 0)), .int (iI 0)]) (b := m) (rest := []) (w := none) (st' := []) kv_X12_foldUp_171 dX12_foldUp_105 rfl rfl (Nat.le_of_ble_eq_true rfl) (Nat.le_of_ble_eq_true rfl) (x_rv hM2.1 hM2.2 rfl) rfl rfl (c_X12_putLayer hM2 hR2 (i := i) (by omega) hw2 hin.1 hin.2 (x := s.1.getD (s.1.length - 1 - k) 0) (hnz _ (getD_mem (by omega))) (in32_nz h4 _ (by omega)) (mt := false) (putN_room3 er)) rfl (fun h22 e22 => ?_)
              obtain ⟨hM22, g22, hR22, hw22, E22, X22⟩ := e22
              have hF22 := hF2.tr (X22)
              have hs622 := hs62.oth E22 (by omega)
              refine i_iinc (ls' := [(0, .ref m), (1, .int (iI ((i : Int)))), (2, .int (iI ((np : Int)))), (3, .int (iI (b2 mt))), (4, .int (iI ((s.1.length : Int)))), (5, .int (iI ((p : Int)))), (6, .int (iI ((k : Int) + 1)))]) (1) (v := (k : Int) + 1) dX12_foldUp_108 6 rfl (by omega) (by decide) rfl ?_
              refine r_goto dX12_foldUp_111 (tgt := 57) (by decide) ?_
              have q := ihk (k + 1) (by omega) (by omega) h22 g22
              rw [es] at q
              exact q (by rw [← Int.add_assoc]; exact hM22) hR22 hw22 hs622 (hE2.o E22) hF22
            · refine r_iload dX12_foldUp_95 6 rfl ?_
              refine i_ifne dX12_foldUp_97 (tgt := 104) (by decide) (by unfold in32; omega) (fun c97 => ?_) (fun c97 => ?_)
              · refine i_const (0) dX12_foldUp_104 ?_
                have hk9 : k < (cpL s.1 p).length := by rw [cpL_len]; omega
                have ed : (cpL s.1 p).getD k 0 = s.1.getD (s.1.length - 1 - k) 0 := cpL_1 (by omega) c73
                have em : (mt && decide (k = 0)) = false := by rw [decide_eq_false (by omega)]; simp
                have es := putA_s (acc := (foldP s.1 mt p).1) (xs := cpL s.1 p) (m := mt) hk9
                rw [em, ed] at es
                have er : (putN (putA (foldP s.1 mt p).1 ((cpL s.1 p).take k) mt).1 (s.1.getD (s.1.length - 1 - k) 0) false).1.length ≤ 200 := by
                  have z := putA_tk (foldP s.1 mt p).1 (cpL s.1 p) mt (k + 1)
                  rw [es] at z
                  exact Nat.le_trans z (Nat.le_trans (foldP_mono s.1 mt (show p + 1 ≤ np by omega)) hroom)
                have hin := foldP_in p k (by omega)
                refine p_callV (As := [.int (iI ((i : Int))), .int (iI (s.1.getD (s.1.length - 1 - k) 0)), .int (iI 0)]) (b := m) (rest := []) (w := none) (st' := []) kv_X12_foldUp_171 dX12_foldUp_105 rfl rfl (Nat.le_of_ble_eq_true rfl) (Nat.le_of_ble_eq_true rfl) (x_rv hM2.1 hM2.2 rfl) rfl rfl (c_X12_putLayer hM2 hR2 (i := i) (by omega) hw2 hin.1 hin.2 (x := s.1.getD (s.1.length - 1 - k) 0) (hnz _ (getD_mem (by omega))) (in32_nz h4 _ (by omega)) (mt := false) (putN_room3 er)) rfl (fun h23 e23 => ?_)
                obtain ⟨hM23, g23, hR23, hw23, E23, X23⟩ := e23
                have hF23 := hF2.tr (X23)
                have hs623 := hs62.oth E23 (by omega)
                refine i_iinc (ls' := [(0, .ref m), (1, .int (iI ((i : Int)))), (2, .int (iI ((np : Int)))), (3, .int (iI (b2 mt))), (4, .int (iI ((s.1.length : Int)))), (5, .int (iI ((p : Int)))), (6, .int (iI ((k : Int) + 1)))]) (1) (v := (k : Int) + 1) dX12_foldUp_108 6 rfl (by omega) (by decide) rfl ?_
                refine r_goto dX12_foldUp_111 (tgt := 57) (by decide) ?_
                have q := ihk (k + 1) (by omega) (by omega) h23 g23
                rw [es] at q
                exact q (by rw [← Int.add_assoc]; exact hM23) hR23 hw23 hs623 (hE2.o E23) hF23
              · refine i_const (1) dX12_foldUp_100 ?_
                refine r_goto dX12_foldUp_101 (tgt := 105) (by decide) ?_
                have hk9 : k < (cpL s.1 p).length := by rw [cpL_len]; omega
                have ed : (cpL s.1 p).getD k 0 = s.1.getD (s.1.length - 1 - k) 0 := cpL_1 (by omega) c73
                have em : (mt && decide (k = 0)) = true := by rw [c92, decide_eq_true (by omega)]; rfl
                have es := putA_s (acc := (foldP s.1 mt p).1) (xs := cpL s.1 p) (m := mt) hk9
                rw [em, ed] at es
                have er : (putN (putA (foldP s.1 mt p).1 ((cpL s.1 p).take k) mt).1 (s.1.getD (s.1.length - 1 - k) 0) true).1.length ≤ 200 := by
                  have z := putA_tk (foldP s.1 mt p).1 (cpL s.1 p) mt (k + 1)
                  rw [es] at z
                  exact Nat.le_trans z (Nat.le_trans (foldP_mono s.1 mt (show p + 1 ≤ np by omega)) hroom)
                have hin := foldP_in p k (by omega)
                refine p_callV (As := [.int (iI ((i : Int))), .int (iI (s.1.getD (s.1.length - 1 - k) 0)), .int (iI 1)]) (b := m) (rest := []) (w := none) (st' := []) kv_X12_foldUp_171 dX12_foldUp_105 rfl rfl (Nat.le_of_ble_eq_true rfl) (Nat.le_of_ble_eq_true rfl) (x_rv hM2.1 hM2.2 rfl) rfl rfl (c_X12_putLayer hM2 hR2 (i := i) (by omega) hw2 hin.1 hin.2 (x := s.1.getD (s.1.length - 1 - k) 0) (hnz _ (getD_mem (by omega))) (in32_nz h4 _ (by omega)) (mt := true) (putN_room3 er)) rfl (fun h24 e24 => ?_)
                obtain ⟨hM24, g24, hR24, hw24, E24, X24⟩ := e24
                have hF24 := hF2.tr (X24)
                have hs624 := hs62.oth E24 (by omega)
                refine i_iinc (ls' := [(0, .ref m), (1, .int (iI ((i : Int)))), (2, .int (iI ((np : Int)))), (3, .int (iI (b2 mt))), (4, .int (iI ((s.1.length : Int)))), (5, .int (iI ((p : Int)))), (6, .int (iI ((k : Int) + 1)))]) (1) (v := (k : Int) + 1) dX12_foldUp_108 6 rfl (by omega) (by decide) rfl ?_
                refine r_goto dX12_foldUp_111 (tgt := 57) (by decide) ?_
                have q := ihk (k + 1) (by omega) (by omega) h24 g24
                rw [es] at q
                exact q (by rw [← Int.add_assoc]; exact hM24) hR24 hw24 hs624 (hE2.o E24) hF24
          · refine r_iload dX12_foldUp_76 6 rfl ?_
            refine r_goto dX12_foldUp_78 (tgt := 88) (by decide) ?_
            refine p_callV (As := [.int (iI 6), .int (iI ((k : Int)))]) (b := m) (rest := [.int (iI ((i : Int))), .ref m]) (w := (some (.int (iI (s.1.getD k 0))))) (st' := [.int (iI (s.1.getD k 0)), .int (iI ((i : Int))), .ref m]) kv_X12_foldUp_97 dX12_foldUp_88 rfl rfl (Nat.le_of_ble_eq_true rfl) (Nat.le_of_ble_eq_true rfl) (x_rv hM2.1 hM2.2 rfl) rfl rfl (c_X12_layer_z hM2 hR2 (i := 6) (k := k) (by omega) rfl hs62 (by omega)) rfl (fun h25 e25 => ?_)
            rw [show h25 = h2 from e25]
            refine r_iload_n dX12_foldUp_91 3 rfl ?_
            refine i_ifeqb dX12_foldUp_92 (tgt := 104) (by decide) (fun c92 => ?_) (fun c92 => ?_)
            · refine i_const (0) dX12_foldUp_104 ?_
              have hk9 : k < (cpL s.1 p).length := by rw [cpL_len]; omega
              have ed : (cpL s.1 p).getD k 0 = s.1.getD k 0 := cpL_0 c73
              have em : (mt && decide (k = 0)) = false := by rw [c92]; rfl
              have es := putA_s (acc := (foldP s.1 mt p).1) (xs := cpL s.1 p) (m := mt) hk9
              rw [em, ed] at es
              have er : (putN (putA (foldP s.1 mt p).1 ((cpL s.1 p).take k) mt).1 (s.1.getD k 0) false).1.length ≤ 200 := by
                have z := putA_tk (foldP s.1 mt p).1 (cpL s.1 p) mt (k + 1)
                rw [es] at z
                exact Nat.le_trans z (Nat.le_trans (foldP_mono s.1 mt (show p + 1 ≤ np by omega)) hroom)
              have hin := foldP_in p k (by omega)
              refine p_callV (As := [.int (iI ((i : Int))), .int (iI (s.1.getD k 0)), .int (iI 0)]) (b := m) (rest := []) (w := none) (st' := []) kv_X12_foldUp_171 dX12_foldUp_105 rfl rfl (Nat.le_of_ble_eq_true rfl) (Nat.le_of_ble_eq_true rfl) (x_rv hM2.1 hM2.2 rfl) rfl rfl (c_X12_putLayer hM2 hR2 (i := i) (by omega) hw2 hin.1 hin.2 (x := s.1.getD k 0) (hnz _ (getD_mem (by omega))) (in32_nz h4 _ (by omega)) (mt := false) (putN_room3 er)) rfl (fun h26 e26 => ?_)
              obtain ⟨hM26, g26, hR26, hw26, E26, X26⟩ := e26
              have hF26 := hF2.tr (X26)
              have hs626 := hs62.oth E26 (by omega)
              refine i_iinc (ls' := [(0, .ref m), (1, .int (iI ((i : Int)))), (2, .int (iI ((np : Int)))), (3, .int (iI (b2 mt))), (4, .int (iI ((s.1.length : Int)))), (5, .int (iI ((p : Int)))), (6, .int (iI ((k : Int) + 1)))]) (1) (v := (k : Int) + 1) dX12_foldUp_108 6 rfl (by omega) (by decide) rfl ?_
              refine r_goto dX12_foldUp_111 (tgt := 57) (by decide) ?_
              have q := ihk (k + 1) (by omega) (by omega) h26 g26
              rw [es] at q
              exact q (by rw [← Int.add_assoc]; exact hM26) hR26 hw26 hs626 (hE2.o E26) hF26
            · refine r_iload dX12_foldUp_95 6 rfl ?_
              refine i_ifne dX12_foldUp_97 (tgt := 104) (by decide) (by unfold in32; omega) (fun c97 => ?_) (fun c97 => ?_)
              · refine i_const (0) dX12_foldUp_104 ?_
                have hk9 : k < (cpL s.1 p).length := by rw [cpL_len]; omega
                have ed : (cpL s.1 p).getD k 0 = s.1.getD k 0 := cpL_0 c73
                have em : (mt && decide (k = 0)) = false := by rw [decide_eq_false (by omega)]; simp
                have es := putA_s (acc := (foldP s.1 mt p).1) (xs := cpL s.1 p) (m := mt) hk9
                rw [em, ed] at es
                have er : (putN (putA (foldP s.1 mt p).1 ((cpL s.1 p).take k) mt).1 (s.1.getD k 0) false).1.length ≤ 200 := by
                  have z := putA_tk (foldP s.1 mt p).1 (cpL s.1 p) mt (k + 1)
                  rw [es] at z
                  exact Nat.le_trans z (Nat.le_trans (foldP_mono s.1 mt (show p + 1 ≤ np by omega)) hroom)
                have hin := foldP_in p k (by omega)
                refine p_callV (As := [.int (iI ((i : Int))), .int (iI (s.1.getD k 0)), .int (iI 0)]) (b := m) (rest := []) (w := none) (st' := []) kv_X12_foldUp_171 dX12_foldUp_105 rfl rfl (Nat.le_of_ble_eq_true rfl) (Nat.le_of_ble_eq_true rfl) (x_rv hM2.1 hM2.2 rfl) rfl rfl (c_X12_putLayer hM2 hR2 (i := i) (by omega) hw2 hin.1 hin.2 (x := s.1.getD k 0) (hnz _ (getD_mem (by omega))) (in32_nz h4 _ (by omega)) (mt := false) (putN_room3 er)) rfl (fun h27 e27 => ?_)
                obtain ⟨hM27, g27, hR27, hw27, E27, X27⟩ := e27
                have hF27 := hF2.tr (X27)
                have hs627 := hs62.oth E27 (by omega)
                refine i_iinc (ls' := [(0, .ref m), (1, .int (iI ((i : Int)))), (2, .int (iI ((np : Int)))), (3, .int (iI (b2 mt))), (4, .int (iI ((s.1.length : Int)))), (5, .int (iI ((p : Int)))), (6, .int (iI ((k : Int) + 1)))]) (1) (v := (k : Int) + 1) dX12_foldUp_108 6 rfl (by omega) (by decide) rfl ?_
                refine r_goto dX12_foldUp_111 (tgt := 57) (by decide) ?_
                have q := ihk (k + 1) (by omega) (by omega) h27 g27
                rw [es] at q
                exact q (by rw [← Int.add_assoc]; exact hM27) hR27 hw27 hs627 (hE2.o E27) hF27
              · refine i_const (1) dX12_foldUp_100 ?_
                refine r_goto dX12_foldUp_101 (tgt := 105) (by decide) ?_
                have hk9 : k < (cpL s.1 p).length := by rw [cpL_len]; omega
                have ed : (cpL s.1 p).getD k 0 = s.1.getD k 0 := cpL_0 c73
                have em : (mt && decide (k = 0)) = true := by rw [c92, decide_eq_true (by omega)]; rfl
                have es := putA_s (acc := (foldP s.1 mt p).1) (xs := cpL s.1 p) (m := mt) hk9
                rw [em, ed] at es
                have er : (putN (putA (foldP s.1 mt p).1 ((cpL s.1 p).take k) mt).1 (s.1.getD k 0) true).1.length ≤ 200 := by
                  have z := putA_tk (foldP s.1 mt p).1 (cpL s.1 p) mt (k + 1)
                  rw [es] at z
                  exact Nat.le_trans z (Nat.le_trans (foldP_mono s.1 mt (show p + 1 ≤ np by omega)) hroom)
                have hin := foldP_in p k (by omega)
                refine p_callV (As := [.int (iI ((i : Int))), .int (iI (s.1.getD k 0)), .int (iI 1)]) (b := m) (rest := []) (w := none) (st' := []) kv_X12_foldUp_171 dX12_foldUp_105 rfl rfl (Nat.le_of_ble_eq_true rfl) (Nat.le_of_ble_eq_true rfl) (x_rv hM2.1 hM2.2 rfl) rfl rfl (c_X12_putLayer hM2 hR2 (i := i) (by omega) hw2 hin.1 hin.2 (x := s.1.getD k 0) (hnz _ (getD_mem (by omega))) (in32_nz h4 _ (by omega)) (mt := true) (putN_room3 er)) rfl (fun h28 e28 => ?_)
                obtain ⟨hM28, g28, hR28, hw28, E28, X28⟩ := e28
                have hF28 := hF2.tr (X28)
                have hs628 := hs62.oth E28 (by omega)
                refine i_iinc (ls' := [(0, .ref m), (1, .int (iI ((i : Int)))), (2, .int (iI ((np : Int)))), (3, .int (iI (b2 mt))), (4, .int (iI ((s.1.length : Int)))), (5, .int (iI ((p : Int)))), (6, .int (iI ((k : Int) + 1)))]) (1) (v := (k : Int) + 1) dX12_foldUp_108 6 rfl (by omega) (by decide) rfl ?_
                refine r_goto dX12_foldUp_111 (tgt := 57) (by decide) ?_
                have q := ihk (k + 1) (by omega) (by omega) h28 g28
                rw [es] at q
                exact q (by rw [← Int.add_assoc]; exact hM28) hR28 hw28 hs628 (hE2.o E28) hF28
      have q := Lk 0 (by omega) h1 g1
      rw [List.take_zero, putA_nil] at q
      exact q (by rw [show ((foldP s.1 mt p).1, (0 : Int)).2 = 0 from rfl, Int.add_zero]; exact hM1) hR1 hw1 hs61 hE1 hF1
  have L22 : ∀ (h5 : xH) (g5 : Nat → Int32), MO G h5 m a r → AR G h5 r.1 1456 g5 → SWr g5 (7 + 207 * i) s → SWr g5 (7 + 207 * 6) s → EQs i g g5 → FRp [m, r.1] h h5 → RR G MX12_foldUp 22 [(0, .ref m), (1, .int (iI ((i : Int)))), (2, .int (iI ((np : Int)))), (3, .int (iI (b2 mt)))] [] h5 (xm_R MX12_foldUp).cells (xm_R MX12_foldUp).slots (fun o h' => o = .inl none ∧ MO G h' m a (r_jz r (foldP s.1 mt np).2) ∧ ∃ g', AR G h' r.1 1456 g' ∧ SWr g' (7 + 207 * i) (foldS s np) ∧ SWr g' (7 + 207 * 6) s ∧ EQs i g g' ∧ FRp [m, r.1] h h') := by
    intro h5 g5 hM5 hR5 hw5 hs65 hE0 hF5
    refine r_aload_n dX12_foldUp_22 0 rfl ?_
    refine i_bipush (6) (by decide) dX12_foldUp_23 ?_
    refine i_bipush (6) (by decide) dX12_foldUp_25 ?_
    refine p_callV (As := [.int (iI 6), .int (iI 6)]) (b := m) (rest := []) (w := (some (.int (iI ((s.1.length : Int)))))) (st' := [.int (iI ((s.1.length : Int)))]) kv_X12_foldUp_93 dX12_foldUp_27 rfl rfl (Nat.le_of_ble_eq_true rfl) (Nat.le_of_ble_eq_true rfl) (x_rv hM5.1 hM5.2 rfl) rfl rfl (c_X12_of hM5 hR5 (i := 6) (w := 6) (by omega) (by decide) hs65.2.2.2.2.2.2.1) rfl (fun h61 e61 => ?_)
    rw [show h61 = h5 from e61]
    refine r_istore (ls' := [(0, .ref m), (1, .int (iI ((i : Int)))), (2, .int (iI ((np : Int)))), (3, .int (iI (b2 mt))), (4, .int (iI ((s.1.length : Int))))]) dX12_foldUp_30 (by decide) rfl ?_
    refine r_aload_n dX12_foldUp_32 0 rfl ?_
    refine i_const (0) dX12_foldUp_33 ?_
    refine m_p_jz (v := 0) hM5 kf_X12_104 dX12_foldUp_34 (fun h62 hM62 F62 => ?_)
    have hR62 := hR5.obj hM5 F62
    have hF62 := hF5.tr (FRm F62)
    refine r_aload_n dX12_foldUp_37 0 rfl ?_
    refine r_iload_n dX12_foldUp_38 1 rfl ?_
    refine i_bipush (6) (by decide) dX12_foldUp_39 ?_
    refine i_const (0) dX12_foldUp_41 ?_
    refine p_callV (As := [.int (iI ((i : Int))), .int (iI 6), .int (iI 0)]) (b := m) (rest := []) (w := none) (st' := []) kv_X12_foldUp_90 dX12_foldUp_42 rfl rfl (Nat.le_of_ble_eq_true rfl) (Nat.le_of_ble_eq_true rfl) (x_rv hM62.1 hM62.2 rfl) rfl rfl (c_X12_lay_6 hM62 hR62 (i := i) (by omega) hw5) rfl (fun h63 e63 => ?_)
    obtain ⟨g63, hR63, hw63, E63, F63⟩ := e63
    have hM63 := hM62.row hR62 F63
    have hF63 := hF62.tr (FRr F63)
    have hs65_63 := hs65.oth E63 (by omega)
    refine i_const (0) dX12_foldUp_45 ?_
    refine r_istore (ls' := [(0, .ref m), (1, .int (iI ((i : Int)))), (2, .int (iI ((np : Int)))), (3, .int (iI (b2 mt))), (4, .int (iI ((s.1.length : Int)))), (5, .int (iI 0))]) dX12_foldUp_46 (by decide) rfl ?_
    exact L 0 (by omega) h63 g63 hM63 hR63 hw63 (hs65_63) (hE0.o E63) hF63
  show RR G MX12_foldUp 0 [(0, .ref m), (1, .int (iI ((i : Int)))), (2, .int (iI ((np : Int))))] [] h (xm_R MX12_foldUp).cells (xm_R MX12_foldUp).slots (fun o h' => o = .inl none ∧ MO G h' m a (r_jz r (foldP s.1 mt np).2) ∧ ∃ g', AR G h' r.1 1456 g' ∧ SWr g' (7 + 207 * i) (foldS s np) ∧ SWr g' (7 + 207 * 6) s ∧ EQs i g g' ∧ FRp [m, r.1] h h')
  refine r_aload_n dX12_foldUp_0 0 rfl ?_
  refine r_iload_n dX12_foldUp_1 1 rfl ?_
  refine i_bipush (6) (by decide) dX12_foldUp_2 ?_
  refine p_callV (As := [.int (iI ((i : Int))), .int (iI 6)]) (b := m) (rest := []) (w := none) (st' := []) kv_X12_foldUp_168 dX12_foldUp_4 rfl rfl (Nat.le_of_ble_eq_true rfl) (Nat.le_of_ble_eq_true rfl) (x_rv hM.1 hM.2 rfl) rfl rfl (c_X12_copySheet hM hR (i := i) (j := 6) (by omega) (by omega) hw) rfl (fun h81 e81 => ?_)
  obtain ⟨g81, hR81, hc81, E81, F81⟩ := e81
  have hM81 := hM.row hR F81
  have hF81 : FRp [m, r.1] h h81 := FRr F81
  have hw81 := hw.oth E81 (by omega)
  refine r_aload_n dX12_foldUp_7 0 rfl ?_
  refine r_iload_n dX12_foldUp_8 1 rfl ?_
  refine i_const (1) dX12_foldUp_9 ?_
  refine p_callV (As := [.int (iI ((i : Int))), .int (iI 1)]) (b := m) (rest := []) (w := (some (.int (iI (b2 s.2.2.2.2.1))))) (st' := [.int (iI (b2 s.2.2.2.2.1))]) kv_X12_foldUp_124 dX12_foldUp_10 rfl rfl (Nat.le_of_ble_eq_true rfl) (Nat.le_of_ble_eq_true rfl) (x_rv hM81.1 hM81.2 rfl) rfl rfl (c_X12_is hM81 hR81 (i := i) (w := 1) (by omega) (by decide) hw81.2.1) rfl (fun h82 e82 => ?_)
  rw [show h82 = h81 from e82]
  refine i_ifneb dX12_foldUp_13 (tgt := 20) (by decide) (fun c13 => ?_) (fun c13 => ?_)
  · refine i_const (0) dX12_foldUp_20 ?_
    refine r_istore_n (ls' := [(0, .ref m), (1, .int (iI ((i : Int)))), (2, .int (iI ((np : Int)))), (3, .int (iI 0))]) dX12_foldUp_21 (by decide) rfl ?_
    have em : mt = false := by rw [hmt, c13]; rfl
    have q := L22 h81 g81 hM81 hR81 hw81 hc81 (EQs.rf.o6 E81) hF81
    rw [em] at q
    rw [em]
    exact q
  · refine i_const (1) dX12_foldUp_16 ?_
    refine r_goto dX12_foldUp_17 (tgt := 21) (by decide) ?_
    refine r_istore_n (ls' := [(0, .ref m), (1, .int (iI ((i : Int)))), (2, .int (iI ((np : Int)))), (3, .int (iI 1))]) dX12_foldUp_21 (by decide) rfl ?_
    have em : mt = true := by rw [hmt, c13]; rfl
    have q := L22 h81 g81 hM81 hR81 hw81 hc81 (EQs.rf.o6 E81) hF81
    rw [em] at q
    rw [em]
    exact q
