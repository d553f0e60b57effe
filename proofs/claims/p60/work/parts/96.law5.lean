/-! ===== act: which change a word makes ===== -/
theorem actR_0 {B : AB} {v : Int32} {k p : Int} (hk : k = aK B v) (hp : p = aP v) (c : mst v 24 < 5 ∧ ((sAt B k).1.length : Int) < 60) : actR B v = if 0 < obst (sAt B k) p then none else some (aCmd 0 B k p) := by
  subst hk; subst hp; unfold actR; rw [if_pos c]
theorem actR_1 {B : AB} {v : Int32} {k p : Int} (hk : k = aK B v) (hp : p = aP v) (c : ¬ (mst v 24 < 5 ∧ ((sAt B k).1.length : Int) < 60)) (d : mst v 24 < 10) : actR B v = if (sAt B k).2.2.2.2.2.2 = true ∨ sumF (rt p (loss (sAt B k) B.1.2.1)) (sAt B k).1 = 0 then none else some (aCmd 1 B k p) := by
  subst hk; subst hp; unfold actR; rw [if_neg c, if_pos d]
theorem actR_2 {B : AB} {v : Int32} {k : Int} (hk : k = aK B v) (d : mst v 24 = 10) : actR B v = if (sAt B k).2.2.2.2.2.2 = true ∨ (sAt B k).2.2.2.2.1 = true ∨ B.1.2.2.1 = 0 then none else some (aCmd 2 B k 0) := by
  subst hk; unfold actR; rw [if_neg (by omega), if_neg (by omega), if_pos d]
theorem actR_3 {B : AB} {v : Int32} {k : Int} (hk : k = aK B v) (d : mst v 24 = 11) : actR B v = if (sAt B k).2.2.2.2.2.2 = true ∨ (sAt B k).2.2.2.2.2.1 = true then none else some (aCmd 3 B k 0) := by
  subst hk; unfold actR; rw [if_neg (by omega), if_neg (by omega), if_neg (by omega), if_pos d]
theorem actR_4 {B : AB} {v : Int32} {k : Int} (hk : k = aK B v) (d : 11 < mst v 24 ∧ mst v 24 < 14) : actR B v = if (sAt B k).2.2.2.2.2.2 = true then some (aCmd 5 B k 0) else if cnt isC B.2 = 3 then none else some (aCmd 4 B k 0) := by
  subst hk; unfold actR; rw [if_neg (by omega), if_neg (by omega), if_neg (by omega), if_neg (by omega), if_pos d.2]
theorem actR_5 {B : AB} {v : Int32} (d : 13 < mst v 24 ∧ mst v 24 < 17) : actR B v = some (aCmd 6 B (1 + mst (aU v) 10) 0) := by
  unfold actR; rw [if_neg (by omega), if_neg (by omega), if_neg (by omega), if_neg (by omega), if_neg (by omega), if_pos d.2]
theorem actR_6 {B : AB} {v : Int32} {k : Int} (hk : k = aK B v) (d : mst v 24 = 17) : actR B v = if (sAt B k).2.2.2.2.2.2 = true ∨ (B.2.length : Int) = 6 then none else some (aCmd 7 B k 0) := by
  subst hk; unfold actR; rw [if_neg (by omega), if_neg (by omega), if_neg (by omega), if_neg (by omega), if_neg (by omega), if_neg (by omega), if_pos d]
theorem actR_7 {B : AB} {v : Int32} {k q : Int} (hk : k = aK B v) (hq : q = aQ B v) (d : 17 < mst v 24 ∧ mst v 24 < 20 ∧ 1 < (B.2.length : Int)) : actR B v = if (sAt B k).2.2.2.2.2.2 = true ∨ (sAt B q).2.2.2.2.2.2 = true ∨ 4000 < hgt (sAt B k).1 + hgt (sAt B q).1 ∨ 200 < ((sAt B k).1.length : Int) + ((sAt B q).1.length : Int) then none else some (aCmd 8 B k q) := by
  subst hk; subst hq; unfold actR; rw [if_neg (by omega), if_neg (by omega), if_neg (by omega), if_neg (by omega), if_neg (by omega), if_neg (by omega), if_neg (by omega), if_pos d.2]
theorem actR_8 {B : AB} {v : Int32} {k T : Int} (hk : k = aK B v) (hT : T = aT v) (d : 17 < mst v 24 ∧ mst v 24 < 23 ∧ ¬ (mst v 24 < 20 ∧ 1 < (B.2.length : Int))) : actR B v = if (sAt B k).2.2.2.2.2.2 = true ∨ ((sAt B k).1.length : Int) = 200 ∨ 4000 < hgt (sAt B k).1 + T then none else some (aBut B k.toNat T) := by
  subst hk; subst hT; unfold actR; rw [if_neg (by omega), if_neg (by omega), if_neg (by omega), if_neg (by omega), if_neg (by omega), if_neg (by omega), if_neg (by omega), if_neg d.2.2, if_pos d.2.1]
theorem actR_9 {B : AB} {v : Int32} (d : 22 < mst v 24) : actR B v = if 900 < B.1.2.2.1 then none else some (aFlour B (1 + mst (aU v) 50)) := by
  unfold actR; rw [if_neg (by omega), if_neg (by omega), if_neg (by omega), if_neg (by omega), if_neg (by omega), if_neg (by omega), if_neg (by omega), if_neg (by omega), if_neg (by omega)]
theorem V3_le (B : AB) (k : Int) : vCmd 3 B k 0 ≤ (B.2.length : Int) := by
  have := (cnt_b isSe (B.2.set k.toNat (seS (B.2.getD k.toNat dS) true))).2
  rw [List.length_set] at this
  exact this
theorem jW_v {s s' : AS} (h : 1 ≤ s.1.length) (h' : 1 ≤ s'.1.length) : jW s s' = (!s.2.2.2.2.1 && (isB (s.1.getD (s.1.length - 1) 0) == isB (s'.1.getD 0 0))) := by
  unfold jW joinsL lastL
  rw [decide_eq_true (by omega : 0 < s.1.length), decide_eq_true (by omega : 0 < s'.1.length), Bool.true_and, Bool.true_and]
set_option maxRecDepth 20000 in
set_option maxHeartbeats 4000000 in
theorem act_fold {G : xG} {h : xH} {K : xK} {sa : Nat → Nat} (hGC : GC G K sa) (hGT : GT G sa) (hGE : GE G) {x : Nat} {ad : XA} {S : XS} (hX : XB G h K x ad S) (hI : IV S) (hE : EB S.2.2.1) (hH : S.2.2.1.1.2.2.2.1 ≤ 9900) {v : Int32} {k p : Int} (hk : k = aK S.2.2.1 v) (hp : p = aP v) (c : mst v 24 < 5 ∧ ((sAt S.2.2.1 k).1.length : Int) < 60) : RR G ML_act 89 [(0, .ref x), (1, .int v), (2, .int (iI (mst v 24))), (3, .int (aU v)), (4, .int (iI ((S.2.2.1.2.length : Int)))), (5, .int (iI k)), (6, .int (iI (((sAt S.2.2.1 k).1.length : Int)))), (7, .int (iI (b2 (sAt S.2.2.1 k).2.2.2.2.2.2))), (8, .int (iI p))] [] h (xm_R ML_act).cells (xm_R ML_act).slots (fun o' h' => o' = .inl (some (.int (iI 1))) ∧ XB G h' K x ad (updS S (actR S.2.2.1 v)) ∧ FRp (fpX x ad) h h') := by
  have hW := hI.1
  have hWB := hW.1
  have hC3 := hI.2.1
  have hlen := hX.len
  have hl6 := hlen.1
  have hn1 := hE.2
  have hm := hWB.2.2.1
  have hfl := hWB.2.2.2.1
  have hro := hWB.2.1
  have hho := hWB.2.2.2.2
  obtain ⟨hk0, hk1, hsk⟩ := aK_b hE v
  rw [← hk] at hk0 hk1 hsk
  have hp4 := aP_b v
  rw [← hp] at hp4
  have hzk : in32 k := by unfold in32; omega
  have hlk : (sAt S.2.2.1 k).1.length ≤ 200 := hlen.2 _ (getD_memS (hasS_n hsk).1)
  have hS := hWB.at hsk
  have hS1 := hS.1
  have hS3 := hS.2.2.1
  have hS4 := hS.2.2.2
  have hg1 := hgt_ge (sAt S.2.2.1 k).1 hS.2.1
  have hmw := mst_b v (m := 24) (by decide)
  have hlo := loss_b (m := S.2.2.1.1.2.1) hS4 (by omega)
  have hA := actR_0 hk hp c
  refine r_aload_n dL_act_89 0 rfl ?_
  refine r_iload dL_act_90 5 rfl ?_
  refine r_iload dL_act_92 8 rfl ?_
  refine p_callV (As := [.int (iI k), .int (iI p)]) (b := x) (rest := []) (w := (some (.int (iI (obst (sAt S.2.2.1 k) p))))) (st' := [.int (iI (obst (sAt S.2.2.1 k) p))]) kv_L_act_116 dL_act_94 rfl rfl (Nat.le_of_ble_eq_true rfl) (Nat.le_of_ble_eq_true rfl) (xb_rv hX) rfl rfl (c_X11_foldObstacle_ok hGC hGT hGE hX hW (z := k) hzk hsk (q := p) (by unfold in32; omega) (fac_i (by omega))) rfl (fun hk1 e9k1 => ?_)
  rw [show hk1 = h from e9k1]
  have hob := obst_nn (sAt S.2.2.1 k) p
  refine i_ifle dL_act_97 (tgt := 117) (by decide) (by unfold in32; omega) (fun c97 => ?_) (fun c97 => ?_)
  · have hob2 : obst (sAt S.2.2.1 k) p ≤ 0 := by omega
    refine r_aload_n dL_act_117 0 rfl ?_
    refine r_iload dL_act_118 5 rfl ?_
    refine r_iload dL_act_120 8 rfl ?_
    refine p_callV (As := [.int (iI k), .int (iI p)]) (b := x) (rest := []) (w := (some (.int (iI (lafS (sAt S.2.2.1 k) p))))) (st' := [.int (iI (lafS (sAt S.2.2.1 k) p))]) kv_L_act_119 dL_act_122 rfl rfl (Nat.le_of_ble_eq_true rfl) (Nat.le_of_ble_eq_true rfl) (xb_rv hX) rfl rfl (c_X11_layersAfterFold_ok hGC hGT hGE hX hW (z := k) hzk hsk (q := p) (by unfold in32; omega) (fac_i (by omega))) rfl (fun hk2 e9k2 => ?_)
    rw [show hk2 = h from e9k2]
    refine r_istore (ls' := [(0, .ref x), (1, .int v), (2, .int (iI (mst v 24))), (3, .int (aU v)), (4, .int (iI ((S.2.2.1.2.length : Int)))), (5, .int (iI k)), (6, .int (iI (((sAt S.2.2.1 k).1.length : Int)))), (7, .int (iI (b2 (sAt S.2.2.1 k).2.2.2.2.2.2))), (8, .int (iI p)), (9, .int (iI (lafS (sAt S.2.2.1 k) p)))]) dL_act_125 (by decide) rfl ?_
    refine r_aload_n dL_act_127 0 rfl ?_
    refine r_iload dL_act_128 5 rfl ?_
    refine p_callV (As := [.int (iI k)]) (b := x) (rest := []) (w := (some (.int (iI (hgt (sAt S.2.2.1 k).1))))) (st' := [.int (iI (hgt (sAt S.2.2.1 k).1))]) kv_L_act_88 dL_act_130 rfl rfl (Nat.le_of_ble_eq_true rfl) (Nat.le_of_ble_eq_true rfl) (xb_rv hX) rfl rfl (c_X11_height_ok hGC hGT hGE hX hW (z := k) hzk hsk) rfl (fun hk3 e9k3 => ?_)
    rw [show hk3 = h from e9k3]
    refine r_istore (ls' := [(0, .ref x), (1, .int v), (2, .int (iI (mst v 24))), (3, .int (aU v)), (4, .int (iI ((S.2.2.1.2.length : Int)))), (5, .int (iI k)), (6, .int (iI (((sAt S.2.2.1 k).1.length : Int)))), (7, .int (iI (b2 (sAt S.2.2.1 k).2.2.2.2.2.2))), (8, .int (iI p)), (9, .int (iI (lafS (sAt S.2.2.1 k) p))), (10, .int (iI (hgt (sAt S.2.2.1 k).1)))]) dL_act_133 (by decide) rfl ?_
    refine r_aload_n dL_act_135 0 rfl ?_
    refine r_iload dL_act_136 5 rfl ?_
    refine r_iload dL_act_138 8 rfl ?_
    refine p_callV (As := [.int (iI k), .int (iI p)]) (b := x) (rest := []) (w := (some (.int (iI (fps (sAt S.2.2.1 k) p))))) (st' := [.int (iI (fps (sAt S.2.2.1 k) p))]) kv_L_act_122 dL_act_140 rfl rfl (Nat.le_of_ble_eq_true rfl) (Nat.le_of_ble_eq_true rfl) (xb_rv hX) rfl rfl (c_X11_foldsPossible_ok hGC hGT hGE hX hW (z := k) hzk hsk (q := p) (by unfold in32; omega) (fac_i (by omega))) rfl (fun hk4 e9k4 => ?_)
    rw [show hk4 = h from e9k4]
    refine r_istore (ls' := [(0, .ref x), (1, .int v), (2, .int (iI (mst v 24))), (3, .int (aU v)), (4, .int (iI ((S.2.2.1.2.length : Int)))), (5, .int (iI k)), (6, .int (iI (((sAt S.2.2.1 k).1.length : Int)))), (7, .int (iI (b2 (sAt S.2.2.1 k).2.2.2.2.2.2))), (8, .int (iI p)), (9, .int (iI (lafS (sAt S.2.2.1 k) p))), (10, .int (iI (hgt (sAt S.2.2.1 k).1))), (11, .int (iI (fps (sAt S.2.2.1 k) p)))]) dL_act_143 (by decide) rfl ?_
    refine r_aload_n dL_act_145 0 rfl ?_
    refine r_iload dL_act_146 5 rfl ?_
    refine p_callV (As := [.int (iI k)]) (b := x) (rest := []) (w := (some (.int (iI (b2 (sAt S.2.2.1 k).2.2.2.2.1))))) (st' := [.int (iI (b2 (sAt S.2.2.1 k).2.2.2.2.1))]) kv_L_act_58 dL_act_148 rfl rfl (Nat.le_of_ble_eq_true rfl) (Nat.le_of_ble_eq_true rfl) (xb_rv hX) rfl rfl (c_X11_isDusted_ok hGC hGT hGE hX hW (z := k) hzk hsk) rfl (fun hk5 e9k5 => ?_)
    rw [show hk5 = h from e9k5]
    refine r_istore (ls' := [(0, .ref x), (1, .int v), (2, .int (iI (mst v 24))), (3, .int (aU v)), (4, .int (iI ((S.2.2.1.2.length : Int)))), (5, .int (iI k)), (6, .int (iI (((sAt S.2.2.1 k).1.length : Int)))), (7, .int (iI (b2 (sAt S.2.2.1 k).2.2.2.2.2.2))), (8, .int (iI p)), (9, .int (iI (lafS (sAt S.2.2.1 k) p))), (10, .int (iI (hgt (sAt S.2.2.1 k).1))), (11, .int (iI (fps (sAt S.2.2.1 k) p))), (12, .int (iI (b2 (sAt S.2.2.1 k).2.2.2.2.1)))]) dL_act_151 (by decide) rfl ?_
    refine r_aload_n dL_act_153 0 rfl ?_
    refine r_iload dL_act_154 5 rfl ?_
    refine p_callV (As := [.int (iI k)]) (b := x) (rest := []) (w := (some (.int (iI (b2 (symL (sAt S.2.2.1 k).1)))))) (st' := [.int (iI (b2 (symL (sAt S.2.2.1 k).1)))]) kv_L_act_134 dL_act_156 rfl rfl (Nat.le_of_ble_eq_true rfl) (Nat.le_of_ble_eq_true rfl) (xb_rv hX) rfl rfl (c_X11_isSymmetric_ok hGC hGT hGE hX hW (z := k) hzk hsk) rfl (fun hk6 e9k6 => ?_)
    rw [show hk6 = h from e9k6]
    refine r_istore (ls' := [(0, .ref x), (1, .int v), (2, .int (iI (mst v 24))), (3, .int (aU v)), (4, .int (iI ((S.2.2.1.2.length : Int)))), (5, .int (iI k)), (6, .int (iI (((sAt S.2.2.1 k).1.length : Int)))), (7, .int (iI (b2 (sAt S.2.2.1 k).2.2.2.2.2.2))), (8, .int (iI p)), (9, .int (iI (lafS (sAt S.2.2.1 k) p))), (10, .int (iI (hgt (sAt S.2.2.1 k).1))), (11, .int (iI (fps (sAt S.2.2.1 k) p))), (12, .int (iI (b2 (sAt S.2.2.1 k).2.2.2.2.1))), (13, .int (iI (b2 (symL (sAt S.2.2.1 k).1))))]) dL_act_159 (by decide) rfl ?_
    refine r_aload_n dL_act_161 0 rfl ?_
    refine r_iload dL_act_162 5 rfl ?_
    refine p_callV (As := [.int (iI k)]) (b := x) (rest := []) (w := (some (.int ((sAt S.2.2.1 k).2.2.2.1)))) (st' := [.int ((sAt S.2.2.1 k).2.2.2.1)]) kv_L_act_55 dL_act_164 rfl rfl (Nat.le_of_ble_eq_true rfl) (Nat.le_of_ble_eq_true rfl) (xb_rv hX) rfl rfl (c_X11_foldCount_ok hGC hGT hGE hX hW (z := k) hzk hsk) rfl (fun hk7 e9k7 => ?_)
    rw [show hk7 = h from e9k7]
    refine r_istore (ls' := [(0, .ref x), (1, .int v), (2, .int (iI (mst v 24))), (3, .int (aU v)), (4, .int (iI ((S.2.2.1.2.length : Int)))), (5, .int (iI k)), (6, .int (iI (((sAt S.2.2.1 k).1.length : Int)))), (7, .int (iI (b2 (sAt S.2.2.1 k).2.2.2.2.2.2))), (8, .int (iI p)), (9, .int (iI (lafS (sAt S.2.2.1 k) p))), (10, .int (iI (hgt (sAt S.2.2.1 k).1))), (11, .int (iI (fps (sAt S.2.2.1 k) p))), (12, .int (iI (b2 (sAt S.2.2.1 k).2.2.2.2.1))), (13, .int (iI (b2 (symL (sAt S.2.2.1 k).1)))), (14, .int ((sAt S.2.2.1 k).2.2.2.1))]) dL_act_167 (by decide) rfl ?_
    refine r_aload_n dL_act_169 0 rfl ?_
    refine r_iload dL_act_170 5 rfl ?_
    refine r_iload dL_act_172 8 rfl ?_
    have ho : obst (sAt S.2.2.1 k) p = 0 := by omega
    have hr := R_fold hsk hp4 ho
    have hL := L_fold hWB hsk hp4 ho
    have hI9 := hI.chg (inp := S.1) (e := S.2.1) hI.1.2.2.2 (hWB.cmd hr) (CB_cmd hr hC3)
    obtain ⟨B1, hB1⟩ : ∃ B1, B1 = aCmd 0 S.2.2.1 k p := ⟨_, rfl⟩
    rw [← hB1] at hL hI9
    have hW1 : WX (S.1, S.2.1, B1, S.2.2.2.1, remH S.2.2.2.2.1 S.2.2.1, S.2.2.2.2.2) := hI9.1
    obtain ⟨hs1, l2, l3, l4, l5, l6, l7⟩ := hL
    have hlp := laf_pos hS1 hp4 ho
    have hfb := fps_le (sAt S.2.2.1 k) p
    have hmb := mul_b (x := hgt (sAt S.2.2.1 k).1) (q := p) (by omega) hp4
    rw [Int.mul_comm] at hmb
    refine p_callV (As := [.int (iI k), .int (iI p)]) (b := x) (rest := []) (w := (some (.int (iI (vCmd 0 S.2.2.1 k p))))) (st' := [.int (iI (vCmd 0 S.2.2.1 k p))]) kv_L_act_137 dL_act_174 rfl rfl (Nat.le_of_ble_eq_true rfl) (Nat.le_of_ble_eq_true rfl) (xb_rv hX) rfl rfl (c_X11_fold_ok hGC hGT hGE hX hW hzk (q := p) (by unfold in32; omega) hr) rfl (fun hk8 e9k8 => ?_)
    obtain ⟨hX9, hF1⟩ := e9k8
    have hX1 : XB G hk8 K x ad (S.1, S.2.1, B1, S.2.2.2.1, remH S.2.2.2.2.1 S.2.2.1, S.2.2.2.2.2) := by rw [hB1]; exact hX9
    have hlen1 := hX1.len
    have hS9 : WS (sAt B1 k) := hI9.1.1.at hs1
    have hl1 : (sAt B1 k).1.length ≤ 200 := hlen1.2 _ (getD_memS (hasS_n hs1).1)
    have hg9 := hgt_nn (sAt B1 k).1
    have hg8 := hS9.2.2.1
    have hw8 := hS9.2.2.2
    have hfb1 := fps_le (sAt B1 k) p
    refine r_iload dL_act_177 9 rfl ?_
    refine i_icmpne dL_act_179 (tgt := 264) (by decide) (by unfold in32; omega) (by unfold in32; omega) (fun c => (by exfalso; omega)) (fun _ => ?_)
    refine r_aload_n dL_act_182 0 rfl ?_
    refine r_iload dL_act_183 5 rfl ?_
    refine p_callV (As := [.int (iI k)]) (b := x) (rest := []) (w := (some (.int (iI (hgt (sAt B1 k).1))))) (st' := [.int (iI (hgt (sAt B1 k).1))]) kv_L_act_88 dL_act_185 rfl rfl (Nat.le_of_ble_eq_true rfl) (Nat.le_of_ble_eq_true rfl) (xb_rv hX1) rfl rfl (c_X11_height_ok hGC hGT hGE hX1 hW1 (z := k) hzk hs1) rfl (fun hk9 e9k9 => ?_)
    rw [show hk9 = hk8 from e9k9]
    refine r_iload dL_act_188 8 rfl ?_
    refine r_iload dL_act_190 10 rfl ?_
    refine i_mul dL_act_192 ?_
    refine i_icmpne dL_act_193 (tgt := 264) (by decide) (by unfold in32; omega) (by unfold in32; omega) (fun c => (by exfalso; omega)) (fun _ => ?_)
    refine r_aload_n dL_act_196 0 rfl ?_
    refine r_iload dL_act_197 5 rfl ?_
    refine p_callV (As := [.int (iI k)]) (b := x) (rest := []) (w := (some (.int ((sAt B1 k).2.2.2.1)))) (st' := [.int ((sAt B1 k).2.2.2.1)]) kv_L_act_55 dL_act_199 rfl rfl (Nat.le_of_ble_eq_true rfl) (Nat.le_of_ble_eq_true rfl) (xb_rv hX1) rfl rfl (c_X11_foldCount_ok hGC hGT hGE hX1 hW1 (z := k) hzk hs1) rfl (fun hk10 e9k10 => ?_)
    rw [show hk10 = hk8 from e9k10]
    refine r_iload dL_act_202 14 rfl ?_
    refine i_const (1) dL_act_204 ?_
    refine r_iadd dL_act_205 ?_
    refine r_icmpne dL_act_206 (tgt := 264) (by decide) (fun c => absurd l4 c) (fun _ => ?_)
    refine r_aload_n dL_act_209 0 rfl ?_
    refine r_iload dL_act_210 5 rfl ?_
    refine p_callV (As := [.int (iI k)]) (b := x) (rest := []) (w := (some (.int (iI (b2 (sAt B1 k).2.2.2.2.1))))) (st' := [.int (iI (b2 (sAt B1 k).2.2.2.2.1))]) kv_L_act_58 dL_act_212 rfl rfl (Nat.le_of_ble_eq_true rfl) (Nat.le_of_ble_eq_true rfl) (xb_rv hX1) rfl rfl (c_X11_isDusted_ok hGC hGT hGE hX1 hW1 (z := k) hzk hs1) rfl (fun hk11 e9k11 => ?_)
    rw [show hk11 = hk8 from e9k11]
    refine i_ifneb dL_act_215 (tgt := 264) (by decide) (fun c => absurd (c.symm.trans l5) (by decide)) (fun _ => ?_)
    refine r_iload dL_act_218 12 rfl ?_
    refine i_ifneb dL_act_220 (tgt := 238) (by decide) (fun c220 => ?_) (fun c220 => ?_)
    · refine r_iload dL_act_238 8 rfl ?_
      refine i_const (2) dL_act_240 ?_
      refine i_rem dL_act_241 (by unfold in32; omega) ⟨by decide, by decide⟩ (by omega) (by omega) ?_
      refine i_const (1) dL_act_242 ?_
      refine i_icmpne dL_act_243 (tgt := 251) (by decide) (by unfold in32; omega) ⟨by decide, by decide⟩ (fun c243 => ?_) (fun c243 => ?_)
      · refine r_aload_n dL_act_251 0 rfl ?_
        refine r_iload dL_act_252 5 rfl ?_
        refine p_callV (As := [.int (iI k)]) (b := x) (rest := []) (w := (some (.int (iI (b2 (symL (sAt B1 k).1)))))) (st' := [.int (iI (b2 (symL (sAt B1 k).1)))]) kv_L_act_134 dL_act_254 rfl rfl (Nat.le_of_ble_eq_true rfl) (Nat.le_of_ble_eq_true rfl) (xb_rv hX1) rfl rfl (c_X11_isSymmetric_ok hGC hGT hGE hX1 hW1 (z := k) hzk hs1) rfl (fun hk12 e9k12 => ?_)
        rw [show hk12 = hk8 from e9k12]
        refine i_ifeqb dL_act_257 (tgt := 264) (by decide) (fun c => absurd (c.symm.trans (l7 (Or.inl c243))) (by decide)) (fun _ => ?_)
        refine i_const (1) dL_act_260 ?_
        refine r_goto dL_act_261 (tgt := 265) (by decide) ?_
        refine r_ireturn rfl (b2_nar true) dL_act_265 ?_
        exact ⟨rfl, by rw [hA, if_neg (by omega), ← hB1]; exact hX1, hF1⟩
      · refine r_iload dL_act_246 13 rfl ?_
        refine i_ifeqb dL_act_248 (tgt := 260) (by decide) (fun c248 => ?_) (fun c248 => ?_)
        · refine i_const (1) dL_act_260 ?_
          refine r_goto dL_act_261 (tgt := 265) (by decide) ?_
          refine r_ireturn rfl (b2_nar true) dL_act_265 ?_
          exact ⟨rfl, by rw [hA, if_neg (by omega), ← hB1]; exact hX1, hF1⟩
        · refine r_aload_n dL_act_251 0 rfl ?_
          refine r_iload dL_act_252 5 rfl ?_
          refine p_callV (As := [.int (iI k)]) (b := x) (rest := []) (w := (some (.int (iI (b2 (symL (sAt B1 k).1)))))) (st' := [.int (iI (b2 (symL (sAt B1 k).1)))]) kv_L_act_134 dL_act_254 rfl rfl (Nat.le_of_ble_eq_true rfl) (Nat.le_of_ble_eq_true rfl) (xb_rv hX1) rfl rfl (c_X11_isSymmetric_ok hGC hGT hGE hX1 hW1 (z := k) hzk hs1) rfl (fun hk13 e9k13 => ?_)
          rw [show hk13 = hk8 from e9k13]
          refine i_ifeqb dL_act_257 (tgt := 264) (by decide) (fun c => absurd (c.symm.trans (l7 (Or.inr c248))) (by decide)) (fun _ => ?_)
          refine i_const (1) dL_act_260 ?_
          refine r_goto dL_act_261 (tgt := 265) (by decide) ?_
          refine r_ireturn rfl (b2_nar true) dL_act_265 ?_
          exact ⟨rfl, by rw [hA, if_neg (by omega), ← hB1]; exact hX1, hF1⟩
    · refine r_aload_n dL_act_223 0 rfl ?_
      refine r_iload dL_act_224 5 rfl ?_
      refine r_iload dL_act_226 8 rfl ?_
      refine p_callV (As := [.int (iI k), .int (iI p)]) (b := x) (rest := []) (w := (some (.int (iI (fps (sAt B1 k) p))))) (st' := [.int (iI (fps (sAt B1 k) p))]) kv_L_act_122 dL_act_228 rfl rfl (Nat.le_of_ble_eq_true rfl) (Nat.le_of_ble_eq_true rfl) (xb_rv hX1) rfl rfl (c_X11_foldsPossible_ok hGC hGT hGE hX1 hW1 (z := k) hzk hs1 (q := p) (by unfold in32; omega) (fac_i (by omega))) rfl (fun hk14 e9k14 => ?_)
      rw [show hk14 = hk8 from e9k14]
      refine r_iload dL_act_231 11 rfl ?_
      refine i_const (1) dL_act_233 ?_
      refine i_sub dL_act_234 ?_
      refine i_icmpne dL_act_235 (tgt := 264) (by decide) (by unfold in32; omega) (by unfold in32; omega) (fun c => (by exfalso; omega)) (fun _ => ?_)
      refine r_iload dL_act_238 8 rfl ?_
      refine i_const (2) dL_act_240 ?_
      refine i_rem dL_act_241 (by unfold in32; omega) ⟨by decide, by decide⟩ (by omega) (by omega) ?_
      refine i_const (1) dL_act_242 ?_
      refine i_icmpne dL_act_243 (tgt := 251) (by decide) (by unfold in32; omega) ⟨by decide, by decide⟩ (fun c243 => ?_) (fun c243 => ?_)
      · refine r_aload_n dL_act_251 0 rfl ?_
        refine r_iload dL_act_252 5 rfl ?_
        refine p_callV (As := [.int (iI k)]) (b := x) (rest := []) (w := (some (.int (iI (b2 (symL (sAt B1 k).1)))))) (st' := [.int (iI (b2 (symL (sAt B1 k).1)))]) kv_L_act_134 dL_act_254 rfl rfl (Nat.le_of_ble_eq_true rfl) (Nat.le_of_ble_eq_true rfl) (xb_rv hX1) rfl rfl (c_X11_isSymmetric_ok hGC hGT hGE hX1 hW1 (z := k) hzk hs1) rfl (fun hk15 e9k15 => ?_)
        rw [show hk15 = hk8 from e9k15]
        refine i_ifeqb dL_act_257 (tgt := 264) (by decide) (fun c => absurd (c.symm.trans (l7 (Or.inl c243))) (by decide)) (fun _ => ?_)
        refine i_const (1) dL_act_260 ?_
        refine r_goto dL_act_261 (tgt := 265) (by decide) ?_
        refine r_ireturn rfl (b2_nar true) dL_act_265 ?_
        exact ⟨rfl, by rw [hA, if_neg (by omega), ← hB1]; exact hX1, hF1⟩
      · refine r_iload dL_act_246 13 rfl ?_
        refine i_ifeqb dL_act_248 (tgt := 260) (by decide) (fun c248 => ?_) (fun c248 => ?_)
        · refine i_const (1) dL_act_260 ?_
          refine r_goto dL_act_261 (tgt := 265) (by decide) ?_
          refine r_ireturn rfl (b2_nar true) dL_act_265 ?_
          exact ⟨rfl, by rw [hA, if_neg (by omega), ← hB1]; exact hX1, hF1⟩
        · refine r_aload_n dL_act_251 0 rfl ?_
          refine r_iload dL_act_252 5 rfl ?_
          refine p_callV (As := [.int (iI k)]) (b := x) (rest := []) (w := (some (.int (iI (b2 (symL (sAt B1 k).1)))))) (st' := [.int (iI (b2 (symL (sAt B1 k).1)))]) kv_L_act_134 dL_act_254 rfl rfl (Nat.le_of_ble_eq_true rfl) (Nat.le_of_ble_eq_true rfl) (xb_rv hX1) rfl rfl (c_X11_isSymmetric_ok hGC hGT hGE hX1 hW1 (z := k) hzk hs1) rfl (fun hk16 e9k16 => ?_)
          rw [show hk16 = hk8 from e9k16]
          refine i_ifeqb dL_act_257 (tgt := 264) (by decide) (fun c => absurd (c.symm.trans (l7 (Or.inr c248))) (by decide)) (fun _ => ?_)
          refine i_const (1) dL_act_260 ?_
          refine r_goto dL_act_261 (tgt := 265) (by decide) ?_
          refine r_ireturn rfl (b2_nar true) dL_act_265 ?_
          exact ⟨rfl, by rw [hA, if_neg (by omega), ← hB1]; exact hX1, hF1⟩
  · refine r_aload_n dL_act_100 0 rfl ?_
    refine r_iload dL_act_101 5 rfl ?_
    refine r_iload dL_act_103 8 rfl ?_
    refine p_callV (As := [.int (iI k), .int (iI p)]) (b := x) (rest := []) (w := (some (.int (iI (fps (sAt S.2.2.1 k) p))))) (st' := [.int (iI (fps (sAt S.2.2.1 k) p))]) kv_L_act_122 dL_act_105 rfl rfl (Nat.le_of_ble_eq_true rfl) (Nat.le_of_ble_eq_true rfl) (xb_rv hX) rfl rfl (c_X11_foldsPossible_ok hGC hGT hGE hX hW (z := k) hzk hsk (q := p) (by unfold in32; omega) (fac_i (by omega))) rfl (fun hk17 e9k17 => ?_)
    rw [show hk17 = h from e9k17]
    have hf0 := fps_0 (s := (sAt S.2.2.1 k)) (q := p) (by omega)
    refine i_ifne dL_act_108 (tgt := 115) (by decide) (by unfold in32; omega) (fun c => (by exfalso; omega)) (fun _ => ?_)
    refine i_const (1) dL_act_111 ?_
    refine r_goto dL_act_112 (tgt := 116) (by decide) ?_
    refine r_ireturn rfl (b2_nar true) dL_act_116 ?_
    exact ⟨rfl, by rw [hA, if_pos (by omega)]; exact hX, FRp.rf⟩
set_option maxRecDepth 20000 in
set_option maxHeartbeats 4000000 in
theorem act_roll {G : xG} {h : xH} {K : xK} {sa : Nat → Nat} (hGC : GC G K sa) (hGT : GT G sa) (hGE : GE G) {x : Nat} {ad : XA} {S : XS} (hX : XB G h K x ad S) (hI : IV S) (hE : EB S.2.2.1) (hH : S.2.2.1.1.2.2.2.1 ≤ 9900) {v : Int32} {k p : Int} (hk : k = aK S.2.2.1 v) (hp : p = aP v) (c : ¬ (mst v 24 < 5 ∧ ((sAt S.2.2.1 k).1.length : Int) < 60)) (d : mst v 24 < 10) : RR G ML_act 272 [(0, .ref x), (1, .int v), (2, .int (iI (mst v 24))), (3, .int (aU v)), (4, .int (iI ((S.2.2.1.2.length : Int)))), (5, .int (iI k)), (6, .int (iI (((sAt S.2.2.1 k).1.length : Int)))), (7, .int (iI (b2 (sAt S.2.2.1 k).2.2.2.2.2.2))), (8, .int (iI p))] [] h (xm_R ML_act).cells (xm_R ML_act).slots (fun o' h' => o' = .inl (some (.int (iI 1))) ∧ XB G h' K x ad (updS S (actR S.2.2.1 v)) ∧ FRp (fpX x ad) h h') := by
  have hW := hI.1
  have hWB := hW.1
  have hC3 := hI.2.1
  have hlen := hX.len
  have hl6 := hlen.1
  have hn1 := hE.2
  have hm := hWB.2.2.1
  have hfl := hWB.2.2.2.1
  have hro := hWB.2.1
  have hho := hWB.2.2.2.2
  obtain ⟨hk0, hk1, hsk⟩ := aK_b hE v
  rw [← hk] at hk0 hk1 hsk
  have hp4 := aP_b v
  rw [← hp] at hp4
  have hzk : in32 k := by unfold in32; omega
  have hlk : (sAt S.2.2.1 k).1.length ≤ 200 := hlen.2 _ (getD_memS (hasS_n hsk).1)
  have hS := hWB.at hsk
  have hS1 := hS.1
  have hS3 := hS.2.2.1
  have hS4 := hS.2.2.2
  have hg1 := hgt_ge (sAt S.2.2.1 k).1 hS.2.1
  have hmw := mst_b v (m := 24) (by decide)
  have hlo := loss_b (m := S.2.2.1.1.2.1) hS4 (by omega)
  have hA := actR_1 hk hp c d
  have hhr := sumF_rt hp4 hlo.1 (sAt S.2.2.1 k).1
  have hbr := brk_le (f := p) (loss (sAt S.2.2.1 k) S.2.2.1.1.2.1) (sAt S.2.2.1 k).1
  have hnb := nBut_nn (sAt S.2.2.1 k).1
  have hesc := esc_le hlo.1 (sAt S.2.2.1 k).1
  have hbb := hBut_b (sAt S.2.2.1 k).1
  refine r_aload_n dL_act_272 0 rfl ?_
  refine r_iload dL_act_273 5 rfl ?_
  refine r_iload dL_act_275 8 rfl ?_
  refine p_callV (As := [.int (iI k), .int (iI p)]) (b := x) (rest := []) (w := (some (.int (iI (sumF (rt p (loss (sAt S.2.2.1 k) S.2.2.1.1.2.1)) (sAt S.2.2.1 k).1))))) (st' := [.int (iI (sumF (rt p (loss (sAt S.2.2.1 k) S.2.2.1.1.2.1)) (sAt S.2.2.1 k).1))]) kv_L_act_140 dL_act_277 rfl rfl (Nat.le_of_ble_eq_true rfl) (Nat.le_of_ble_eq_true rfl) (xb_rv hX) rfl rfl (c_X11_heightAfterRoll_ok hGC hGT hGE hX hW (z := k) hzk hsk (q := p) (by unfold in32; omega) (fac_i (by omega))) rfl (fun hk1 e9k1 => ?_)
  rw [show hk1 = h from e9k1]
  refine r_istore (ls' := [(0, .ref x), (1, .int v), (2, .int (iI (mst v 24))), (3, .int (aU v)), (4, .int (iI ((S.2.2.1.2.length : Int)))), (5, .int (iI k)), (6, .int (iI (((sAt S.2.2.1 k).1.length : Int)))), (7, .int (iI (b2 (sAt S.2.2.1 k).2.2.2.2.2.2))), (8, .int (iI p)), (9, .int (iI (sumF (rt p (loss (sAt S.2.2.1 k) S.2.2.1.1.2.1)) (sAt S.2.2.1 k).1)))]) dL_act_280 (by decide) rfl ?_
  refine r_aload_n dL_act_282 0 rfl ?_
  refine r_iload dL_act_283 5 rfl ?_
  refine p_callV (As := [.int (iI k)]) (b := x) (rest := []) (w := (some (.int (iI (sumF (escF (loss (sAt S.2.2.1 k) S.2.2.1.1.2.1)) (sAt S.2.2.1 k).1))))) (st' := [.int (iI (sumF (escF (loss (sAt S.2.2.1 k) S.2.2.1.1.2.1)) (sAt S.2.2.1 k).1))]) kv_L_act_85 dL_act_285 rfl rfl (Nat.le_of_ble_eq_true rfl) (Nat.le_of_ble_eq_true rfl) (xb_rv hX) rfl rfl (c_X11_butterAtRisk_ok hGC hGT hGE hX hW (z := k) hzk hsk) rfl (fun hk2 e9k2 => ?_)
  rw [show hk2 = h from e9k2]
  refine r_istore (ls' := [(0, .ref x), (1, .int v), (2, .int (iI (mst v 24))), (3, .int (aU v)), (4, .int (iI ((S.2.2.1.2.length : Int)))), (5, .int (iI k)), (6, .int (iI (((sAt S.2.2.1 k).1.length : Int)))), (7, .int (iI (b2 (sAt S.2.2.1 k).2.2.2.2.2.2))), (8, .int (iI p)), (9, .int (iI (sumF (rt p (loss (sAt S.2.2.1 k) S.2.2.1.1.2.1)) (sAt S.2.2.1 k).1))), (10, .int (iI (sumF (escF (loss (sAt S.2.2.1 k) S.2.2.1.1.2.1)) (sAt S.2.2.1 k).1)))]) dL_act_288 (by decide) rfl ?_
  refine r_aload_n dL_act_290 0 rfl ?_
  refine r_iload dL_act_291 5 rfl ?_
  refine r_iload dL_act_293 8 rfl ?_
  refine p_callV (As := [.int (iI k), .int (iI p)]) (b := x) (rest := []) (w := (some (.int (iI (sumF (brF p (loss (sAt S.2.2.1 k) S.2.2.1.1.2.1)) (sAt S.2.2.1 k).1))))) (st' := [.int (iI (sumF (brF p (loss (sAt S.2.2.1 k) S.2.2.1.1.2.1)) (sAt S.2.2.1 k).1))]) kv_L_act_125 dL_act_295 rfl rfl (Nat.le_of_ble_eq_true rfl) (Nat.le_of_ble_eq_true rfl) (xb_rv hX) rfl rfl (c_X11_layersAtRisk_ok hGC hGT hGE hX hW (z := k) hzk hsk (q := p) (by unfold in32; omega) (fac_i (by omega))) rfl (fun hk3 e9k3 => ?_)
  rw [show hk3 = h from e9k3]
  refine r_istore (ls' := [(0, .ref x), (1, .int v), (2, .int (iI (mst v 24))), (3, .int (aU v)), (4, .int (iI ((S.2.2.1.2.length : Int)))), (5, .int (iI k)), (6, .int (iI (((sAt S.2.2.1 k).1.length : Int)))), (7, .int (iI (b2 (sAt S.2.2.1 k).2.2.2.2.2.2))), (8, .int (iI p)), (9, .int (iI (sumF (rt p (loss (sAt S.2.2.1 k) S.2.2.1.1.2.1)) (sAt S.2.2.1 k).1))), (10, .int (iI (sumF (escF (loss (sAt S.2.2.1 k) S.2.2.1.1.2.1)) (sAt S.2.2.1 k).1))), (11, .int (iI (sumF (brF p (loss (sAt S.2.2.1 k) S.2.2.1.1.2.1)) (sAt S.2.2.1 k).1)))]) dL_act_298 (by decide) rfl ?_
  refine r_aload_n dL_act_300 0 rfl ?_
  refine p_callV (As := []) (b := x) (rest := []) (w := (some (.int (iI S.2.2.1.1.2.2.2.2.1)))) (st' := [.int (iI S.2.2.1.1.2.2.2.2.1)]) kv_L_act_43 dL_act_301 rfl rfl (Nat.le_of_ble_eq_true rfl) (Nat.le_of_ble_eq_true rfl) (xb_rv hX) rfl rfl (c_X11_escapedButter hGC hGT hGE hX hW) rfl (fun hk4 e9k4 => ?_)
  rw [show hk4 = h from e9k4]
  refine r_istore (ls' := [(0, .ref x), (1, .int v), (2, .int (iI (mst v 24))), (3, .int (aU v)), (4, .int (iI ((S.2.2.1.2.length : Int)))), (5, .int (iI k)), (6, .int (iI (((sAt S.2.2.1 k).1.length : Int)))), (7, .int (iI (b2 (sAt S.2.2.1 k).2.2.2.2.2.2))), (8, .int (iI p)), (9, .int (iI (sumF (rt p (loss (sAt S.2.2.1 k) S.2.2.1.1.2.1)) (sAt S.2.2.1 k).1))), (10, .int (iI (sumF (escF (loss (sAt S.2.2.1 k) S.2.2.1.1.2.1)) (sAt S.2.2.1 k).1))), (11, .int (iI (sumF (brF p (loss (sAt S.2.2.1 k) S.2.2.1.1.2.1)) (sAt S.2.2.1 k).1))), (12, .int (iI S.2.2.1.1.2.2.2.2.1))]) dL_act_304 (by decide) rfl ?_
  refine r_aload_n dL_act_306 0 rfl ?_
  refine p_callV (As := []) (b := x) (rest := []) (w := (some (.int (iI S.2.2.1.1.2.2.2.2.2)))) (st' := [.int (iI S.2.2.1.1.2.2.2.2.2)]) kv_L_act_46 dL_act_307 rfl rfl (Nat.le_of_ble_eq_true rfl) (Nat.le_of_ble_eq_true rfl) (xb_rv hX) rfl rfl (c_X11_brokenLayers hGC hGT hGE hX hW) rfl (fun hk5 e9k5 => ?_)
  rw [show hk5 = h from e9k5]
  refine r_istore (ls' := [(0, .ref x), (1, .int v), (2, .int (iI (mst v 24))), (3, .int (aU v)), (4, .int (iI ((S.2.2.1.2.length : Int)))), (5, .int (iI k)), (6, .int (iI (((sAt S.2.2.1 k).1.length : Int)))), (7, .int (iI (b2 (sAt S.2.2.1 k).2.2.2.2.2.2))), (8, .int (iI p)), (9, .int (iI (sumF (rt p (loss (sAt S.2.2.1 k) S.2.2.1.1.2.1)) (sAt S.2.2.1 k).1))), (10, .int (iI (sumF (escF (loss (sAt S.2.2.1 k) S.2.2.1.1.2.1)) (sAt S.2.2.1 k).1))), (11, .int (iI (sumF (brF p (loss (sAt S.2.2.1 k) S.2.2.1.1.2.1)) (sAt S.2.2.1 k).1))), (12, .int (iI S.2.2.1.1.2.2.2.2.1)), (13, .int (iI S.2.2.1.1.2.2.2.2.2))]) dL_act_310 (by decide) rfl ?_
  refine r_aload_n dL_act_312 0 rfl ?_
  refine r_iload dL_act_313 5 rfl ?_
  refine p_callV (As := [.int (iI k)]) (b := x) (rest := []) (w := (some (.int (iI (nBut (sAt S.2.2.1 k).1))))) (st' := [.int (iI (nBut (sAt S.2.2.1 k).1))]) kv_L_act_94 dL_act_315 rfl rfl (Nat.le_of_ble_eq_true rfl) (Nat.le_of_ble_eq_true rfl) (xb_rv hX) rfl rfl (c_X11_butterLayerCount_ok hGC hGT hGE hX hW (z := k) hzk hsk) rfl (fun hk6 e9k6 => ?_)
  rw [show hk6 = h from e9k6]
  refine r_istore (ls' := [(0, .ref x), (1, .int v), (2, .int (iI (mst v 24))), (3, .int (aU v)), (4, .int (iI ((S.2.2.1.2.length : Int)))), (5, .int (iI k)), (6, .int (iI (((sAt S.2.2.1 k).1.length : Int)))), (7, .int (iI (b2 (sAt S.2.2.1 k).2.2.2.2.2.2))), (8, .int (iI p)), (9, .int (iI (sumF (rt p (loss (sAt S.2.2.1 k) S.2.2.1.1.2.1)) (sAt S.2.2.1 k).1))), (10, .int (iI (sumF (escF (loss (sAt S.2.2.1 k) S.2.2.1.1.2.1)) (sAt S.2.2.1 k).1))), (11, .int (iI (sumF (brF p (loss (sAt S.2.2.1 k) S.2.2.1.1.2.1)) (sAt S.2.2.1 k).1))), (12, .int (iI S.2.2.1.1.2.2.2.2.1)), (13, .int (iI S.2.2.1.1.2.2.2.2.2)), (14, .int (iI (nBut (sAt S.2.2.1 k).1)))]) dL_act_318 (by decide) rfl ?_
  refine r_iload dL_act_320 7 rfl ?_
  refine i_ifneb dL_act_322 (tgt := 330) (by decide) (fun c322 => ?_) (fun c322 => ?_)
  · refine r_iload dL_act_330 9 rfl ?_
    refine i_iflt dL_act_332 (tgt := 339) (by decide) (by unfold in32; omega) (fun c => (by exfalso; omega)) (fun _ => ?_)
    refine i_const (1) dL_act_335 ?_
    refine r_goto dL_act_336 (tgt := 340) (by decide) ?_
    refine r_ireturn rfl (b2_nar true) dL_act_340 ?_
    exact ⟨rfl, by rw [hA, if_pos (Or.inl c322)]; exact hX, FRp.rf⟩
  · refine r_iload dL_act_325 9 rfl ?_
    refine i_ifne dL_act_327 (tgt := 341) (by decide) (by unfold in32; omega) (fun c327 => ?_) (fun c327 => ?_)
    · refine r_aload_n dL_act_341 0 rfl ?_
      refine r_iload dL_act_342 5 rfl ?_
      refine r_iload dL_act_344 8 rfl ?_
      have hr := R_roll hsk hp4 c322 c327
      have hL := L_roll hWB hsk hp4
      have hI9 := hI.chg (inp := S.1) (e := S.2.1) hI.1.2.2.2 (hWB.cmd hr) (CB_cmd hr hC3)
      obtain ⟨B1, hB1⟩ : ∃ B1, B1 = aCmd 1 S.2.2.1 k p := ⟨_, rfl⟩
      rw [← hB1] at hL hI9
      have hW1 : WX (S.1, S.2.1, B1, S.2.2.2.1, remH S.2.2.2.2.1 S.2.2.1, S.2.2.2.2.2) := hI9.1
      obtain ⟨hs1, l2, l3, l4, l5, l6, l7, l8⟩ := hL
      refine p_callV (As := [.int (iI k), .int (iI p)]) (b := x) (rest := []) (w := (some (.int (iI (vCmd 1 S.2.2.1 k p))))) (st' := [.int (iI (vCmd 1 S.2.2.1 k p))]) kv_L_act_143 dL_act_346 rfl rfl (Nat.le_of_ble_eq_true rfl) (Nat.le_of_ble_eq_true rfl) (xb_rv hX) rfl rfl (c_X11_roll_ok hGC hGT hGE hX hW hzk (q := p) (by unfold in32; omega) hr) rfl (fun hk7 e9k7 => ?_)
      obtain ⟨hX9, hF1⟩ := e9k7
      have hX1 : XB G hk7 K x ad (S.1, S.2.1, B1, S.2.2.2.1, remH S.2.2.2.2.1 S.2.2.1, S.2.2.2.2.2) := by rw [hB1]; exact hX9
      have hlen1 := hX1.len
      have hS9 : WS (sAt B1 k) := hI9.1.1.at hs1
      have hl1 : (sAt B1 k).1.length ≤ 200 := hlen1.2 _ (getD_memS (hasS_n hs1).1)
      have hg9 := hgt_nn (sAt B1 k).1
      have hg8 := hS9.2.2.1
      have hw8 := hS9.2.2.2
      have hnb1 := nBut_nn (sAt B1 k).1
      refine r_istore (ls' := [(0, .ref x), (1, .int v), (2, .int (iI (mst v 24))), (3, .int (aU v)), (4, .int (iI ((S.2.2.1.2.length : Int)))), (5, .int (iI k)), (6, .int (iI (((sAt S.2.2.1 k).1.length : Int)))), (7, .int (iI (b2 (sAt S.2.2.1 k).2.2.2.2.2.2))), (8, .int (iI p)), (9, .int (iI (sumF (rt p (loss (sAt S.2.2.1 k) S.2.2.1.1.2.1)) (sAt S.2.2.1 k).1))), (10, .int (iI (sumF (escF (loss (sAt S.2.2.1 k) S.2.2.1.1.2.1)) (sAt S.2.2.1 k).1))), (11, .int (iI (sumF (brF p (loss (sAt S.2.2.1 k) S.2.2.1.1.2.1)) (sAt S.2.2.1 k).1))), (12, .int (iI S.2.2.1.1.2.2.2.2.1)), (13, .int (iI S.2.2.1.1.2.2.2.2.2)), (14, .int (iI (nBut (sAt S.2.2.1 k).1))), (15, .int (iI (vCmd 1 S.2.2.1 k p)))]) dL_act_349 (by decide) rfl ?_
      refine r_iload dL_act_351 15 rfl ?_
      refine r_aload_n dL_act_353 0 rfl ?_
      refine r_iload dL_act_354 5 rfl ?_
      refine p_callV (As := [.int (iI k)]) (b := x) (rest := [.int (iI (vCmd 1 S.2.2.1 k p))]) (w := (some (.int (iI (((sAt B1 k).1.length : Int)))))) (st' := [.int (iI (((sAt B1 k).1.length : Int))), .int (iI (vCmd 1 S.2.2.1 k p))]) kv_L_act_33 dL_act_356 rfl rfl (Nat.le_of_ble_eq_true rfl) (Nat.le_of_ble_eq_true rfl) (xb_rv hX1) rfl rfl (c_X11_layerCount_ok hGC hGT hGE hX1 hW1 (z := k) hzk hs1) rfl (fun hk8 e9k8 => ?_)
      rw [show hk8 = hk7 from e9k8]
      refine i_icmpne dL_act_359 (tgt := 434) (by decide) (by unfold in32; omega) (by unfold in32; omega) (fun c => (by exfalso; omega)) (fun _ => ?_)
      refine r_iload dL_act_362 15 rfl ?_
      refine r_iload dL_act_364 6 rfl ?_
      refine r_iload dL_act_366 11 rfl ?_
      refine i_sub dL_act_368 ?_
      refine i_icmpgt dL_act_369 (tgt := 434) (by decide) (by unfold in32; omega) (by unfold in32; omega) (fun c => (by exfalso; omega)) (fun _ => ?_)
      refine r_aload_n dL_act_372 0 rfl ?_
      refine r_iload dL_act_373 5 rfl ?_
      refine p_callV (As := [.int (iI k)]) (b := x) (rest := []) (w := (some (.int (iI (hgt (sAt B1 k).1))))) (st' := [.int (iI (hgt (sAt B1 k).1))]) kv_L_act_88 dL_act_375 rfl rfl (Nat.le_of_ble_eq_true rfl) (Nat.le_of_ble_eq_true rfl) (xb_rv hX1) rfl rfl (c_X11_height_ok hGC hGT hGE hX1 hW1 (z := k) hzk hs1) rfl (fun hk9 e9k9 => ?_)
      rw [show hk9 = hk7 from e9k9]
      refine r_iload dL_act_378 9 rfl ?_
      refine i_icmpne dL_act_380 (tgt := 434) (by decide) (by unfold in32; omega) (by unfold in32; omega) (fun c => (by exfalso; omega)) (fun _ => ?_)
      refine r_aload_n dL_act_383 0 rfl ?_
      refine p_callV (As := []) (b := x) (rest := []) (w := (some (.int (iI B1.1.2.2.2.2.1)))) (st' := [.int (iI B1.1.2.2.2.2.1)]) kv_L_act_43 dL_act_384 rfl rfl (Nat.le_of_ble_eq_true rfl) (Nat.le_of_ble_eq_true rfl) (xb_rv hX1) rfl rfl (c_X11_escapedButter hGC hGT hGE hX1 hW1) rfl (fun hk10 e9k10 => ?_)
      rw [show hk10 = hk7 from e9k10]
      refine r_iload dL_act_387 12 rfl ?_
      refine r_iload dL_act_389 10 rfl ?_
      refine i_add dL_act_391 ?_
      refine r_icmpne dL_act_392 (tgt := 434) (by decide) (fun c => absurd (by rw [l5]) c) (fun _ => ?_)
      refine r_aload_n dL_act_395 0 rfl ?_
      refine p_callV (As := []) (b := x) (rest := []) (w := (some (.int (iI B1.1.2.2.2.2.2)))) (st' := [.int (iI B1.1.2.2.2.2.2)]) kv_L_act_46 dL_act_396 rfl rfl (Nat.le_of_ble_eq_true rfl) (Nat.le_of_ble_eq_true rfl) (xb_rv hX1) rfl rfl (c_X11_brokenLayers hGC hGT hGE hX1 hW1) rfl (fun hk11 e9k11 => ?_)
      rw [show hk11 = hk7 from e9k11]
      refine r_iload dL_act_399 13 rfl ?_
      refine r_iload dL_act_401 11 rfl ?_
      refine i_add dL_act_403 ?_
      refine r_icmpne dL_act_404 (tgt := 434) (by decide) (fun c => absurd (by rw [l6]) c) (fun _ => ?_)
      refine r_aload_n dL_act_407 0 rfl ?_
      refine r_iload dL_act_408 5 rfl ?_
      refine p_callV (As := [.int (iI k)]) (b := x) (rest := []) (w := (some (.int (iI (b2 (sAt B1 k).2.2.2.2.2.1))))) (st' := [.int (iI (b2 (sAt B1 k).2.2.2.2.2.1))]) kv_L_act_62 dL_act_410 rfl rfl (Nat.le_of_ble_eq_true rfl) (Nat.le_of_ble_eq_true rfl) (xb_rv hX1) rfl rfl (c_X11_isSealed_ok hGC hGT hGE hX1 hW1 (z := k) hzk hs1) rfl (fun hk12 e9k12 => ?_)
      rw [show hk12 = hk7 from e9k12]
      refine i_ifneb dL_act_413 (tgt := 434) (by decide) (fun c => absurd (c.symm.trans l7) (by decide)) (fun _ => ?_)
      refine r_aload_n dL_act_416 0 rfl ?_
      refine r_iload dL_act_417 5 rfl ?_
      refine p_callV (As := [.int (iI k)]) (b := x) (rest := []) (w := (some (.int (iI (nBut (sAt B1 k).1))))) (st' := [.int (iI (nBut (sAt B1 k).1))]) kv_L_act_94 dL_act_419 rfl rfl (Nat.le_of_ble_eq_true rfl) (Nat.le_of_ble_eq_true rfl) (xb_rv hX1) rfl rfl (c_X11_butterLayerCount_ok hGC hGT hGE hX1 hW1 (z := k) hzk hs1) rfl (fun hk13 e9k13 => ?_)
      rw [show hk13 = hk7 from e9k13]
      refine r_iload dL_act_422 14 rfl ?_
      refine r_iload dL_act_424 11 rfl ?_
      refine i_sub dL_act_426 ?_
      refine i_icmpgt dL_act_427 (tgt := 434) (by decide) (by unfold in32; omega) (by unfold in32; omega) (fun c => (by exfalso; omega)) (fun _ => ?_)
      refine i_const (1) dL_act_430 ?_
      refine r_goto dL_act_431 (tgt := 435) (by decide) ?_
      refine r_ireturn rfl (b2_nar true) dL_act_435 ?_
      exact ⟨rfl, by rw [hA, if_neg (by rw [c322]; simpa using c327), ← hB1]; exact hX1, hF1⟩
    · refine r_iload dL_act_330 9 rfl ?_
      refine i_iflt dL_act_332 (tgt := 339) (by decide) (by unfold in32; omega) (fun c => (by exfalso; omega)) (fun _ => ?_)
      refine i_const (1) dL_act_335 ?_
      refine r_goto dL_act_336 (tgt := 340) (by decide) ?_
      refine r_ireturn rfl (b2_nar true) dL_act_340 ?_
      exact ⟨rfl, by rw [hA, if_pos (Or.inr c327)]; exact hX, FRp.rf⟩
set_option maxRecDepth 20000 in
set_option maxHeartbeats 4000000 in
theorem act_dust {G : xG} {h : xH} {K : xK} {sa : Nat → Nat} (hGC : GC G K sa) (hGT : GT G sa) (hGE : GE G) {x : Nat} {ad : XA} {S : XS} (hX : XB G h K x ad S) (hI : IV S) (hE : EB S.2.2.1) (hH : S.2.2.1.1.2.2.2.1 ≤ 9900) {v : Int32} {k p : Int} (hk : k = aK S.2.2.1 v) (hp : p = aP v) (d : mst v 24 = 10) : RR G ML_act 442 [(0, .ref x), (1, .int v), (2, .int (iI (mst v 24))), (3, .int (aU v)), (4, .int (iI ((S.2.2.1.2.length : Int)))), (5, .int (iI k)), (6, .int (iI (((sAt S.2.2.1 k).1.length : Int)))), (7, .int (iI (b2 (sAt S.2.2.1 k).2.2.2.2.2.2))), (8, .int (iI p))] [] h (xm_R ML_act).cells (xm_R ML_act).slots (fun o' h' => o' = .inl (some (.int (iI 1))) ∧ XB G h' K x ad (updS S (actR S.2.2.1 v)) ∧ FRp (fpX x ad) h h') := by
  have hW := hI.1
  have hWB := hW.1
  have hC3 := hI.2.1
  have hlen := hX.len
  have hl6 := hlen.1
  have hn1 := hE.2
  have hm := hWB.2.2.1
  have hfl := hWB.2.2.2.1
  have hro := hWB.2.1
  have hho := hWB.2.2.2.2
  obtain ⟨hk0, hk1, hsk⟩ := aK_b hE v
  rw [← hk] at hk0 hk1 hsk
  have hp4 := aP_b v
  rw [← hp] at hp4
  have hzk : in32 k := by unfold in32; omega
  have hlk : (sAt S.2.2.1 k).1.length ≤ 200 := hlen.2 _ (getD_memS (hasS_n hsk).1)
  have hS := hWB.at hsk
  have hS1 := hS.1
  have hS3 := hS.2.2.1
  have hS4 := hS.2.2.2
  have hg1 := hgt_ge (sAt S.2.2.1 k).1 hS.2.1
  have hmw := mst_b v (m := 24) (by decide)
  have hlo := loss_b (m := S.2.2.1.1.2.1) hS4 (by omega)
  have hA := actR_2 hk d
  refine r_aload_n dL_act_442 0 rfl ?_
  refine p_callV (As := []) (b := x) (rest := []) (w := (some (.int (iI S.2.2.1.1.2.2.1)))) (st' := [.int (iI S.2.2.1.1.2.2.1)]) kv_L_act_37 dL_act_443 rfl rfl (Nat.le_of_ble_eq_true rfl) (Nat.le_of_ble_eq_true rfl) (xb_rv hX) rfl rfl (c_X11_flour hGC hGT hGE hX hW) rfl (fun hk1 e9k1 => ?_)
  rw [show hk1 = h from e9k1]
  refine r_istore (ls' := [(0, .ref x), (1, .int v), (2, .int (iI (mst v 24))), (3, .int (aU v)), (4, .int (iI ((S.2.2.1.2.length : Int)))), (5, .int (iI k)), (6, .int (iI (((sAt S.2.2.1 k).1.length : Int)))), (7, .int (iI (b2 (sAt S.2.2.1 k).2.2.2.2.2.2))), (8, .int (iI p)), (9, .int (iI S.2.2.1.1.2.2.1))]) dL_act_446 (by decide) rfl ?_
  refine r_iload dL_act_448 7 rfl ?_
  refine i_ifneb dL_act_450 (tgt := 489) (by decide) (fun c450 => ?_) (fun c450 => ?_)
  · refine i_const (1) dL_act_489 ?_
    refine r_goto dL_act_490 (tgt := 494) (by decide) ?_
    refine r_ireturn rfl (b2_nar true) dL_act_494 ?_
    exact ⟨rfl, by rw [hA, if_pos (Or.inl c450)]; exact hX, FRp.rf⟩
  · refine r_aload_n dL_act_453 0 rfl ?_
    refine r_iload dL_act_454 5 rfl ?_
    refine p_callV (As := [.int (iI k)]) (b := x) (rest := []) (w := (some (.int (iI (b2 (sAt S.2.2.1 k).2.2.2.2.1))))) (st' := [.int (iI (b2 (sAt S.2.2.1 k).2.2.2.2.1))]) kv_L_act_58 dL_act_456 rfl rfl (Nat.le_of_ble_eq_true rfl) (Nat.le_of_ble_eq_true rfl) (xb_rv hX) rfl rfl (c_X11_isDusted_ok hGC hGT hGE hX hW (z := k) hzk hsk) rfl (fun hk2 e9k2 => ?_)
    rw [show hk2 = h from e9k2]
    refine i_ifneb dL_act_459 (tgt := 489) (by decide) (fun c459 => ?_) (fun c459 => ?_)
    · refine i_const (1) dL_act_489 ?_
      refine r_goto dL_act_490 (tgt := 494) (by decide) ?_
      refine r_ireturn rfl (b2_nar true) dL_act_494 ?_
      exact ⟨rfl, by rw [hA, if_pos (Or.inr (Or.inl c459))]; exact hX, FRp.rf⟩
    · refine r_iload dL_act_462 9 rfl ?_
      refine i_ifeq dL_act_464 (tgt := 489) (by decide) (by unfold in32; omega) (fun c464 => ?_) (fun c464 => ?_)
      · refine i_const (1) dL_act_489 ?_
        refine r_goto dL_act_490 (tgt := 494) (by decide) ?_
        refine r_ireturn rfl (b2_nar true) dL_act_494 ?_
        exact ⟨rfl, by rw [hA, if_pos (Or.inr (Or.inr c464))]; exact hX, FRp.rf⟩
      · refine r_aload_n dL_act_467 0 rfl ?_
        refine r_iload dL_act_468 5 rfl ?_
        have hr := R_dust hsk c450 c459 (by omega)
        have hL := L_dust hsk
        have hI9 := hI.chg (inp := S.1) (e := S.2.1) hI.1.2.2.2 (hWB.cmd hr) (CB_cmd hr hC3)
        obtain ⟨B1, hB1⟩ : ∃ B1, B1 = aCmd 2 S.2.2.1 k 0 := ⟨_, rfl⟩
        rw [← hB1] at hL hI9
        have hW1 : WX (S.1, S.2.1, B1, S.2.2.2.1, remH S.2.2.2.2.1 S.2.2.1, S.2.2.2.2.2) := hI9.1
        obtain ⟨hs1, l2, l3⟩ := hL
        refine p_callV (As := [.int (iI k)]) (b := x) (rest := []) (w := (some (.int (iI (vCmd 2 S.2.2.1 k 0))))) (st' := [.int (iI (vCmd 2 S.2.2.1 k 0))]) kv_L_act_146 dL_act_470 rfl rfl (Nat.le_of_ble_eq_true rfl) (Nat.le_of_ble_eq_true rfl) (xb_rv hX) rfl rfl (c_X11_dust_ok hGC hGT hGE hX hW hzk hr) rfl (fun hk3 e9k3 => ?_)
        obtain ⟨hX9, hF1⟩ := e9k3
        have hX1 : XB G hk3 K x ad (S.1, S.2.1, B1, S.2.2.2.1, remH S.2.2.2.2.1 S.2.2.1, S.2.2.2.2.2) := by rw [hB1]; exact hX9
        refine r_iload dL_act_473 9 rfl ?_
        refine i_const (1) dL_act_475 ?_
        refine i_sub dL_act_476 ?_
        refine i_icmpne dL_act_477 (tgt := 493) (by decide) (by unfold in32; omega) (by unfold in32; omega) (fun c => (by exfalso; omega)) (fun _ => ?_)
        refine r_aload_n dL_act_480 0 rfl ?_
        refine r_iload dL_act_481 5 rfl ?_
        refine p_callV (As := [.int (iI k)]) (b := x) (rest := []) (w := (some (.int (iI (b2 (sAt B1 k).2.2.2.2.1))))) (st' := [.int (iI (b2 (sAt B1 k).2.2.2.2.1))]) kv_L_act_58 dL_act_483 rfl rfl (Nat.le_of_ble_eq_true rfl) (Nat.le_of_ble_eq_true rfl) (xb_rv hX1) rfl rfl (c_X11_isDusted_ok hGC hGT hGE hX1 hW1 (z := k) hzk hs1) rfl (fun hk4 e9k4 => ?_)
        rw [show hk4 = hk3 from e9k4]
        refine i_ifeqb dL_act_486 (tgt := 493) (by decide) (fun c => absurd (c.symm.trans l3) (by decide)) (fun _ => ?_)
        refine i_const (1) dL_act_489 ?_
        refine r_goto dL_act_490 (tgt := 494) (by decide) ?_
        refine r_ireturn rfl (b2_nar true) dL_act_494 ?_
        exact ⟨rfl, by rw [hA, if_neg (by rw [c450, c459]; simpa using c464), ← hB1]; exact hX1, hF1⟩
set_option maxRecDepth 20000 in
set_option maxHeartbeats 4000000 in
theorem act_seal {G : xG} {h : xH} {K : xK} {sa : Nat → Nat} (hGC : GC G K sa) (hGT : GT G sa) (hGE : GE G) {x : Nat} {ad : XA} {S : XS} (hX : XB G h K x ad S) (hI : IV S) (hE : EB S.2.2.1) (hH : S.2.2.1.1.2.2.2.1 ≤ 9900) {v : Int32} {k p : Int} (hk : k = aK S.2.2.1 v) (hp : p = aP v) (d : mst v 24 = 11) : RR G ML_act 501 [(0, .ref x), (1, .int v), (2, .int (iI (mst v 24))), (3, .int (aU v)), (4, .int (iI ((S.2.2.1.2.length : Int)))), (5, .int (iI k)), (6, .int (iI (((sAt S.2.2.1 k).1.length : Int)))), (7, .int (iI (b2 (sAt S.2.2.1 k).2.2.2.2.2.2))), (8, .int (iI p))] [] h (xm_R ML_act).cells (xm_R ML_act).slots (fun o' h' => o' = .inl (some (.int (iI 1))) ∧ XB G h' K x ad (updS S (actR S.2.2.1 v)) ∧ FRp (fpX x ad) h h') := by
  have hW := hI.1
  have hWB := hW.1
  have hC3 := hI.2.1
  have hlen := hX.len
  have hl6 := hlen.1
  have hn1 := hE.2
  have hm := hWB.2.2.1
  have hfl := hWB.2.2.2.1
  have hro := hWB.2.1
  have hho := hWB.2.2.2.2
  obtain ⟨hk0, hk1, hsk⟩ := aK_b hE v
  rw [← hk] at hk0 hk1 hsk
  have hp4 := aP_b v
  rw [← hp] at hp4
  have hzk : in32 k := by unfold in32; omega
  have hlk : (sAt S.2.2.1 k).1.length ≤ 200 := hlen.2 _ (getD_memS (hasS_n hsk).1)
  have hS := hWB.at hsk
  have hS1 := hS.1
  have hS3 := hS.2.2.1
  have hS4 := hS.2.2.2
  have hg1 := hgt_ge (sAt S.2.2.1 k).1 hS.2.1
  have hmw := mst_b v (m := 24) (by decide)
  have hlo := loss_b (m := S.2.2.1.1.2.1) hS4 (by omega)
  have hA := actR_3 hk d
  refine r_iload dL_act_501 7 rfl ?_
  refine i_ifneb dL_act_503 (tgt := 542) (by decide) (fun c503 => ?_) (fun c503 => ?_)
  · refine i_const (1) dL_act_542 ?_
    refine r_goto dL_act_543 (tgt := 547) (by decide) ?_
    refine r_ireturn rfl (b2_nar true) dL_act_547 ?_
    exact ⟨rfl, by rw [hA, if_pos (Or.inl c503)]; exact hX, FRp.rf⟩
  · refine r_aload_n dL_act_506 0 rfl ?_
    refine r_iload dL_act_507 5 rfl ?_
    refine p_callV (As := [.int (iI k)]) (b := x) (rest := []) (w := (some (.int (iI (b2 (sAt S.2.2.1 k).2.2.2.2.2.1))))) (st' := [.int (iI (b2 (sAt S.2.2.1 k).2.2.2.2.2.1))]) kv_L_act_62 dL_act_509 rfl rfl (Nat.le_of_ble_eq_true rfl) (Nat.le_of_ble_eq_true rfl) (xb_rv hX) rfl rfl (c_X11_isSealed_ok hGC hGT hGE hX hW (z := k) hzk hsk) rfl (fun hk1 e9k1 => ?_)
    rw [show hk1 = h from e9k1]
    refine i_ifneb dL_act_512 (tgt := 542) (by decide) (fun c512 => ?_) (fun c512 => ?_)
    · refine i_const (1) dL_act_542 ?_
      refine r_goto dL_act_543 (tgt := 547) (by decide) ?_
      refine r_ireturn rfl (b2_nar true) dL_act_547 ?_
      exact ⟨rfl, by rw [hA, if_pos (Or.inr c512)]; exact hX, FRp.rf⟩
    · refine r_aload_n dL_act_515 0 rfl ?_
      refine r_iload dL_act_516 5 rfl ?_
      have hr := R_seal hsk c503 c512
      have hL := L_seal hsk
      have hI9 := hI.chg (inp := S.1) (e := S.2.1) hI.1.2.2.2 (hWB.cmd hr) (CB_cmd hr hC3)
      obtain ⟨B1, hB1⟩ : ∃ B1, B1 = aCmd 3 S.2.2.1 k 0 := ⟨_, rfl⟩
      rw [← hB1] at hL hI9
      have hW1 : WX (S.1, S.2.1, B1, S.2.2.2.1, remH S.2.2.2.2.1 S.2.2.1, S.2.2.2.2.2) := hI9.1
      obtain ⟨hs1, l2, l3, l4⟩ := hL
      have hv3 := V3_le S.2.2.1 k
      refine p_callV (As := [.int (iI k)]) (b := x) (rest := []) (w := (some (.int (iI (vCmd 3 S.2.2.1 k 0))))) (st' := [.int (iI (vCmd 3 S.2.2.1 k 0))]) kv_L_act_149 dL_act_518 rfl rfl (Nat.le_of_ble_eq_true rfl) (Nat.le_of_ble_eq_true rfl) (xb_rv hX) rfl rfl (c_X11_seal_ok hGC hGT hGE hX hW hzk hr) rfl (fun hk2 e9k2 => ?_)
      obtain ⟨hX9, hF1⟩ := e9k2
      have hX1 : XB G hk2 K x ad (S.1, S.2.1, B1, S.2.2.2.1, remH S.2.2.2.2.1 S.2.2.1, S.2.2.2.2.2) := by rw [hB1]; exact hX9
      refine i_ifle dL_act_521 (tgt := 546) (by decide) (by unfold in32; omega) (fun c => (by exfalso; omega)) (fun _ => ?_)
      refine r_aload_n dL_act_524 0 rfl ?_
      refine r_iload dL_act_525 5 rfl ?_
      refine p_callV (As := [.int (iI k)]) (b := x) (rest := []) (w := (some (.int (iI (b2 (sAt B1 k).2.2.2.2.2.1))))) (st' := [.int (iI (b2 (sAt B1 k).2.2.2.2.2.1))]) kv_L_act_62 dL_act_527 rfl rfl (Nat.le_of_ble_eq_true rfl) (Nat.le_of_ble_eq_true rfl) (xb_rv hX1) rfl rfl (c_X11_isSealed_ok hGC hGT hGE hX1 hW1 (z := k) hzk hs1) rfl (fun hk3 e9k3 => ?_)
      rw [show hk3 = hk2 from e9k3]
      refine i_ifeqb dL_act_530 (tgt := 546) (by decide) (fun c => absurd (c.symm.trans l3) (by decide)) (fun _ => ?_)
      refine r_aload_n dL_act_533 0 rfl ?_
      refine r_iload dL_act_534 5 rfl ?_
      refine p_callV (As := [.int (iI k)]) (b := x) (rest := []) (w := (some (.int (iI (sumF (escF (loss (sAt B1 k) B1.1.2.1)) (sAt B1 k).1))))) (st' := [.int (iI (sumF (escF (loss (sAt B1 k) B1.1.2.1)) (sAt B1 k).1))]) kv_L_act_85 dL_act_536 rfl rfl (Nat.le_of_ble_eq_true rfl) (Nat.le_of_ble_eq_true rfl) (xb_rv hX1) rfl rfl (c_X11_butterAtRisk_ok hGC hGT hGE hX1 hW1 (z := k) hzk hs1) rfl (fun hk4 e9k4 => ?_)
      rw [show hk4 = hk2 from e9k4]
      refine i_ifne dL_act_539 (tgt := 546) (by decide) (by unfold in32; omega) (fun c => (by exfalso; omega)) (fun _ => ?_)
      refine i_const (1) dL_act_542 ?_
      refine r_goto dL_act_543 (tgt := 547) (by decide) ?_
      refine r_ireturn rfl (b2_nar true) dL_act_547 ?_
      exact ⟨rfl, by rw [hA, if_neg (by rw [c503, c512]; simp), ← hB1]; exact hX1, hF1⟩
