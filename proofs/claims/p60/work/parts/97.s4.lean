/-! ===== the law: its beginning ===== -/
set_option maxRecDepth 20000 in
set_option maxHeartbeats 1000000 in
theorem law_say {G : xG} {K : xK} {sa : Nat → Nat} (hGC : GC G K sa) (hGT : GT G sa) (hGE : GE G) {ta : Nat → Nat} (hGTL : GTL G ta) (hGN : GN G) (hGB : GB G) {b L : Nat} {zs : Nat → Int} (hXs : x_zz G (fun _ U H => va_X b L (fun j => iI (zs j)) U H)) (hb : b < G.2.2.2) (hL : L ≤ 260) {x w o : Nat} {ad : XA} {h : xH} (hB : BST G h K x ad w o (txK zs L (nSh zs L))) : RR G ML_law 232 [(0, .ref b), (1, .ref x), (2, .ref w), (3, .int (iI (cel zs L 0))), (4, .ref o), (5, .int (iI ((nSh zs L : Int)))), (6, .int (iI ((nSh zs L : Int))))] [] h 220 220000 (fun o9 _ => o9 = .inl (some (.int (iI 1)))) := by
  have hn := nSh_b zs L
  have hl := txK_l zs L (nSh zs L)
  have hb7 : B7 ([] : List Int) := fun i => by rw [getD_out (by simp)]; omega
  have hb7t : B7 (txK zs L (nSh zs L)) := by have z := hb7.app2 (A7.tx zs L (nSh zs L)).getD; rw [List.nil_append] at z; exact z
  refine r_aload_n dL_law_232 1 rfl ?_
  refine r_aload_n dL_law_233 2 rfl ?_
  refine r_aload dL_law_234 4 rfl ?_
  refine q_callV9 (c1 := 2) (c2 := 1004) (kc' := 200) (ks' := 200000) (As := []) (b := o) (rest := [.ref w, .ref x]) kv_L_law_198 dL_law_236 rfl rfl (Nat.le_of_ble_eq_true rfl) (Nat.le_of_ble_eq_true rfl) hB.rv rfl rfl (by omega) (by omega) (k_tos hB hGT.1 hGB (by omega) (A7.tx zs L _)) (fun s hk1 e9k1 => ?_)
  obtain ⟨hWk1, q, g, hS9, hnn⟩ := e9k1
  refine p_callS (As := [.ref x, .ref w, .ref s]) (rest := []) (w := none) (st' := []) kv_L_law_202 dL_law_239 rfl rfl (Nat.le_of_ble_eq_true rfl) (Nat.le_of_ble_eq_true rfl) rfl rfl (c_L_say hGC hGT hGE hWk1.1.1 IV.s00.1 rfl hWk1.2.1 hb7 hS9 hGT.1 (by show 0 + _ ≤ 470; omega) hWk1.2.2 hnn) rfl (fun hk2 e9k2 => ?_)
  obtain ⟨hX1, hw1, hF1⟩ := e9k2
  have eT : ([] : List Int) ++ txK zs L (nSh zs L) = txK zs L (nSh zs L) := List.nil_append _
  rw [eT] at hX1 hw1
  refine r_aload_n dL_law_242 1 rfl ?_
  refine r_aload_n dL_law_243 1 rfl ?_
  refine r_aload_n dL_law_244 2 rfl ?_
  refine p_callS (As := [.ref x, .ref w]) (rest := [.ref x]) (w := (some (.int (iI (((txK zs L (nSh zs L)).length : Int)))))) (st' := [.int (iI (((txK zs L (nSh zs L)).length : Int))), .ref x]) kv_L_law_206 dL_law_245 rfl rfl (Nat.le_of_ble_eq_true rfl) (Nat.le_of_ble_eq_true rfl) rfl rfl (c_L_end hGC hGT hGE (S := (inpU (txK zs L (nSh zs L)), S00.2)) hX1 IV.s00.inp.1 rfl hw1 hb7t (by omega) hWk1.2.2) rfl (fun hk3 e9k3 => ?_)
  obtain ⟨hX2, -, hF2⟩ := e9k3
  refine p_callV (As := [.int (iI (((txK zs L (nSh zs L)).length : Int)))]) (b := x) (rest := []) (w := (some (.int (iI (((B1L zs L).2.length : Int)))))) (st' := [.int (iI (((B1L zs L).2.length : Int)))]) kv_L_law_210 dL_law_248 rfl rfl (Nat.le_of_ble_eq_true rfl) (Nat.le_of_ble_eq_true rfl) (xb_rv hX2) rfl rfl (c_X11_loadBench_ok hGC hGT hGE (S := (txK zs L (nSh zs L) ++ List.replicate (padU (txK zs L (nSh zs L))) 32, S00.2)) hX2 IV.s00.inp.1 (n := (txK zs L (nSh zs L)).length) (by show _ ≤ (txK zs L (nSh zs L) ++ _).length; rw [List.length_append]; omega) (B1 := B1L zs L) (by show ldB ((txK zs L (nSh zs L) ++ _).take _) = _; rw [List.take_left]; exact tx_load zs L)) rfl (fun hk4 e9k4 => ?_)
  obtain ⟨hX3, hF3⟩ := e9k4
  rw [B1_len]
  have hI3 : IV ([], (0, -1), B1L zs L, none, [], (txK zs L (nSh zs L) ++ List.replicate (padU (txK zs L (nSh zs L))) 32, S00.2).2.2.2.2.2) := IV.load (S := (txK zs L (nSh zs L) ++ List.replicate (padU (txK zs L (nSh zs L))) 32, S00.2)) IV.s00.inp (ldB_k (tx_load zs L))
  refine r_iload dL_law_251 5 rfl ?_
  refine i_icmpne dL_law_253 (tgt := 263) (by decide) (by unfold in32; omega) (by unfold in32; omega) (fun c => (by exfalso; omega)) (fun _ => ?_)
  refine r_aload_n dL_law_256 1 rfl ?_
  refine p_callV (As := []) (b := x) (rest := []) (w := (some (.int (iI 0)))) (st' := [.int (iI 0)]) kv_L_law_213 dL_law_257 rfl rfl (Nat.le_of_ble_eq_true rfl) (Nat.le_of_ble_eq_true rfl) (xb_rv hX3) rfl rfl (c_X11_undoableCount hGC hGT hGE hX3 hI3.1) rfl (fun hk5 e9k5 => ?_)
  rw [show hk5 = hk4 from e9k5]
  refine i_ifeq dL_law_260 (tgt := 265) (by decide) ⟨by decide, by decide⟩ (fun _ => ?_) (fun c => absurd c (by decide))
  refine i_const (0) dL_law_265 ?_
  refine r_istore (ls' := [(0, .ref b), (1, .ref x), (2, .ref w), (3, .int (iI (cel zs L 0))), (4, .ref o), (5, .int (iI ((nSh zs L : Int)))), (6, .int (iI 0))]) dL_law_266 (by decide) rfl ?_
  refine rr_room (law_32 hGC hGT hGE hXs hb hL 0 (Nat.zero_le _) hk4 _ ⟨hX3, hI3, B1_E zs L, Int.le_refl _, ?_⟩) (by omega) (by omega)
  intro y hy
  rw [hF3.1, hF2.1, hF1.1]; exact hWk1.1.2 y hy
set_option maxRecDepth 20000 in
set_option maxHeartbeats 1000000 in
theorem law_ly {G : xG} {K : xK} {sa : Nat → Nat} (hGC : GC G K sa) (hGT : GT G sa) (hGE : GE G) {ta : Nat → Nat} (hGTL : GTL G ta) (hGN : GN G) (hGB : GB G) {b L : Nat} {zs : Nat → Int} (hXs : x_zz G (fun _ U H => va_X b L (fun j => iI (zs j)) U H)) (hb : b < G.2.2.2) (hL : L ≤ 260) {x w o : Nat} {ad : XA} {k : Nat} (hk : k < 4) (ihk : ∀ h : xH, BST G h K x ad w o (txK zs L (k + 1)) → RR G ML_law 92 [(0, .ref b), (1, .ref x), (2, .ref w), (3, .int (iI (cel zs L 0))), (4, .ref o), (5, .int (iI ((nSh zs L : Int)))), (6, .int (iI (((k + 1 : Nat) : Int))))] [] h (20 * (5 - (k + 1 : Nat)) + 200) (20000 * (5 - (k + 1 : Nat)) + 200000) (fun o9 _ => o9 = .inl (some (.int (iI 1))))) : ∀ i : Nat, i ≤ lyN zs L k → ∀ h : xH, BST G h K x ad w o (txI zs L k i) → RR G ML_law 145 [(0, .ref b), (1, .ref x), (2, .ref w), (3, .int (iI (cel zs L 0))), (4, .ref o), (5, .int (iI ((nSh zs L : Int)))), (6, .int (iI ((k : Int)))), (7, .int (iI ((lyN zs L k : Int)))), (8, .int (iI ((i : Int))))] [] h (20 * (4 - k) + 2 * (7 - i) + 202) (20000 * (4 - k) + 2000 * (7 - i) + 202000) (fun o9 _ => o9 = .inl (some (.int (iI 1)))) := by
  have hly := lyN_b zs L k
  have hlk := txK_l zs L k
  refine down (fun i hi ih => ?_)
  intro h hB
  have hli := txI_l zs L k i
  have hm2 := mst_b (iI (cel zs L (6 + i + 3 * k))) (m := 2) (by decide)
  have hm60 := mst_b ((iI (cel zs L (6 + i + 3 * k))) >>> ((iI 2) &&& 31)) (m := 60) (by decide)
  by_cases cin : i < lyN zs L k
  · refine r_iload dL_law_145 8 rfl ?_
    refine r_iload dL_law_147 7 rfl ?_
    refine i_icmpge dL_law_149 (tgt := 218) (by decide) (by unfold in32; omega) (by unfold in32; omega) (fun c => (by exfalso; omega)) (fun _ => ?_)
    refine r_aload dL_law_152 4 rfl ?_
    refine r_aload_n dL_law_154 0 rfl ?_
    refine i_bipush (6) (by decide) dL_law_155 ?_
    refine r_iload dL_law_157 8 rfl ?_
    refine i_add dL_law_159 ?_
    refine i_const (3) dL_law_160 ?_
    refine r_iload dL_law_161 6 rfl ?_
    refine i_mul dL_law_163 ?_
    refine i_add dL_law_164 ?_
    rw [show (6 : Int) + (i : Int) + 3 * (k : Int) = ((6 + i + 3 * k : Nat) : Int) by push_cast; rfl]
    refine p_callS (As := [.ref b, .int (iI (((6 + i + 3 * k : Nat) : Int)))]) (rest := [.ref o]) (w := (some (.int (iI (cel zs L (6 + i + 3 * k)))))) (st' := [.int (iI (cel zs L (6 + i + 3 * k))), .ref o]) kv_L_law_171 dL_law_165 rfl rfl (Nat.le_of_ble_eq_true rfl) (Nat.le_of_ble_eq_true rfl) rfl rfl (c_L_cell hXs hb hL (k := 6 + i + 3 * k) (by omega)) rfl (fun hk1 e9k1 => ?_)
    rw [show hk1 = h from e9k1]
    refine i_const (2) dL_law_168 ?_
    refine p_callS (As := [.int (iI (cel zs L (6 + i + 3 * k))), .int (iI 2)]) (rest := [.ref o]) (w := (some (.int (iI (mst (iI (cel zs L (6 + i + 3 * k))) 2))))) (st' := [.int (iI (mst (iI (cel zs L (6 + i + 3 * k))) 2)), .ref o]) kv_L_law_128 dL_law_169 rfl rfl (Nat.le_of_ble_eq_true rfl) (Nat.le_of_ble_eq_true rfl) rfl rfl (c_L_most (by omega)) rfl (fun hk2 e9k2 => ?_)
    rw [show hk2 = h from e9k2]
    refine i_ifne dL_law_172 (tgt := 180) (by decide) (by unfold in32; omega) (fun c172 => ?_) (fun c172 => ?_)
    · refine r_ldcS (hGTL.2 (ldcL.getD 3 default) (List.mem_of_getElem? (i := 3) rfl)) rfl dL_law_180 ?_
      refine k_callV9 (c1 := 1) (c2 := 1000) (kc' := (20 * (4 - k) + 2 * (7 - i) + 202 - 1)) (ks' := (20000 * (4 - k) + 2000 * (7 - i) + 202000 - 1000)) (As := [.ref ((ta 3))]) (b := o) (rest := []) (w := (some (.ref o))) (st' := [.ref o]) kv_L_law_191 dL_law_182 rfl rfl (Nat.le_of_ble_eq_true rfl) (Nat.le_of_ble_eq_true rfl) hB.rv rfl rfl (by omega) (by omega) (k_str hB hGT.1 (hGTL.1 3 (by decide)) (by show (txI zs L k i).length + (wBut).length ≤ 320; first | omega | (simp only [List.length_append, List.length_cons, List.length_nil, show wBen.length = 6 from rfl, show wShe.length = 6 from rfl, show wDou.length = 7 from rfl, show wBut.length = 8 from rfl]; omega))) rfl (fun hk3 Bk3 => ?_)
      have Bk3 : BST G hk3 K x ad w o (txI zs L k i ++ wBut) := Bk3
      refine i_const (1) dL_law_185 ?_
      refine r_aload_n dL_law_186 0 rfl ?_
      refine i_bipush (6) (by decide) dL_law_187 ?_
      refine r_iload dL_law_189 8 rfl ?_
      refine i_add dL_law_191 ?_
      refine i_const (3) dL_law_192 ?_
      refine r_iload dL_law_193 6 rfl ?_
      refine i_mul dL_law_195 ?_
      refine i_add dL_law_196 ?_
      rw [show (6 : Int) + (i : Int) + 3 * (k : Int) = ((6 + i + 3 * k : Nat) : Int) by push_cast; rfl]
      refine p_callS (As := [.ref b, .int (iI (((6 + i + 3 * k : Nat) : Int)))]) (rest := [.int (iI 1), .ref o]) (w := (some (.int (iI (cel zs L (6 + i + 3 * k)))))) (st' := [.int (iI (cel zs L (6 + i + 3 * k))), .int (iI 1), .ref o]) kv_L_law_171 dL_law_197 rfl rfl (Nat.le_of_ble_eq_true rfl) (Nat.le_of_ble_eq_true rfl) rfl rfl (c_L_cell hXs hb hL (k := 6 + i + 3 * k) (by omega)) rfl (fun hk4 e9k4 => ?_)
      rw [show hk4 = hk3 from e9k4]
      refine i_const (2) dL_law_200 ?_
      refine r_ishr dL_law_201 ?_
      refine i_bipush (60) (by decide) dL_law_202 ?_
      refine p_callS (As := [.int ((iI (cel zs L (6 + i + 3 * k))) >>> ((iI 2) &&& 31)), .int (iI 60)]) (rest := [.int (iI 1), .ref o]) (w := (some (.int (iI (mst ((iI (cel zs L (6 + i + 3 * k))) >>> ((iI 2) &&& 31)) 60))))) (st' := [.int (iI (mst ((iI (cel zs L (6 + i + 3 * k))) >>> ((iI 2) &&& 31)) 60)), .int (iI 1), .ref o]) kv_L_law_128 dL_law_204 rfl rfl (Nat.le_of_ble_eq_true rfl) (Nat.le_of_ble_eq_true rfl) rfl rfl (c_L_most (by omega)) rfl (fun hk5 e9k5 => ?_)
      rw [show hk5 = hk3 from e9k5]
      refine i_add dL_law_207 ?_
      refine k_callV9 (c1 := 1) (c2 := 1000) (kc' := (20 * (4 - k) + 2 * (7 - i) + 202 - 2)) (ks' := (20000 * (4 - k) + 2000 * (7 - i) + 202000 - 2000)) (As := [.int (iI (1 + (mst ((iI (cel zs L (6 + i + 3 * k))) >>> ((iI 2) &&& 31)) 60)))]) (b := o) (rest := []) (w := (some (.ref o))) (st' := [.ref o]) kv_L_law_182 dL_law_208 rfl rfl (Nat.le_of_ble_eq_true rfl) (Nat.le_of_ble_eq_true rfl) Bk3.rv rfl rfl (by omega) (by omega) (k_int Bk3 hGT.1 hGN (by omega) (by first | omega | (simp only [List.length_append, List.length_cons, List.length_nil, show wBen.length = 6 from rfl, show wShe.length = 6 from rfl, show wDou.length = 7 from rfl, show wBut.length = 8 from rfl]; omega))) rfl (fun hk6 Bk6 => ?_)
      have Bk6 : BST G hk6 K x ad w o (txI zs L k i ++ wBut ++ dg (1 + (mst ((iI (cel zs L (6 + i + 3 * k))) >>> ((iI 2) &&& 31)) 60))) := Bk6
      refine r_pop dL_law_211 rfl ?_
      refine i_iinc (ls' := [(0, .ref b), (1, .ref x), (2, .ref w), (3, .int (iI (cel zs L 0))), (4, .ref o), (5, .int (iI ((nSh zs L : Int)))), (6, .int (iI ((k : Int)))), (7, .int (iI ((lyN zs L k : Int)))), (8, .int (iI ((i : Int) + 1)))]) (1) (v := (i : Int) + 1) dL_law_212 8 rfl (by omega) (by decide) rfl ?_
      refine r_goto dL_law_215 (tgt := 145) (by decide) ?_
      rw [lyT_t c172] at Bk6
      refine rr_room (ih (i + 1) (by omega) (by omega) hk6 Bk6) (by omega) (by omega)
    · refine r_ldcS (hGTL.2 (ldcL.getD 2 default) (List.mem_of_getElem? (i := 2) rfl)) rfl dL_law_175 ?_
      refine r_goto dL_law_177 (tgt := 182) (by decide) ?_
      refine k_callV9 (c1 := 1) (c2 := 1000) (kc' := (20 * (4 - k) + 2 * (7 - i) + 202 - 1)) (ks' := (20000 * (4 - k) + 2000 * (7 - i) + 202000 - 1000)) (As := [.ref ((ta 2))]) (b := o) (rest := []) (w := (some (.ref o))) (st' := [.ref o]) kv_L_law_191 dL_law_182 rfl rfl (Nat.le_of_ble_eq_true rfl) (Nat.le_of_ble_eq_true rfl) hB.rv rfl rfl (by omega) (by omega) (k_str hB hGT.1 (hGTL.1 2 (by decide)) (by show (txI zs L k i).length + (wDou).length ≤ 320; first | omega | (simp only [List.length_append, List.length_cons, List.length_nil, show wBen.length = 6 from rfl, show wShe.length = 6 from rfl, show wDou.length = 7 from rfl, show wBut.length = 8 from rfl]; omega))) rfl (fun hk7 Bk7 => ?_)
      have Bk7 : BST G hk7 K x ad w o (txI zs L k i ++ wDou) := Bk7
      refine i_const (1) dL_law_185 ?_
      refine r_aload_n dL_law_186 0 rfl ?_
      refine i_bipush (6) (by decide) dL_law_187 ?_
      refine r_iload dL_law_189 8 rfl ?_
      refine i_add dL_law_191 ?_
      refine i_const (3) dL_law_192 ?_
      refine r_iload dL_law_193 6 rfl ?_
      refine i_mul dL_law_195 ?_
      refine i_add dL_law_196 ?_
      rw [show (6 : Int) + (i : Int) + 3 * (k : Int) = ((6 + i + 3 * k : Nat) : Int) by push_cast; rfl]
      refine p_callS (As := [.ref b, .int (iI (((6 + i + 3 * k : Nat) : Int)))]) (rest := [.int (iI 1), .ref o]) (w := (some (.int (iI (cel zs L (6 + i + 3 * k)))))) (st' := [.int (iI (cel zs L (6 + i + 3 * k))), .int (iI 1), .ref o]) kv_L_law_171 dL_law_197 rfl rfl (Nat.le_of_ble_eq_true rfl) (Nat.le_of_ble_eq_true rfl) rfl rfl (c_L_cell hXs hb hL (k := 6 + i + 3 * k) (by omega)) rfl (fun hk8 e9k8 => ?_)
      rw [show hk8 = hk7 from e9k8]
      refine i_const (2) dL_law_200 ?_
      refine r_ishr dL_law_201 ?_
      refine i_bipush (60) (by decide) dL_law_202 ?_
      refine p_callS (As := [.int ((iI (cel zs L (6 + i + 3 * k))) >>> ((iI 2) &&& 31)), .int (iI 60)]) (rest := [.int (iI 1), .ref o]) (w := (some (.int (iI (mst ((iI (cel zs L (6 + i + 3 * k))) >>> ((iI 2) &&& 31)) 60))))) (st' := [.int (iI (mst ((iI (cel zs L (6 + i + 3 * k))) >>> ((iI 2) &&& 31)) 60)), .int (iI 1), .ref o]) kv_L_law_128 dL_law_204 rfl rfl (Nat.le_of_ble_eq_true rfl) (Nat.le_of_ble_eq_true rfl) rfl rfl (c_L_most (by omega)) rfl (fun hk9 e9k9 => ?_)
      rw [show hk9 = hk7 from e9k9]
      refine i_add dL_law_207 ?_
      refine k_callV9 (c1 := 1) (c2 := 1000) (kc' := (20 * (4 - k) + 2 * (7 - i) + 202 - 2)) (ks' := (20000 * (4 - k) + 2000 * (7 - i) + 202000 - 2000)) (As := [.int (iI (1 + (mst ((iI (cel zs L (6 + i + 3 * k))) >>> ((iI 2) &&& 31)) 60)))]) (b := o) (rest := []) (w := (some (.ref o))) (st' := [.ref o]) kv_L_law_182 dL_law_208 rfl rfl (Nat.le_of_ble_eq_true rfl) (Nat.le_of_ble_eq_true rfl) Bk7.rv rfl rfl (by omega) (by omega) (k_int Bk7 hGT.1 hGN (by omega) (by first | omega | (simp only [List.length_append, List.length_cons, List.length_nil, show wBen.length = 6 from rfl, show wShe.length = 6 from rfl, show wDou.length = 7 from rfl, show wBut.length = 8 from rfl]; omega))) rfl (fun hk10 Bk10 => ?_)
      have Bk10 : BST G hk10 K x ad w o (txI zs L k i ++ wDou ++ dg (1 + (mst ((iI (cel zs L (6 + i + 3 * k))) >>> ((iI 2) &&& 31)) 60))) := Bk10
      refine r_pop dL_law_211 rfl ?_
      refine i_iinc (ls' := [(0, .ref b), (1, .ref x), (2, .ref w), (3, .int (iI (cel zs L 0))), (4, .ref o), (5, .int (iI ((nSh zs L : Int)))), (6, .int (iI ((k : Int)))), (7, .int (iI ((lyN zs L k : Int)))), (8, .int (iI ((i : Int) + 1)))]) (1) (v := (i : Int) + 1) dL_law_212 8 rfl (by omega) (by decide) rfl ?_
      refine r_goto dL_law_215 (tgt := 145) (by decide) ?_
      rw [lyT_f (by omega)] at Bk10
      refine rr_room (ih (i + 1) (by omega) (by omega) hk10 Bk10) (by omega) (by omega)
  · have ei : i = lyN zs L k := by omega
    subst ei
    refine rr_room (kc := 20 * (4 - k) + 203) (ks := 20000 * (4 - k) + 203000) ?_ (by omega) (by omega)
    refine r_iload dL_law_145 8 rfl ?_
    refine r_iload dL_law_147 7 rfl ?_
    refine i_icmpge dL_law_149 (tgt := 218) (by decide) (by unfold in32; omega) (by unfold in32; omega) (fun _ => ?_) (fun c => (by exfalso; omega))
    refine r_aload dL_law_218 4 rfl ?_
    refine i_bipush (59) (by decide) dL_law_220 ?_
    refine k_callV9 (c1 := 1) (c2 := 1000) (kc' := (20 * (4 - k) + 203 - 1)) (ks' := (20000 * (4 - k) + 203000 - 1000)) (As := [.int (iI 59)]) (b := o) (rest := []) (w := (some (.ref o))) (st' := [.ref o]) kv_L_law_186 dL_law_222 rfl rfl (Nat.le_of_ble_eq_true rfl) (Nat.le_of_ble_eq_true rfl) hB.rv rfl rfl (by omega) (by omega) (k_chr hB hGT.1 (by omega) (by first | omega | (simp only [List.length_append, List.length_cons, List.length_nil, show wBen.length = 6 from rfl, show wShe.length = 6 from rfl, show wDou.length = 7 from rfl, show wBut.length = 8 from rfl]; omega))) rfl (fun hk1 Bk1 => ?_)
    have Bk1 : BST G hk1 K x ad w o (txI zs L k (lyN zs L k) ++ [59]) := Bk1
    refine r_pop dL_law_225 rfl ?_
    refine i_iinc (ls' := [(0, .ref b), (1, .ref x), (2, .ref w), (3, .int (iI (cel zs L 0))), (4, .ref o), (5, .int (iI ((nSh zs L : Int)))), (6, .int (iI ((k : Int) + 1))), (7, .int (iI ((lyN zs L k : Int)))), (8, .int (iI ((lyN zs L k : Int))))]) (1) (v := (k : Int) + 1) dL_law_226 6 rfl (by omega) (by decide) rfl ?_
    refine r_goto dL_law_229 (tgt := 92) (by decide) ?_
    rw [← txK_s] at Bk1
    refine rr_take 7 rfl ?_
    refine rr_room (ihk hk1 Bk1) (by omega) (by omega)
set_option maxRecDepth 20000 in
set_option maxHeartbeats 1000000 in
theorem law_sh {G : xG} {K : xK} {sa : Nat → Nat} (hGC : GC G K sa) (hGT : GT G sa) (hGE : GE G) {ta : Nat → Nat} (hGTL : GTL G ta) (hGN : GN G) (hGB : GB G) {b L : Nat} {zs : Nat → Int} (hXs : x_zz G (fun _ U H => va_X b L (fun j => iI (zs j)) U H)) (hb : b < G.2.2.2) (hL : L ≤ 260) {x w o : Nat} {ad : XA} : ∀ k : Nat, k ≤ nSh zs L → ∀ h : xH, BST G h K x ad w o (txK zs L k) → RR G ML_law 92 [(0, .ref b), (1, .ref x), (2, .ref w), (3, .int (iI (cel zs L 0))), (4, .ref o), (5, .int (iI ((nSh zs L : Int)))), (6, .int (iI ((k : Int))))] [] h (20 * (5 - k) + 200) (20000 * (5 - k) + 200000) (fun o9 _ => o9 = .inl (some (.int (iI 1)))) := by
  have hn := nSh_b zs L
  refine down (fun k hk ih => ?_)
  intro h hB
  have hly := lyN_b zs L k
  have hlk := txK_l zs L k
  have hm41 := mst_b (iI (cel zs L (1 + k))) (m := 41) (by decide)
  have hm6 := mst_b ((iI (cel zs L (1 + k))) >>> ((iI 2) &&& 31)) (m := 6) (by decide)
  by_cases ckn : k < nSh zs L
  · refine r_iload dL_law_92 6 rfl ?_
    refine r_iload dL_law_94 5 rfl ?_
    refine i_icmpge dL_law_96 (tgt := 232) (by decide) (by unfold in32; omega) (by unfold in32; omega) (fun c => (by exfalso; omega)) (fun _ => ?_)
    refine r_aload dL_law_99 4 rfl ?_
    refine r_ldcS (hGTL.2 (ldcL.getD 1 default) (List.mem_of_getElem? (i := 1) rfl)) rfl dL_law_101 ?_
    refine k_callV9 (c1 := 1) (c2 := 1000) (kc' := (20 * (5 - k) + 200 - 1)) (ks' := (20000 * (5 - k) + 200000 - 1000)) (As := [.ref ((ta 1))]) (b := o) (rest := []) (w := (some (.ref o))) (st' := [.ref o]) kv_L_law_191 dL_law_103 rfl rfl (Nat.le_of_ble_eq_true rfl) (Nat.le_of_ble_eq_true rfl) hB.rv rfl rfl (by omega) (by omega) (k_str hB hGT.1 (hGTL.1 1 (by decide)) (by show (txK zs L k).length + (wShe).length ≤ 320; first | omega | (simp only [List.length_append, List.length_cons, List.length_nil, show wBen.length = 6 from rfl, show wShe.length = 6 from rfl, show wDou.length = 7 from rfl, show wBut.length = 8 from rfl]; omega))) rfl (fun hk1 Bk1 => ?_)
    have Bk1 : BST G hk1 K x ad w o (txK zs L k ++ wShe) := Bk1
    refine r_aload_n dL_law_106 0 rfl ?_
    refine i_const (1) dL_law_107 ?_
    refine r_iload dL_law_108 6 rfl ?_
    refine i_add dL_law_110 ?_
    rw [show (1 : Int) + (k : Int) = ((1 + k : Nat) : Int) by push_cast; rfl]
    refine p_callS (As := [.ref b, .int (iI (((1 + k : Nat) : Int)))]) (rest := [.ref o]) (w := (some (.int (iI (cel zs L (1 + k)))))) (st' := [.int (iI (cel zs L (1 + k))), .ref o]) kv_L_law_171 dL_law_111 rfl rfl (Nat.le_of_ble_eq_true rfl) (Nat.le_of_ble_eq_true rfl) rfl rfl (c_L_cell hXs hb hL (k := 1 + k) (by omega)) rfl (fun hk2 e9k2 => ?_)
    rw [show hk2 = hk1 from e9k2]
    refine i_bipush (41) (by decide) dL_law_114 ?_
    refine p_callS (As := [.int (iI (cel zs L (1 + k))), .int (iI 41)]) (rest := [.ref o]) (w := (some (.int (iI (mst (iI (cel zs L (1 + k))) 41))))) (st' := [.int (iI (mst (iI (cel zs L (1 + k))) 41)), .ref o]) kv_L_law_128 dL_law_116 rfl rfl (Nat.le_of_ble_eq_true rfl) (Nat.le_of_ble_eq_true rfl) rfl rfl (c_L_most (by omega)) rfl (fun hk3 e9k3 => ?_)
    rw [show hk3 = hk1 from e9k3]
    refine k_callV9 (c1 := 1) (c2 := 1000) (kc' := (20 * (5 - k) + 200 - 2)) (ks' := (20000 * (5 - k) + 200000 - 2000)) (As := [.int (iI (mst (iI (cel zs L (1 + k))) 41))]) (b := o) (rest := []) (w := (some (.ref o))) (st' := [.ref o]) kv_L_law_182 dL_law_119 rfl rfl (Nat.le_of_ble_eq_true rfl) (Nat.le_of_ble_eq_true rfl) Bk1.rv rfl rfl (by omega) (by omega) (k_int Bk1 hGT.1 hGN (by omega) (by first | omega | (simp only [List.length_append, List.length_cons, List.length_nil, show wBen.length = 6 from rfl, show wShe.length = 6 from rfl, show wDou.length = 7 from rfl, show wBut.length = 8 from rfl]; omega))) rfl (fun hk4 Bk4 => ?_)
    have Bk4 : BST G hk4 K x ad w o (txK zs L k ++ wShe ++ dg (mst (iI (cel zs L (1 + k))) 41)) := Bk4
    refine r_pop dL_law_122 rfl ?_
    refine i_const (1) dL_law_123 ?_
    refine r_aload_n dL_law_124 0 rfl ?_
    refine i_const (1) dL_law_125 ?_
    refine r_iload dL_law_126 6 rfl ?_
    refine i_add dL_law_128 ?_
    rw [show (1 : Int) + (k : Int) = ((1 + k : Nat) : Int) by push_cast; rfl]
    refine p_callS (As := [.ref b, .int (iI (((1 + k : Nat) : Int)))]) (rest := [.int (iI 1)]) (w := (some (.int (iI (cel zs L (1 + k)))))) (st' := [.int (iI (cel zs L (1 + k))), .int (iI 1)]) kv_L_law_171 dL_law_129 rfl rfl (Nat.le_of_ble_eq_true rfl) (Nat.le_of_ble_eq_true rfl) rfl rfl (c_L_cell hXs hb hL (k := 1 + k) (by omega)) rfl (fun hk5 e9k5 => ?_)
    rw [show hk5 = hk4 from e9k5]
    refine i_const (2) dL_law_132 ?_
    refine r_ishr dL_law_133 ?_
    refine i_bipush (6) (by decide) dL_law_134 ?_
    refine p_callS (As := [.int ((iI (cel zs L (1 + k))) >>> ((iI 2) &&& 31)), .int (iI 6)]) (rest := [.int (iI 1)]) (w := (some (.int (iI (mst ((iI (cel zs L (1 + k))) >>> ((iI 2) &&& 31)) 6))))) (st' := [.int (iI (mst ((iI (cel zs L (1 + k))) >>> ((iI 2) &&& 31)) 6)), .int (iI 1)]) kv_L_law_128 dL_law_136 rfl rfl (Nat.le_of_ble_eq_true rfl) (Nat.le_of_ble_eq_true rfl) rfl rfl (c_L_most (by omega)) rfl (fun hk6 e9k6 => ?_)
    rw [show hk6 = hk4 from e9k6]
    refine i_add dL_law_139 ?_
    rw [show 1 + (mst ((iI (cel zs L (1 + k))) >>> ((iI 2) &&& 31)) 6) = (lyN zs L k : Int) from hly.1.symm]
    refine r_istore (ls' := [(0, .ref b), (1, .ref x), (2, .ref w), (3, .int (iI (cel zs L 0))), (4, .ref o), (5, .int (iI ((nSh zs L : Int)))), (6, .int (iI ((k : Int)))), (7, .int (iI ((lyN zs L k : Int))))]) dL_law_140 (by decide) rfl ?_
    refine i_const (0) dL_law_142 ?_
    refine r_istore (ls' := [(0, .ref b), (1, .ref x), (2, .ref w), (3, .int (iI (cel zs L 0))), (4, .ref o), (5, .int (iI ((nSh zs L : Int)))), (6, .int (iI ((k : Int)))), (7, .int (iI ((lyN zs L k : Int)))), (8, .int (iI 0))]) dL_law_143 (by decide) rfl ?_
    rw [← txI_0] at Bk4
    refine rr_room (law_ly hGC hGT hGE hGTL hGN hGB hXs hb hL (by omega) (fun h hB => ih (k + 1) (by omega) (by omega) h hB) 0 (Nat.zero_le _) hk4 Bk4) (by omega) (by omega)
  · have ek : k = nSh zs L := by omega
    subst ek
    refine r_iload dL_law_92 6 rfl ?_
    refine r_iload dL_law_94 5 rfl ?_
    refine i_icmpge dL_law_96 (tgt := 232) (by decide) (by unfold in32; omega) (by unfold in32; omega) (fun _ => ?_) (fun c => (by exfalso; omega))
    refine rr_room (law_say hGC hGT hGE hGTL hGN hGB hXs hb hL hB) (by omega) (by omega)
set_option maxRecDepth 20000 in
set_option maxHeartbeats 1000000 in
theorem law_b {G : xG} {K : xK} {sa : Nat → Nat} (hGC : GC G K sa) (hGT : GT G sa) (hGE : GE G) {ta : Nat → Nat} (hGTL : GTL G ta) (hGN : GN G) (hGB : GB G) {b L : Nat} {zs : Nat → Int} (hXs : x_zz G (fun _ U H => va_X b L (fun j => iI (zs j)) U H)) (hb : b < G.2.2.2) (hL : L ≤ 260) {x w : Nat} {ad : XA} {h : xH} (hW : BSW G h K x ad w) : RR G ML_law 13 [(0, .ref b), (1, .ref x), (2, .ref w)] [] h 1000 1000000 (fun o9 _ => o9 = .inl (some (.int (iI 1)))) := by
  have hn := nSh_b zs L
  have h41 := mst_b (iI (cel zs L 0)) (m := 41) (by decide)
  have h31 := mst_b ((iI (cel zs L 0)) >>> ((iI 1) &&& 31)) (m := 31) (by decide)
  have h6 := mst_b ((iI (cel zs L 0)) >>> ((iI 2) &&& 31)) (m := 6) (by decide)
  have h4 := mst_b ((iI (cel zs L 0)) >>> ((iI 3) &&& 31)) (m := 4) (by decide)
  have hdl := dg_l (mst (iI (cel zs L 0)) 41)
  have hdm := dg_l (5 + mst ((iI (cel zs L 0)) >>> ((iI 1) &&& 31)) 31)
  have hdn := dg_l (mst ((iI (cel zs L 0)) >>> ((iI 2) &&& 31)) 6)
  refine r_aload_n dL_law_13 0 rfl ?_
  refine i_const (0) dL_law_14 ?_
  refine p_callS (As := [.ref b, .int (iI 0)]) (rest := []) (w := (some (.int (iI (cel zs L (0)))))) (st' := [.int (iI (cel zs L (0)))]) kv_L_law_171 dL_law_15 rfl rfl (Nat.le_of_ble_eq_true rfl) (Nat.le_of_ble_eq_true rfl) rfl rfl (c_L_cell hXs hb hL (k := 0) (by omega)) rfl (fun hk1 e9k1 => ?_)
  rw [show hk1 = h from e9k1]
  refine r_istore_n (ls' := [(0, .ref b), (1, .ref x), (2, .ref w), (3, .int (iI (cel zs L (0))))]) dL_law_18 (by decide) rfl ?_
  refine rr_room (kc := (1000 - 3) + 1) (ks := (1000000 - 2000) + 4) ?_ (by omega) (by omega)
  refine i_newO cl_J4 (fs := [.null, .int (iI 0), .int (iI 0), .int (iI 0)]) kl_L_175 kn_J4 ki_J4 dL_law_19 (fun j hj => by rcases (show j = 0 ∨ j = 1 ∨ j = 2 ∨ j = 3 by omega) with rfl | rfl | rfl | rfl <;> rfl) (by omega) (by omega) (fun o h1 hqo e0_o e1_o e2_o => ?_)
  refine rr_room (kc := (1000 - 3)) (ks := (1000000 - 2000)) ?_ (by omega) (by omega)
  have mo : o ∈ h1.1 := by rw [e0_o]; exact List.mem_append_right _ (List.mem_singleton.mpr rfl)
  have hF1 : GRp [] h h1 := GRp.new hqo e0_o e2_o
  have hW1 := hW.gr hF1 (fun _ _ => List.not_mem_nil) List.not_mem_nil
  have no : o ∉ fpX x ad := fun z => hqo (hW.1.2 _ z)
  have mw : w ∈ h.1 := by obtain ⟨gw, mw, -⟩ := hW.2.1; exact mw
  have nwo : w ≠ o := fun z => hqo (z ▸ mw)
  refine r_dup dL_law_22 rfl ?_
  refine r_ldcS (hGTL.2 (ldcL.getD 0 default) (List.mem_of_getElem? (i := 0) rfl)) rfl dL_law_23 ?_
  refine rr_room (kc := (1000 - 6) + 2) (ks := (1000000 - 4000) + 1100) ?_ (by omega) (by omega)
  refine k_callI (As := [.ref ((ta 0))]) (b := o) (rest := [.ref o]) (w := none) (st' := [.ref o]) kv_L_law_179 dL_law_25 rfl rfl (Nat.le_of_ble_eq_true rfl) (Nat.le_of_ble_eq_true rfl) (show 2 ≤ _ by omega) (show 1100 ≤ _ by omega) (c_J4_init_a7421 hGT.1 (hGTL.1 0 (by decide)) (by decide) mo e1_o) rfl (fun hk2 e9k2 => ?_)
  refine rr_room (kc := (1000 - 6)) (ks := (1000000 - 4000)) ?_ (show _ ≤ _ - 2 by omega) (show _ ≤ _ - 1100 by omega)
  obtain ⟨v9, cap9, g9, ml9, hS9, nv9, hF9⟩ := e9k2
  have mw1 : w ∈ h1.1 := hF1.1 _ mw
  have Bk2 : BST G hk2 K x ad w o wBen := ⟨v9, cap9, g9, ml9, hS9, hW1.gr hF9 (fun q hq z => no (by rw [← List.mem_singleton.mp z]; exact hq)) (fun z => nwo (List.mem_singleton.mp z)), ⟨no, fun z => nv9 (hW1.1.2 _ z)⟩, nwo, fun z => nv9 (z ▸ mw1)⟩
  refine r_iload_n dL_law_28 3 rfl ?_
  refine i_bipush (41) (by decide) dL_law_29 ?_
  refine p_callS (As := [.int (iI (cel zs L (0))), .int (iI 41)]) (rest := [.ref o]) (w := (some (.int (iI (mst (iI (cel zs L 0)) 41))))) (st' := [.int (iI (mst (iI (cel zs L 0)) 41)), .ref o]) kv_L_law_128 dL_law_31 rfl rfl (Nat.le_of_ble_eq_true rfl) (Nat.le_of_ble_eq_true rfl) rfl rfl (c_L_most (by omega)) rfl (fun hk3 e9k3 => ?_)
  rw [show hk3 = hk2 from e9k3]
  refine k_callV9 (c1 := 1) (c2 := 1000) (kc' := (1000 - 9)) (ks' := (1000000 - 6000)) (As := [.int (iI (mst (iI (cel zs L 0)) 41))]) (b := o) (rest := []) (w := (some (.ref o))) (st' := [.ref o]) kv_L_law_182 dL_law_34 rfl rfl (Nat.le_of_ble_eq_true rfl) (Nat.le_of_ble_eq_true rfl) Bk2.rv rfl rfl (by omega) (by omega) (k_int Bk2 hGT.1 hGN (by omega) (by first | omega | (simp only [List.length_append, List.length_cons, List.length_nil, show wBen.length = 6 from rfl, show wShe.length = 6 from rfl, show wDou.length = 7 from rfl, show wBut.length = 8 from rfl]; omega))) rfl (fun hk4 Bk4 => ?_)
  have Bk4 : BST G hk4 K x ad w o (wBen ++ dg (mst (iI (cel zs L 0)) 41)) := Bk4
  refine i_bipush (32) (by decide) dL_law_37 ?_
  refine k_callV9 (c1 := 1) (c2 := 1000) (kc' := (1000 - 12)) (ks' := (1000000 - 8000)) (As := [.int (iI 32)]) (b := o) (rest := []) (w := (some (.ref o))) (st' := [.ref o]) kv_L_law_186 dL_law_39 rfl rfl (Nat.le_of_ble_eq_true rfl) (Nat.le_of_ble_eq_true rfl) Bk4.rv rfl rfl (by omega) (by omega) (k_chr Bk4 hGT.1 (by omega) (by first | omega | (simp only [List.length_append, List.length_cons, List.length_nil, show wBen.length = 6 from rfl, show wShe.length = 6 from rfl, show wDou.length = 7 from rfl, show wBut.length = 8 from rfl]; omega))) rfl (fun hk5 Bk5 => ?_)
  have Bk5 : BST G hk5 K x ad w o (wBen ++ dg (mst (iI (cel zs L 0)) 41) ++ [32]) := Bk5
  refine i_const (5) dL_law_42 ?_
  refine r_iload_n dL_law_43 3 rfl ?_
  refine i_const (1) dL_law_44 ?_
  refine r_ishr dL_law_45 ?_
  refine i_bipush (31) (by decide) dL_law_46 ?_
  refine p_callS (As := [.int ((iI (cel zs L (0))) >>> ((iI 1) &&& 31)), .int (iI 31)]) (rest := [.int (iI 5), .ref o]) (w := (some (.int (iI (mst ((iI (cel zs L 0)) >>> ((iI 1) &&& 31)) 31))))) (st' := [.int (iI (mst ((iI (cel zs L 0)) >>> ((iI 1) &&& 31)) 31)), .int (iI 5), .ref o]) kv_L_law_128 dL_law_48 rfl rfl (Nat.le_of_ble_eq_true rfl) (Nat.le_of_ble_eq_true rfl) rfl rfl (c_L_most (by omega)) rfl (fun hk6 e9k6 => ?_)
  rw [show hk6 = hk5 from e9k6]
  refine i_add dL_law_51 ?_
  refine k_callV9 (c1 := 1) (c2 := 1000) (kc' := (1000 - 15)) (ks' := (1000000 - 10000)) (As := [.int (iI (5 + (mst ((iI (cel zs L 0)) >>> ((iI 1) &&& 31)) 31)))]) (b := o) (rest := []) (w := (some (.ref o))) (st' := [.ref o]) kv_L_law_182 dL_law_52 rfl rfl (Nat.le_of_ble_eq_true rfl) (Nat.le_of_ble_eq_true rfl) Bk5.rv rfl rfl (by omega) (by omega) (k_int Bk5 hGT.1 hGN (by omega) (by first | omega | (simp only [List.length_append, List.length_cons, List.length_nil, show wBen.length = 6 from rfl, show wShe.length = 6 from rfl, show wDou.length = 7 from rfl, show wBut.length = 8 from rfl]; omega))) rfl (fun hk7 Bk7 => ?_)
  have Bk7 : BST G hk7 K x ad w o (wBen ++ dg (mst (iI (cel zs L 0)) 41) ++ [32] ++ dg (5 + (mst ((iI (cel zs L 0)) >>> ((iI 1) &&& 31)) 31))) := Bk7
  refine i_bipush (32) (by decide) dL_law_55 ?_
  refine k_callV9 (c1 := 1) (c2 := 1000) (kc' := (1000 - 18)) (ks' := (1000000 - 12000)) (As := [.int (iI 32)]) (b := o) (rest := []) (w := (some (.ref o))) (st' := [.ref o]) kv_L_law_186 dL_law_57 rfl rfl (Nat.le_of_ble_eq_true rfl) (Nat.le_of_ble_eq_true rfl) Bk7.rv rfl rfl (by omega) (by omega) (k_chr Bk7 hGT.1 (by omega) (by first | omega | (simp only [List.length_append, List.length_cons, List.length_nil, show wBen.length = 6 from rfl, show wShe.length = 6 from rfl, show wDou.length = 7 from rfl, show wBut.length = 8 from rfl]; omega))) rfl (fun hk8 Bk8 => ?_)
  have Bk8 : BST G hk8 K x ad w o (wBen ++ dg (mst (iI (cel zs L 0)) 41) ++ [32] ++ dg (5 + (mst ((iI (cel zs L 0)) >>> ((iI 1) &&& 31)) 31)) ++ [32]) := Bk8
  refine r_iload_n dL_law_60 3 rfl ?_
  refine i_const (2) dL_law_61 ?_
  refine r_ishr dL_law_62 ?_
  refine i_bipush (6) (by decide) dL_law_63 ?_
  refine p_callS (As := [.int ((iI (cel zs L (0))) >>> ((iI 2) &&& 31)), .int (iI 6)]) (rest := [.ref o]) (w := (some (.int (iI (mst ((iI (cel zs L 0)) >>> ((iI 2) &&& 31)) 6))))) (st' := [.int (iI (mst ((iI (cel zs L 0)) >>> ((iI 2) &&& 31)) 6)), .ref o]) kv_L_law_128 dL_law_65 rfl rfl (Nat.le_of_ble_eq_true rfl) (Nat.le_of_ble_eq_true rfl) rfl rfl (c_L_most (by omega)) rfl (fun hk9 e9k9 => ?_)
  rw [show hk9 = hk8 from e9k9]
  refine k_callV9 (c1 := 1) (c2 := 1000) (kc' := (1000 - 21)) (ks' := (1000000 - 14000)) (As := [.int (iI (mst ((iI (cel zs L 0)) >>> ((iI 2) &&& 31)) 6))]) (b := o) (rest := []) (w := (some (.ref o))) (st' := [.ref o]) kv_L_law_182 dL_law_68 rfl rfl (Nat.le_of_ble_eq_true rfl) (Nat.le_of_ble_eq_true rfl) Bk8.rv rfl rfl (by omega) (by omega) (k_int Bk8 hGT.1 hGN (by omega) (by first | omega | (simp only [List.length_append, List.length_cons, List.length_nil, show wBen.length = 6 from rfl, show wShe.length = 6 from rfl, show wDou.length = 7 from rfl, show wBut.length = 8 from rfl]; omega))) rfl (fun hk10 Bk10 => ?_)
  have Bk10 : BST G hk10 K x ad w o (wBen ++ dg (mst (iI (cel zs L 0)) 41) ++ [32] ++ dg (5 + (mst ((iI (cel zs L 0)) >>> ((iI 1) &&& 31)) 31)) ++ [32] ++ dg (mst ((iI (cel zs L 0)) >>> ((iI 2) &&& 31)) 6)) := Bk10
  refine i_bipush (59) (by decide) dL_law_71 ?_
  refine k_callV9 (c1 := 1) (c2 := 1000) (kc' := (1000 - 24)) (ks' := (1000000 - 16000)) (As := [.int (iI 59)]) (b := o) (rest := []) (w := (some (.ref o))) (st' := [.ref o]) kv_L_law_186 dL_law_73 rfl rfl (Nat.le_of_ble_eq_true rfl) (Nat.le_of_ble_eq_true rfl) Bk10.rv rfl rfl (by omega) (by omega) (k_chr Bk10 hGT.1 (by omega) (by first | omega | (simp only [List.length_append, List.length_cons, List.length_nil, show wBen.length = 6 from rfl, show wShe.length = 6 from rfl, show wDou.length = 7 from rfl, show wBut.length = 8 from rfl]; omega))) rfl (fun hk11 Bk11 => ?_)
  have Bk11 : BST G hk11 K x ad w o (wBen ++ dg (mst (iI (cel zs L 0)) 41) ++ [32] ++ dg (5 + (mst ((iI (cel zs L 0)) >>> ((iI 1) &&& 31)) 31)) ++ [32] ++ dg (mst ((iI (cel zs L 0)) >>> ((iI 2) &&& 31)) 6) ++ [59]) := Bk11
  refine r_astore (ls' := [(0, .ref b), (1, .ref x), (2, .ref w), (3, .int (iI (cel zs L (0)))), (4, .ref o)]) dL_law_76 (by decide) rfl ?_
  refine i_const (1) dL_law_78 ?_
  refine r_iload_n dL_law_79 3 rfl ?_
  refine i_const (3) dL_law_80 ?_
  refine r_ishr dL_law_81 ?_
  refine i_const (4) dL_law_82 ?_
  refine p_callS (As := [.int ((iI (cel zs L (0))) >>> ((iI 3) &&& 31)), .int (iI 4)]) (rest := [.int (iI 1)]) (w := (some (.int (iI (mst ((iI (cel zs L 0)) >>> ((iI 3) &&& 31)) 4))))) (st' := [.int (iI (mst ((iI (cel zs L 0)) >>> ((iI 3) &&& 31)) 4)), .int (iI 1)]) kv_L_law_128 dL_law_83 rfl rfl (Nat.le_of_ble_eq_true rfl) (Nat.le_of_ble_eq_true rfl) rfl rfl (c_L_most (by omega)) rfl (fun hk12 e9k12 => ?_)
  rw [show hk12 = hk11 from e9k12]
  refine i_add dL_law_86 ?_
  rw [show 1 + (mst ((iI (cel zs L 0)) >>> ((iI 3) &&& 31)) 4) = (nSh zs L : Int) from hn.1.symm]
  refine r_istore (ls' := [(0, .ref b), (1, .ref x), (2, .ref w), (3, .int (iI (cel zs L (0)))), (4, .ref o), (5, .int (iI ((nSh zs L : Int))))]) dL_law_87 (by decide) rfl ?_
  refine i_const (0) dL_law_89 ?_
  refine r_istore (ls' := [(0, .ref b), (1, .ref x), (2, .ref w), (3, .int (iI (cel zs L (0)))), (4, .ref o), (5, .int (iI ((nSh zs L : Int)))), (6, .int (iI 0))]) dL_law_90 (by decide) rfl ?_
  have e0 : wBen ++ dg (mst (iI (cel zs L 0)) 41) ++ [32] ++ dg (5 + (mst ((iI (cel zs L 0)) >>> ((iI 1) &&& 31)) 31)) ++ [32] ++ dg (mst ((iI (cel zs L 0)) >>> ((iI 2) &&& 31)) 6) ++ [59] = txK zs L 0 := by unfold txK beT hdT; simp
  rw [e0] at Bk11
  refine rr_room (law_sh hGC hGT hGE hGTL hGN hGB hXs hb hL 0 (Nat.zero_le _) hk11 Bk11) (by omega) (by omega)
set_option maxRecDepth 20000 in
set_option maxHeartbeats 1000000 in
theorem law_start {G : xG} {K : xK} {sa : Nat → Nat} (hGC : GC G K sa) (hGT : GT G sa) (hGE : GE G) {ta : Nat → Nat} (hGTL : GTL G ta) (hGN : GN G) (hGB : GB G) (hAO : GAO G) {b L : Nat} {zs : Nat → Int} (hXs : x_zz G (fun _ U H => va_X b L (fun j => iI (zs j)) U H)) (hb : b < G.2.2.2) (hL : L ≤ 260) {h : xH} : RR G ML_law 0 [(0, .ref b)] [] h 600086 7301442 (fun o9 _ => o9 = .inl (some (.int (iI 1)))) := by
  have gr0 : GRp [] h h := GRp.rf
  refine i_newO cl_X11 (fs := [.null, .int (iI 0), .null, .null, .null, .null, .null, .int (iI 0), .null, .null]) kl_L_9 kn_X11 ki_X11 dL_law_0 (fun j hj => by rcases (show j = 0 ∨ j = 1 ∨ j = 2 ∨ j = 3 ∨ j = 4 ∨ j = 5 ∨ j = 6 ∨ j = 7 ∨ j = 8 ∨ j = 9 by omega) with rfl | rfl | rfl | rfl | rfl | rfl | rfl | rfl | rfl | rfl <;> rfl) (Nat.le_of_ble_eq_true rfl) (Nat.le_of_ble_eq_true rfl) (fun x hn1 hqn1 e0_n1 e1_n1 e2_n1 => ?_)
  have mx : x ∈ hn1.1 := by rw [e0_n1]; exact List.mem_append_right _ (List.mem_singleton.mpr rfl)
  have grn1 := gr0.tr ((GRp.new hqn1 e0_n1 e2_n1).mono (fun _ z => absurd z List.not_mem_nil))
  have nwx : x ∉ h.1 := fun z => hqn1 (gr0.1 _ z)
  refine r_dup dL_law_3 rfl ?_
  refine k_callI (As := []) (b := x) (rest := [.ref x]) (w := none) (st' := [.ref x]) kv_L_law_170 dL_law_4 rfl rfl (Nat.le_of_ble_eq_true rfl) (Nat.le_of_ble_eq_true rfl) (Nat.le_of_ble_eq_true rfl) (Nat.le_of_ble_eq_true rfl) (c_X11_init hGC.1 hAO mx e1_n1) rfl (fun hk2 e9k2 => ?_)
  obtain ⟨ad, hX, nX, mX, gck2⟩ := e9k2
  have grk2 := grn1.off gck2 (fun q z => by rw [List.mem_singleton.mp z]; exact nwx)
  refine r_astore_n (ls' := [(0, .ref b), (1, .ref x)]) dL_law_7 (by decide) rfl ?_
  refine i_bipush (6) (by decide) dL_law_8 ?_
  refine i_newI 6 rfl (by decide) dL_law_10 (Nat.le_of_ble_eq_true rfl) (Nat.le_of_ble_eq_true rfl) (fun w hn3 hqn3 e0_n3 e1_n3 e2_n3 => ?_)
  have mw : w ∈ hn3.1 := by rw [e0_n3]; exact List.mem_append_right _ (List.mem_singleton.mpr rfl)
  have grn3 := grk2.tr ((GRp.new hqn3 e0_n3 e2_n3).mono (fun _ z => absurd z List.not_mem_nil))
  have nww : w ∉ h.1 := fun z => hqn3 (grk2.1 _ z)
  refine r_astore_n (ls' := [(0, .ref b), (1, .ref x), (2, .ref w)]) dL_law_12 (by decide) rfl ?_
  have gw9 : GRp [] hk2 hn3 := GRp.new hqn3 e0_n3 e2_n3
  have nwx : w ∉ fpX x ad := fun z => hqn3 (mX _ z)
  have hW : BSW G hn3 K x ad w := ⟨⟨hX.gr gw9 (fun _ _ => List.not_mem_nil), fun q hq => gw9.1 _ (mX q hq)⟩, ⟨_, mw, e1_n3, rfl, fun j _ => by rw [show resU [] = [] from rfl, pk_nil]; rfl⟩, nwx⟩
  exact rr_room (law_b hGC hGT hGE hGTL hGN hGB hXs hb hL hW) (Nat.le_of_ble_eq_true rfl) (Nat.le_of_ble_eq_true rfl)
