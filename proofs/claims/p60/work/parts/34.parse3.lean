/-! ===== the parser: header, whole bench ===== -/
def hdB (a : Int × Int × Int) : AB := ((a.1, a.2.1, a.2.2, 0, 0, 0), [])
set_option maxRecDepth 20000 in
set_option maxHeartbeats 1000000 in
theorem c_X5_readHeader {G : xG} {h : xH} {K : xK} (hGK : GK G K) {sa : Nat → Nat} (hGT : GT G sa) {o to I : Nat} {T : List Int} (hI : INP G h I T) {p : Nat} (hp : p ≤ T.length) {num : Int} (hP : PAR G h K o to I T (tokAt T p) 0 (-1) num) {bo bA : Nat} {fp : List Nat} {B : AB} (hB : BN G h bo bA fp B) (hfo : o ∉ fp ∧ to ∉ fp ∧ I ∉ fp) : CC G MX5_readHeader [.ref o, .ref bo] h (fun oo h' => oo = .inl (some (.int (iI (b2 (okP (sHead T p)))))) ∧ PS G h h' K o to I T fp (sHead T p) (fun a _ h' => BN G h' bo bA fp (hdB a)) (PB G bo bA fp)) := by
  have hIn : I ∉ [o, to] ++ fp := by have z := hI.nt hP; simp at z ⊢; exact ⟨z.1, z.2, hfo.2.2⟩
  have htb := tokAt_b T hp
  have hnt := hI.nt hP
  have not := hP.ne
  obtain ⟨mo, fo, v, mt, ft, hv⟩ := id hP
  obtain ⟨mb, ⟨vb, fb⟩, hbf⟩ := hB.mem
  show RR G MX5_readHeader 0 [(0, .ref o), (1, .ref bo)] [] h (xm_R MX5_readHeader).cells (xm_R MX5_readHeader).slots (fun oo h' => oo = .inl (some (.int (iI (b2 (okP (sHead T p)))))) ∧ PS G h h' K o to I T fp (sHead T p) (fun a _ h' => BN G h' bo bA fp (hdB a)) (PB G bo bA fp))
  refine r_aload_n dX5_readHeader_0 0 rfl ?_
  refine r_ldcS (hGT.2.2 ("PastryBench$Parser", 74, "bench", 1) (List.mem_of_getElem? (i := 1) rfl)) rfl dX5_readHeader_1 ?_
  refine p_callV (As := [.ref (sa 1)]) (b := o) (rest := []) (w := (some (.int (iI (b2 (okP (sWord T p (txS 1)))))))) (st' := [.int (iI (b2 (okP (sWord T p (txS 1)))))]) kv_X5_readHeader_76 dX5_readHeader_3 rfl rfl (Nat.le_of_ble_eq_true rfl) (Nat.le_of_ble_eq_true rfl) (x_rv mo fo rfl) rfl rfl (c_X5_takeWord hGK hGT.1 hI hp hP (hGT.2.1 1 (by decide))) rfl (fun hA eA => ?_)
  refine i_ifeqb dX5_readHeader_6 (tgt := 19) (by decide) (fun c6 => ?_) (fun c6 => ?_)
  · refine i_const (0) dX5_readHeader_19 ?_
    refine r_ireturn rfl (b2_nar false) dX5_readHeader_20 ?_
    obtain ⟨er, hr⟩ := okP_f c6
    rw [hr] at eA
    have es : sHead T p = .inl er := by unfold sHead; rw [hr]
    rw [es]
    obtain ⟨hFx, -, t9, n9, hP9⟩ := eA
    have hFy : FRp [o, to] h _ := hFx
    exact ⟨rfl, FRp.mono hFy (by simp), ⟨B, hB.fr hFy (dj2 hfo.1 hfo.2.1)⟩, t9, n9, hP9⟩
  · obtain ⟨aA, q1, hr1⟩ := okP_t c6
    rw [hr1] at eA
    obtain ⟨hFA, numA, hnA, hPA, hpA⟩ := eA
    have hHA : FRp [o, to] h hA := hFA
    have hIA := hI.fr hHA hnt
    obtain ⟨vA, mtA, ftA, hvA⟩ := hPA.2.2
    refine r_aload_n dX5_readHeader_9 0 rfl ?_
    refine i_const (0) dX5_readHeader_10 ?_
    refine i_bipush (40) (by decide) dX5_readHeader_11 ?_
    refine p_callV (As := [.int (iI 0), .int (iI 40)]) (b := o) (rest := []) (w := (some (.int (iI (b2 (okP (sNum T q1 0 40))))))) (st' := [.int (iI (b2 (okP (sNum T q1 0 40))))]) kv_X5_readHeader_79 dX5_readHeader_13 rfl rfl (Nat.le_of_ble_eq_true rfl) (Nat.le_of_ble_eq_true rfl) (x_rv hPA.1 hPA.2.1 rfl) rfl rfl (c_X5_takeNumber hGK hIA hpA hPA (lo := 0) (hi := 40) (by decide) (by decide)) rfl (fun hB9 eB => ?_)
    refine i_ifneb dX5_readHeader_16 (tgt := 21) (by decide) (fun c16 => ?_) (fun c16 => ?_)
    · obtain ⟨aB, q2, hr2⟩ := okP_t c16
      rw [hr2] at eB
      obtain ⟨hFB, numB, hnB, hPB, hpB⟩ := eB
      have hnB : numB = aB := hnB
      subst hnB
      have hHB : FRp [o, to] h hB9 := FRp.tr hHA hFB
      have hIB := hI.fr hHB hnt
      obtain ⟨vB, mtB, ftB, hvB⟩ := hPB.2.2
      refine r_aload_n dX5_readHeader_21 0 rfl ?_
      refine r_get cl_X5 3 (by decide) kf_X5_58 dX5_readHeader_22 hPB.1 hPB.2.1 rfl ?_
      refine r_istore_n (ls' := [(0, .ref o), (1, .ref bo), (2, .int (iI numB))]) dX5_readHeader_25 (by decide) rfl ?_
      refine r_aload_n dX5_readHeader_26 0 rfl ?_
      refine i_const (5) dX5_readHeader_27 ?_
      refine i_bipush (35) (by decide) dX5_readHeader_28 ?_
      refine p_callV (As := [.int (iI 5), .int (iI 35)]) (b := o) (rest := []) (w := (some (.int (iI (b2 (okP (sNum T q2 5 35))))))) (st' := [.int (iI (b2 (okP (sNum T q2 5 35))))]) kv_X5_readHeader_79 dX5_readHeader_30 rfl rfl (Nat.le_of_ble_eq_true rfl) (Nat.le_of_ble_eq_true rfl) (x_rv hPB.1 hPB.2.1 rfl) rfl rfl (c_X5_takeNumber hGK hIB hpB hPB (lo := 5) (hi := 35) (by decide) (by decide)) rfl (fun hC eC => ?_)
      refine i_ifneb dX5_readHeader_33 (tgt := 38) (by decide) (fun c33 => ?_) (fun c33 => ?_)
      · obtain ⟨aC, q3, hr3⟩ := okP_t c33
        rw [hr3] at eC
        obtain ⟨hFC, numC, hnC, hPC, hpC⟩ := eC
        have hnC : numC = aC := hnC
        subst hnC
        have hHC : FRp [o, to] h hC := FRp.tr hHB hFC
        have hIC := hI.fr hHC hnt
        obtain ⟨vC, mtC, ftC, hvC⟩ := hPC.2.2
        refine r_aload_n dX5_readHeader_38 0 rfl ?_
        refine r_get cl_X5 3 (by decide) kf_X5_58 dX5_readHeader_39 hPC.1 hPC.2.1 rfl ?_
        refine r_istore_n (ls' := [(0, .ref o), (1, .ref bo), (2, .int (iI numB)), (3, .int (iI numC))]) dX5_readHeader_42 (by decide) rfl ?_
        refine r_aload_n dX5_readHeader_43 0 rfl ?_
        refine i_const (0) dX5_readHeader_44 ?_
        refine i_bipush (50) (by decide) dX5_readHeader_45 ?_
        refine p_callV (As := [.int (iI 0), .int (iI 50)]) (b := o) (rest := []) (w := (some (.int (iI (b2 (okP (sNum T q3 0 50))))))) (st' := [.int (iI (b2 (okP (sNum T q3 0 50))))]) kv_X5_readHeader_79 dX5_readHeader_47 rfl rfl (Nat.le_of_ble_eq_true rfl) (Nat.le_of_ble_eq_true rfl) (x_rv hPC.1 hPC.2.1 rfl) rfl rfl (c_X5_takeNumber hGK hIC hpC hPC (lo := 0) (hi := 50) (by decide) (by decide)) rfl (fun hD eD => ?_)
        refine i_ifneb dX5_readHeader_50 (tgt := 55) (by decide) (fun c50 => ?_) (fun c50 => ?_)
        · obtain ⟨aD, q4, hr4⟩ := okP_t c50
          rw [hr4] at eD
          obtain ⟨hFD, numD, hnD, hPD, hpD⟩ := eD
          have hnD : numD = aD := hnD
          subst hnD
          have hHD : FRp [o, to] h hD := FRp.tr hHC hFD
          have hID := hI.fr hHD hnt
          obtain ⟨vD, mtD, ftD, hvD⟩ := hPD.2.2
          have hBD := hB.fr hHD (dj2 hfo.1 hfo.2.1)
          obtain ⟨mbD, ⟨vbD, fbD⟩, -⟩ := hBD.mem
          refine r_aload_n dX5_readHeader_55 1 rfl ?_
          refine r_iload_n dX5_readHeader_56 2 rfl ?_
          refine r_iload_n dX5_readHeader_57 3 rfl ?_
          refine r_aload_n dX5_readHeader_58 0 rfl ?_
          refine r_get cl_X5 3 (by decide) kf_X5_58 dX5_readHeader_59 hPD.1 hPD.2.1 rfl ?_
          refine p_callV (As := [.int (iI numB), .int (iI numC), .int (iI numD)]) (b := bo) (rest := []) (w := none) (st' := []) kv_X5_readHeader_83 dX5_readHeader_62 rfl rfl (Nat.le_of_ble_eq_true rfl) (Nat.le_of_ble_eq_true rfl) (x_rv mbD fbD rfl) rfl rfl (c_X1_begin hBD (r := numB) (m := numC) (f := numD)) rfl (fun hE eE => ?_)
          obtain ⟨hBE, hFE⟩ := eE
          have hPE := hPD.fr hFE hfo.1 hfo.2.1
          have hHE : FRp ([o, to] ++ fp) h hE := FRp.tr (FRp.mono hHD (by simp)) (FRp.mono hFE (fun q hq => List.mem_append_right _ hq))
          have hIE := hI.fr hHE hIn
          obtain ⟨vE, mtE, ftE, hvE⟩ := hPE.2.2
          refine r_aload_n dX5_readHeader_65 0 rfl ?_
          refine p_callV (As := []) (b := o) (rest := []) (w := (some (.int (iI (b2 (okP (sSemi T q4))))))) (st' := [.int (iI (b2 (okP (sSemi T q4))))]) kv_X5_readHeader_88 dX5_readHeader_66 rfl rfl (Nat.le_of_ble_eq_true rfl) (Nat.le_of_ble_eq_true rfl) (x_rv hPE.1 hPE.2.1 rfl) rfl rfl (c_X5_takeSemicolon hGK hIE hpD hPE) rfl (fun hS eS => ?_)
          refine r_ireturn rfl (b2_nar _) dX5_readHeader_69 ?_
          obtain ⟨hFS, hS⟩ := eS
          have hBS := hBE.fr hFS (dj2 hfo.1 hfo.2.1)
          have es : sHead T p = (match sSemi T q4 with | .inl e => .inl e | .inr x => .inr ((numB, numC, numD), x.2)) := by unfold sHead; rw [hr1]; dsimp only; rw [hr2]; dsimp only; rw [hr3]; dsimp only; rw [hr4] <;> rfl
          rw [es]
          cases hz : sSemi T q4 with
          | inl e => rw [hz] at hS; exact ⟨rfl, FRp.tr hHE (FRp.mono hFS (by simp)), ⟨_, hBS⟩, hS.2⟩
          | inr a => rw [hz] at hS; obtain ⟨n9, -, hS⟩ := hS; exact ⟨rfl, FRp.tr hHE (FRp.mono hFS (by simp)), n9, hBS, hS⟩
        · refine i_const (0) dX5_readHeader_53 ?_
          refine r_ireturn rfl (b2_nar false) dX5_readHeader_54 ?_
          obtain ⟨er, hr⟩ := okP_f c50
          rw [hr] at eD
          have es : sHead T p = .inl er := by unfold sHead; rw [hr1]; dsimp only; rw [hr2]; dsimp only; rw [hr3]; dsimp only; rw [hr]
          rw [es]
          obtain ⟨hFx, -, t9, n9, hP9⟩ := eD
          have hFy : FRp [o, to] h _ := FRp.tr hHC hFx
          exact ⟨rfl, FRp.mono hFy (by simp), ⟨B, hB.fr hFy (dj2 hfo.1 hfo.2.1)⟩, t9, n9, hP9⟩
      · refine i_const (0) dX5_readHeader_36 ?_
        refine r_ireturn rfl (b2_nar false) dX5_readHeader_37 ?_
        obtain ⟨er, hr⟩ := okP_f c33
        rw [hr] at eC
        have es : sHead T p = .inl er := by unfold sHead; rw [hr1]; dsimp only; rw [hr2]; dsimp only; rw [hr]
        rw [es]
        obtain ⟨hFx, -, t9, n9, hP9⟩ := eC
        have hFy : FRp [o, to] h _ := FRp.tr hHB hFx
        exact ⟨rfl, FRp.mono hFy (by simp), ⟨B, hB.fr hFy (dj2 hfo.1 hfo.2.1)⟩, t9, n9, hP9⟩
    · refine i_const (0) dX5_readHeader_19 ?_
      refine r_ireturn rfl (b2_nar false) dX5_readHeader_20 ?_
      obtain ⟨er, hr⟩ := okP_f c16
      rw [hr] at eB
      have es : sHead T p = .inl er := by unfold sHead; rw [hr1]; dsimp only; rw [hr]
      rw [es]
      obtain ⟨hFx, -, t9, n9, hP9⟩ := eB
      have hFy : FRp [o, to] h _ := FRp.tr hHA hFx
      exact ⟨rfl, FRp.mono hFy (by simp), ⟨B, hB.fr hFy (dj2 hfo.1 hfo.2.1)⟩, t9, n9, hP9⟩
theorem addLs_len (l : List Int) : ∀ B : AB, (addLs B l).2.length = B.2.length := by
  induction l with
  | nil => intro B; rfl
  | cons x l ih => intro B; rw [addLs, ih, addL_len]
theorem INP.nt0 {G : xG} {h : xH} {K : xK} {o to I I0 : Nat} {T T0 : List Int} {t : Nat × Nat × Nat} {c off num : Int} (hP : PAR G h K o to I0 T0 t c off num) (hI : INP G h I T) : I ∉ [o, to] := by
  obtain ⟨v, m, f, r⟩ := hP.2.2
  obtain ⟨g, m2, f2, r2⟩ := hI
  intro z
  rcases List.mem_cons.mp z with z | z
  · exact ne_oi hP.2.1 f2 z.symm
  · exact ne_oi f f2 (List.mem_singleton.mp z).symm
set_option maxRecDepth 20000 in
set_option maxHeartbeats 1000000 in
theorem c_X5_readBench {G : xG} {h : xH} {K : xK} (hGK : GK G K) {sa : Nat → Nat} (hGT : GT G sa) {o to I : Nat} {T : List Int} (hI : INP G h I T) {T0 : List Int} {t0 : Nat × Nat × Nat} {c0 off0 num0 : Int} {I0 : Nat} (hP : PAR G h K o to I0 T0 t0 c0 off0 num0) {bo bA : Nat} {fp : List Nat} {B : AB} (hB : BN G h bo bA fp B) (hfo : o ∉ fp ∧ to ∉ fp ∧ I ∉ fp) : CC G MX5_readBench [.ref o, .ref I, .int (iI (T.length : Int)), .ref bo] h (fun oo h' => oo = .inl (some (.int (iI (b2 (okP (sBench T)))))) ∧ PS G h h' K o to I T fp (sBench T) (fun a _ h' => BN G h' bo bA fp (addSh (hdB a.1) a.2)) (PB G bo bA fp)) := by
  have hnt := hI.nt0 hP
  have hIn : I ∉ [o, to] ++ fp := by have z := hnt; simp at z ⊢; exact ⟨z.1, z.2, hfo.2.2⟩
  have hL : ∀ i, i ≤ 6 → ∀ (p1 : Nat), p1 ≤ T.length → ∀ (hh : xH) (B1 : AB) (num1 : Int), PAR G hh K o to I T (tokAt T p1) 0 (-1) num1 → BN G hh bo bA fp B1 → B1.2.length = i → FRp ([o, to] ++ fp) h hh → RR G MX5_readBench 19 [(0, .ref o), (1, .ref I), (2, .int (iI ((T.length : Int)))), (3, .ref bo), (4, .int (iI ((i : Int))))] [] hh (xm_R MX5_readBench).cells (xm_R MX5_readBench).slots (fun oo h' => oo = .inl (some (.int (iI (b2 (okP (sSheets T (6 - i) p1)))))) ∧ PS G h h' K o to I T fp (sSheets T (6 - i) p1) (fun l _ h' => BN G h' bo bA fp (addSh B1 l)) (PB G bo bA fp)) := by
    refine down (fun i hi ih => ?_)
    intro p1 hp1 hh B1 num1 hP1 hB1 hc1 hF1
    have hI1 := hI.fr hF1 hIn
    have htb := tokAt_b T hp1
    have not := hP1.ne
    obtain ⟨v1, mt1, ft1, hv1⟩ := hP1.2.2
    obtain ⟨mb1, ⟨vb1, fb1⟩, -⟩ := hB1.mem
    refine r_iload dX5_readBench_19 4 rfl ?_
    refine i_bipush (6) (by decide) dX5_readBench_21 ?_
    refine i_icmpge dX5_readBench_23 (tgt := 55) (by decide) (by unfold in32; omega) ⟨by decide, by decide⟩ (fun c23 => ?_) (fun c23 => ?_)
    · refine r_aload_n dX5_readBench_55 0 rfl ?_
      refine r_get cl_X5 0 (by decide) kf_X5_12 dX5_readBench_56 hP1.1 hP1.2.1 rfl ?_
      refine r_get cl_X10 3 (by decide) kf_X5_43 dX5_readBench_59 mt1 ft1 rfl ?_
      refine r_gets (gk_T hGK 4 (by decide)) kg_X5_66 dX5_readBench_62 ?_
      refine r_acmpne dX5_readBench_65 (tgt := 70) (by decide) (fun c65 => ?_) (fun c65 => ?_)
      · have hk5 : ¬ (tokAt T p1).1 = 4 := fun z => c65 (by rw [z])
        refine r_aload_n dX5_readBench_70 0 rfl ?_
        refine r_aload_n dX5_readBench_71 0 rfl ?_
        refine r_get cl_X5 0 (by decide) kf_X5_12 dX5_readBench_72 hP1.1 hP1.2.1 rfl ?_
        refine r_ldcS (hGT.2.2 ("PastryBench$Parser", 72, "sheet", 0) (List.mem_of_getElem? (i := 0) rfl)) rfl dX5_readBench_75 ?_
        refine p_callV (As := [.ref (sa 0)]) (b := to) (rest := [.ref o]) (w := (some (.int (iI (b2 (isW T (tokAt T p1) (txS 0))))))) (st' := [.int (iI (b2 (isW T (tokAt T p1) (txS 0)))), .ref o]) kv_X5_readBench_32 dX5_readBench_77 rfl rfl (Nat.le_of_ble_eq_true rfl) (Nat.le_of_ble_eq_true rfl) (x_rv mt1 ft1 rfl) rfl rfl (c_X10_isWord hGK hGT.1 hI1 hP1.2.2 (by omega) (hGT.2.1 0 (by decide))) rfl (fun h9 e9 => ?_)
        rw [show h9 = hh from e9]
        refine i_ifeqb dX5_readBench_80 (tgt := 87) (by decide) (fun c80 => ?_) (fun c80 => ?_)
        · refine i_const (1) dX5_readBench_87 ?_
          refine p_callV (As := [.int (iI 1)]) (b := o) (rest := []) (w := (some (.int (iI (b2 false))))) (st' := [.int (iI (b2 false))]) kv_X5_readBench_36 dX5_readBench_88 rfl rfl (Nat.le_of_ble_eq_true rfl) (Nat.le_of_ble_eq_true rfl) (x_rv hP1.1 hP1.2.1 rfl) rfl rfl (c_X5_fail hGK hP1 (c9 := 1)) rfl (fun h9 e9 => ?_)
          refine r_ireturn rfl (b2_nar _) dX5_readBench_91 ?_
          have es0 : sSheets T (6 - i) p1 = sFin T p1 := by
            first
              | (rw [show 6 - i = 0 by omega]; rfl)
              | (rw [show 6 - i = (6 - (i + 1)) + 1 by omega, sSheets, if_pos hk4])
          rw [es0]
          have es : sFin T p1 = sErr T p1 1 := by unfold sFin; rw [if_neg hk5, if_neg (by rw [c80]; decide)]
          rw [es]
          exact ⟨rfl, FRp.tr hF1 (FRp.mono e9.2 (by simp)), ⟨B1, hB1.fr e9.2 (dj2 hfo.1 hfo.2.1)⟩, _, _, e9.1⟩
        · refine i_const (3) dX5_readBench_83 ?_
          refine r_goto dX5_readBench_84 (tgt := 88) (by decide) ?_
          refine p_callV (As := [.int (iI 3)]) (b := o) (rest := []) (w := (some (.int (iI (b2 false))))) (st' := [.int (iI (b2 false))]) kv_X5_readBench_36 dX5_readBench_88 rfl rfl (Nat.le_of_ble_eq_true rfl) (Nat.le_of_ble_eq_true rfl) (x_rv hP1.1 hP1.2.1 rfl) rfl rfl (c_X5_fail hGK hP1 (c9 := 3)) rfl (fun h9 e9 => ?_)
          refine r_ireturn rfl (b2_nar _) dX5_readBench_91 ?_
          have es0 : sSheets T (6 - i) p1 = sFin T p1 := by
            first
              | (rw [show 6 - i = 0 by omega]; rfl)
              | (rw [show 6 - i = (6 - (i + 1)) + 1 by omega, sSheets, if_pos hk4])
          rw [es0]
          have es : sFin T p1 = sErr T p1 3 := by unfold sFin; rw [if_neg hk5, if_pos c80]
          rw [es]
          exact ⟨rfl, FRp.tr hF1 (FRp.mono e9.2 (by simp)), ⟨B1, hB1.fr e9.2 (dj2 hfo.1 hfo.2.1)⟩, _, _, e9.1⟩
      · have hk5 : (tokAt T p1).1 = 4 := by
          by_cases z : (tokAt T p1).1 = 4
          · exact z
          · exact absurd c65 (gk_Tne hGK htb.1 (by omega) z)
        refine i_const (1) dX5_readBench_68 ?_
        refine r_ireturn rfl (b2_nar true) dX5_readBench_69 ?_
        have es0 : sSheets T (6 - i) p1 = sFin T p1 := by
          first
            | (rw [show 6 - i = 0 by omega]; rfl)
            | (rw [show 6 - i = (6 - (i + 1)) + 1 by omega, sSheets, if_pos hk4])
        rw [es0]
        have es : sFin T p1 = .inr ([], p1) := by unfold sFin; rw [if_pos hk5]
        rw [es]
        exact ⟨rfl, hF1, num1, hB1, hP1, hp1⟩
    · refine r_aload_n dX5_readBench_26 0 rfl ?_
      refine r_get cl_X5 0 (by decide) kf_X5_12 dX5_readBench_27 hP1.1 hP1.2.1 rfl ?_
      refine r_get cl_X10 3 (by decide) kf_X5_43 dX5_readBench_30 mt1 ft1 rfl ?_
      refine r_gets (gk_T hGK 4 (by decide)) kg_X5_66 dX5_readBench_33 ?_
      refine r_acmpeq dX5_readBench_36 (tgt := 55) (by decide) (fun c36 => ?_) (fun c36 => ?_)
      · have hk4 : (tokAt T p1).1 = 4 := by
          by_cases z : (tokAt T p1).1 = 4
          · exact z
          · exact absurd c36 (gk_Tne hGK htb.1 (by omega) z)
        refine r_aload_n dX5_readBench_55 0 rfl ?_
        refine r_get cl_X5 0 (by decide) kf_X5_12 dX5_readBench_56 hP1.1 hP1.2.1 rfl ?_
        refine r_get cl_X10 3 (by decide) kf_X5_43 dX5_readBench_59 mt1 ft1 rfl ?_
        refine r_gets (gk_T hGK 4 (by decide)) kg_X5_66 dX5_readBench_62 ?_
        refine r_acmpne dX5_readBench_65 (tgt := 70) (by decide) (fun c65 => ?_) (fun c65 => ?_)
        · have hk5 : ¬ (tokAt T p1).1 = 4 := fun z => c65 (by rw [z])
          refine r_aload_n dX5_readBench_70 0 rfl ?_
          refine r_aload_n dX5_readBench_71 0 rfl ?_
          refine r_get cl_X5 0 (by decide) kf_X5_12 dX5_readBench_72 hP1.1 hP1.2.1 rfl ?_
          refine r_ldcS (hGT.2.2 ("PastryBench$Parser", 72, "sheet", 0) (List.mem_of_getElem? (i := 0) rfl)) rfl dX5_readBench_75 ?_
          refine p_callV (As := [.ref (sa 0)]) (b := to) (rest := [.ref o]) (w := (some (.int (iI (b2 (isW T (tokAt T p1) (txS 0))))))) (st' := [.int (iI (b2 (isW T (tokAt T p1) (txS 0)))), .ref o]) kv_X5_readBench_32 dX5_readBench_77 rfl rfl (Nat.le_of_ble_eq_true rfl) (Nat.le_of_ble_eq_true rfl) (x_rv mt1 ft1 rfl) rfl rfl (c_X10_isWord hGK hGT.1 hI1 hP1.2.2 (by omega) (hGT.2.1 0 (by decide))) rfl (fun h9 e9 => ?_)
          rw [show h9 = hh from e9]
          refine i_ifeqb dX5_readBench_80 (tgt := 87) (by decide) (fun c80 => ?_) (fun c80 => ?_)
          · refine i_const (1) dX5_readBench_87 ?_
            refine p_callV (As := [.int (iI 1)]) (b := o) (rest := []) (w := (some (.int (iI (b2 false))))) (st' := [.int (iI (b2 false))]) kv_X5_readBench_36 dX5_readBench_88 rfl rfl (Nat.le_of_ble_eq_true rfl) (Nat.le_of_ble_eq_true rfl) (x_rv hP1.1 hP1.2.1 rfl) rfl rfl (c_X5_fail hGK hP1 (c9 := 1)) rfl (fun h9 e9 => ?_)
            refine r_ireturn rfl (b2_nar _) dX5_readBench_91 ?_
            have es0 : sSheets T (6 - i) p1 = sFin T p1 := by
              first
                | (rw [show 6 - i = 0 by omega]; rfl)
                | (rw [show 6 - i = (6 - (i + 1)) + 1 by omega, sSheets, if_pos hk4])
            rw [es0]
            have es : sFin T p1 = sErr T p1 1 := by unfold sFin; rw [if_neg hk5, if_neg (by rw [c80]; decide)]
            rw [es]
            exact ⟨rfl, FRp.tr hF1 (FRp.mono e9.2 (by simp)), ⟨B1, hB1.fr e9.2 (dj2 hfo.1 hfo.2.1)⟩, _, _, e9.1⟩
          · refine i_const (3) dX5_readBench_83 ?_
            refine r_goto dX5_readBench_84 (tgt := 88) (by decide) ?_
            refine p_callV (As := [.int (iI 3)]) (b := o) (rest := []) (w := (some (.int (iI (b2 false))))) (st' := [.int (iI (b2 false))]) kv_X5_readBench_36 dX5_readBench_88 rfl rfl (Nat.le_of_ble_eq_true rfl) (Nat.le_of_ble_eq_true rfl) (x_rv hP1.1 hP1.2.1 rfl) rfl rfl (c_X5_fail hGK hP1 (c9 := 3)) rfl (fun h9 e9 => ?_)
            refine r_ireturn rfl (b2_nar _) dX5_readBench_91 ?_
            have es0 : sSheets T (6 - i) p1 = sFin T p1 := by
              first
                | (rw [show 6 - i = 0 by omega]; rfl)
                | (rw [show 6 - i = (6 - (i + 1)) + 1 by omega, sSheets, if_pos hk4])
            rw [es0]
            have es : sFin T p1 = sErr T p1 3 := by unfold sFin; rw [if_neg hk5, if_pos c80]
            rw [es]
            exact ⟨rfl, FRp.tr hF1 (FRp.mono e9.2 (by simp)), ⟨B1, hB1.fr e9.2 (dj2 hfo.1 hfo.2.1)⟩, _, _, e9.1⟩
        · have hk5 : (tokAt T p1).1 = 4 := by
            by_cases z : (tokAt T p1).1 = 4
            · exact z
            · exact absurd c65 (gk_Tne hGK htb.1 (by omega) z)
          refine i_const (1) dX5_readBench_68 ?_
          refine r_ireturn rfl (b2_nar true) dX5_readBench_69 ?_
          have es0 : sSheets T (6 - i) p1 = sFin T p1 := by
            first
              | (rw [show 6 - i = 0 by omega]; rfl)
              | (rw [show 6 - i = (6 - (i + 1)) + 1 by omega, sSheets, if_pos hk4])
          rw [es0]
          have es : sFin T p1 = .inr ([], p1) := by unfold sFin; rw [if_pos hk5]
          rw [es]
          exact ⟨rfl, hF1, num1, hB1, hP1, hp1⟩
      · have hk4 : ¬ (tokAt T p1).1 = 4 := fun z => c36 (by rw [z])
        refine r_aload_n dX5_readBench_39 0 rfl ?_
        refine r_aload_n dX5_readBench_40 3 rfl ?_
        refine p_callV (As := [.ref bo]) (b := o) (rest := []) (w := (some (.int (iI (b2 (okP (sSheet T p1))))))) (st' := [.int (iI (b2 (okP (sSheet T p1))))]) kv_X5_readBench_69 dX5_readBench_41 rfl rfl (Nat.le_of_ble_eq_true rfl) (Nat.le_of_ble_eq_true rfl) (x_rv hP1.1 hP1.2.1 rfl) rfl rfl (c_X5_readSheet hGK hGT hI1 hp1 hP1 hB1 hfo (by omega)) rfl (fun hC eC => ?_)
        refine i_ifneb dX5_readBench_44 (tgt := 49) (by decide) (fun c44 => ?_) (fun c44 => ?_)
        · obtain ⟨a1, a2, hr⟩ := okP_t c44
          rw [hr] at eC
          obtain ⟨hFC, num2, hBC, hPC, hpC⟩ := eC
          have hlc : (addLs (B1.1, B1.2 ++ [bgS a1.1]) a1.2).2.length = i + 1 := by rw [addLs_len]; simp; exact hc1
          refine i_iinc (ls' := [(0, .ref o), (1, .ref I), (2, .int (iI ((T.length : Int)))), (3, .ref bo), (4, .int (iI ((i : Int) + 1)))]) (1) (v := (i : Int) + 1) dX5_readBench_49 4 rfl (by omega) (by decide) rfl ?_
          refine r_goto dX5_readBench_52 (tgt := 19) (by decide) ?_
          exact rr_mono (ih (i + 1) (by omega) (by omega) a2 hpC _ _ _ hPC hBC hlc (FRp.tr hF1 hFC)) (fun oo h9 q => by
              rw [show 6 - i = (6 - (i + 1)) + 1 by omega]
              have es : sSheets T ((6 - (i + 1)) + 1) p1 = (match sSheets T (6 - (i + 1)) a2 with | .inl e => .inl e | .inr b => .inr (a1 :: b.1, b.2)) := by rw [sSheets, if_neg hk4, hr] <;> rfl
              rw [es]
              obtain ⟨q1, q2, q3⟩ := q
              cases hz : sSheets T (6 - (i + 1)) a2 with
              | inl e => rw [hz] at q1 q3; exact ⟨q1, q2, q3⟩
              | inr b => rw [hz] at q1 q3; exact ⟨q1, q2, q3⟩)
        · refine i_const (0) dX5_readBench_47 ?_
          refine r_ireturn rfl (b2_nar false) dX5_readBench_48 ?_
          obtain ⟨er, hr⟩ := okP_f c44
          rw [hr] at eC
          have es : sSheets T (6 - i) p1 = .inl er := by rw [show 6 - i = (6 - (i + 1)) + 1 by omega, sSheets, if_neg hk4, hr]
          rw [es]
          obtain ⟨hFC, hbad, t9, n9, hP9⟩ := eC
          exact ⟨rfl, FRp.tr hF1 hFC, hbad, t9, n9, hP9⟩
  show RR G MX5_readBench 0 [(0, .ref o), (1, .ref I), (2, .int (iI ((T.length : Int)))), (3, .ref bo)] [] h (xm_R MX5_readBench).cells (xm_R MX5_readBench).slots (fun oo h' => oo = .inl (some (.int (iI (b2 (okP (sBench T)))))) ∧ PS G h h' K o to I T fp (sBench T) (fun a _ h' => BN G h' bo bA fp (addSh (hdB a.1) a.2)) (PB G bo bA fp))
  refine r_aload_n dX5_readBench_0 0 rfl ?_
  refine r_aload_n dX5_readBench_1 1 rfl ?_
  refine r_iload_n dX5_readBench_2 2 rfl ?_
  refine p_callV (As := [.ref I, .int (iI ((T.length : Int)))]) (b := o) (rest := []) (w := none) (st' := []) kv_X5_readBench_61 dX5_readBench_3 rfl rfl (Nat.le_of_ble_eq_true rfl) (Nat.le_of_ble_eq_true rfl) (x_rv hP.1 hP.2.1 rfl) rfl rfl (c_X5_begin hGK hI hP) rfl (fun hA eA => ?_)
  have hFA := eA.2
  have hIA := hI.fr hFA hnt
  have hBA := hB.fr hFA (dj2 hfo.1 hfo.2.1)
  refine r_aload_n dX5_readBench_6 0 rfl ?_
  refine r_aload_n dX5_readBench_7 3 rfl ?_
  refine p_callV (As := [.ref bo]) (b := o) (rest := []) (w := (some (.int (iI (b2 (okP (sHead T 0))))))) (st' := [.int (iI (b2 (okP (sHead T 0))))]) kv_X5_readBench_62 dX5_readBench_8 rfl rfl (Nat.le_of_ble_eq_true rfl) (Nat.le_of_ble_eq_true rfl) (x_rv eA.1.1 eA.1.2.1 rfl) rfl rfl (c_X5_readHeader hGK hGT hIA (Nat.zero_le _) eA.1 hBA hfo) rfl (fun hC eC => ?_)
  refine i_ifneb dX5_readBench_11 (tgt := 16) (by decide) (fun c11 => ?_) (fun c11 => ?_)
  · obtain ⟨a1, p1, hr1⟩ := okP_t c11
    rw [hr1] at eC
    obtain ⟨hFC, num1, hBC, hPC, hpC⟩ := eC
    refine i_const (0) dX5_readBench_16 ?_
    refine r_istore (ls' := [(0, .ref o), (1, .ref I), (2, .int (iI ((T.length : Int)))), (3, .ref bo), (4, .int (iI 0))]) dX5_readBench_17 (by decide) rfl ?_
    refine rr_mono (hL 0 (by omega) p1 hpC _ _ _ hPC hBC rfl (FRp.tr (FRp.mono hFA (by simp)) hFC)) (fun oo h9 q => ?_)
    have es : sBench T = (match sSheets T 6 p1 with | .inl e => .inl e | .inr b => .inr ((a1, b.1), b.2)) := by unfold sBench; rw [hr1] <;> rfl
    rw [es]
    obtain ⟨q1, q2, q3⟩ := q
    cases hz : sSheets T 6 p1 with
    | inl e => rw [hz] at q1 q3; exact ⟨q1, q2, q3⟩
    | inr b => rw [hz] at q1 q3; exact ⟨q1, q2, q3⟩
  · refine i_const (0) dX5_readBench_14 ?_
    refine r_ireturn rfl (b2_nar false) dX5_readBench_15 ?_
    obtain ⟨er, hr⟩ := okP_f c11
    rw [hr] at eC
    have es : sBench T = .inl er := by unfold sBench; rw [hr]
    rw [es]
    obtain ⟨hFC, hbad, t9, n9, hP9⟩ := eC
    exact ⟨rfl, FRp.tr (FRp.mono hFA (by simp)) hFC, hbad, t9, n9, hP9⟩
