/-! ===== the class: history, snapshot, output ===== -/
set_option maxRecDepth 20000 in
set_option maxHeartbeats 1000000 in
theorem c_X11_undo_ok {G : xG} {h : xH} {K : xK} {sa : Nat → Nat} (hGC : GC G K sa) (hGT : GT G sa) (hGE : GE G) {x : Nat} {ad : XA} {S : XS} (hX : XB G h K x ad S) (hW : WX S) (h1 : 1 ≤ S.2.2.2.2.1.length) : CC G MX11_undo [.ref x] h (fun o' h' => o' = .inl (some (.int (iI (S.2.2.2.2.1.dropLast.length : Int)))) ∧ XB G h' K x ad (S.1, S.2.1, S.2.2.2.2.1.getD (S.2.2.2.2.1.length - 1) dB, S.2.2.2.1, S.2.2.2.2.1.dropLast, S.2.2.2.2.2) ∧ FRp (fpX x ad) h h') := by
  have hX0 := hX
  have hGK := hGC.1
  have hG := gk_D hGK
  obtain ⟨I, ⟨po, to⟩, ⟨so, ca, cb, cc⟩, ⟨o, A, fp⟩, ⟨wo, wA, wfp⟩, ⟨vo, vA, vfp⟩, ⟨yo, yA, yfp⟩, ⟨uo, uA⟩⟩ := ad
  obtain ⟨inp, ⟨cod, off⟩, B, sn, Hs, out⟩ := S
  obtain ⟨mx, fx, hI, hPs, hSs, hB, hDr, hSn, hH, hU, hDJ⟩ := hX
  obtain ⟨hWB, hWh, hWs9, hWi⟩ := hW
  have hWB : WB B := hWB
  have hB : BN G h o A fp B := hB
  have fx : h.2 x = .inr (7, [.ref I, .int (iI (inp.length : Int)), .ref po, .ref so, .ref o, .ref wo, .ref vo, .int (iI (b2 sn.isSome)), .ref yo, .ref uo]) := fx
  obtain ⟨I0, T0, t0, num0, hPs⟩ := hPs
  obtain ⟨cs0, hSs⟩ := hSs
  obtain ⟨Bd, hDr⟩ := hDr
  obtain ⟨Bv, hSn, hSv⟩ := hSn
  obtain ⟨yg, ybo, yX, ⟨my, -⟩, fy, -⟩ := id hH
  have fy : h.2 yo = .inr (1, [.ref yA, .int (iI (Hs.length : Int))]) := fy
  obtain ⟨vb, fb⟩ := hB.mem.2.1
  have h1 : 1 ≤ Hs.length := h1
  have hl8 : Hs.length ≤ 8 := by obtain ⟨g9, bo9, X9, q⟩ := hH; exact q.2.2.2.1
  show RR G MX11_undo 0 [(0, .ref x)] [] h (xm_R MX11_undo).cells (xm_R MX11_undo).slots (fun o' h' => o' = .inl (some (.int (iI (Hs.dropLast.length : Int)))) ∧ XB G h' K x (I, (po, to), (so, ca, cb, cc), (o, A, fp), (wo, wA, wfp), (vo, vA, vfp), (yo, yA, yfp), (uo, uA)) (inp, (cod, off), Hs.getD (Hs.length - 1) dB, sn, Hs.dropLast, out) ∧ FRp (fpX x (I, (po, to), (so, ca, cb, cc), (o, A, fp), (wo, wA, wfp), (vo, vA, vfp), (yo, yA, yfp), (uo, uA))) h h')
  refine r_aload_n dX11_undo_0 0 rfl ?_
  refine r_get cl_X11 8 (by decide) kf_X11_47 dX11_undo_1 mx fx rfl ?_
  refine r_get cl_X3 1 (by decide) kf_X11_313 dX11_undo_4 my fy rfl ?_
  refine i_ifne dX11_undo_7 (tgt := 21) (by decide) (by unfold in32; omega) (fun c7 => ?_) (fun c7 => ?_)
  · refine r_aload_n dX11_undo_21 0 rfl ?_
    refine r_get cl_X11 8 (by decide) kf_X11_47 dX11_undo_22 mx fx rfl ?_
    refine r_aload_n dX11_undo_25 0 rfl ?_
    refine r_get cl_X11 4 (by decide) kf_X11_33 dX11_undo_26 mx fx rfl ?_
    refine p_callV (As := [.ref o]) (b := yo) (rest := []) (w := none) (st' := []) kv_X11_undo_319 dX11_undo_29 rfl rfl (Nat.le_of_ble_eq_true rfl) (Nat.le_of_ble_eq_true rfl) (x_rv my fy rfl) rfl rfl (c_X3_takeBack hH hB (hDJ 7 4 (by decide) (by decide) (by decide)) h1) rfl (fun h9 e9 => ?_)
    obtain ⟨hH9, hB9, hF9⟩ := e9
    have hJ : FRp (jn (grp x (I, (po, to), (so, ca, cb, cc), (o, A, fp), (wo, wA, wfp), (vo, vA, vfp), (yo, yA, yfp), (uo, uA))) [4, 7]) h h9 := hF9.mono (fun q hq => (List.mem_append.mp hq).elim (fun z => jn_m (c := 7) (by decide) z) (fun z => jn_m (c := 4) (by decide) z))
    have fx9 := (hJ.2 x (djn hDJ (k := 0) (by decide) (by decide) x (by simp [grp]))).trans fx
    have mx9 : x ∈ h9.1 := by rw [hJ.1]; exact mx
    obtain ⟨yg9, ybo9, yX9, ⟨my9, -⟩, fy9, -⟩ := id hH9
    refine r_aload_n dX11_undo_32 0 rfl ?_
    refine r_get cl_X11 8 (by decide) kf_X11_47 dX11_undo_33 mx9 fx9 rfl ?_
    refine r_get cl_X3 1 (by decide) kf_X11_313 dX11_undo_36 my9 fy9 rfl ?_
    refine r_ireturn rfl rfl dX11_undo_39 ?_
    exact ⟨rfl, ⟨by rw [hJ.1]; exact mx, (hJ.2 x (djn hDJ (k := 0) (by decide) (by decide) _ (by simp [grp]))).trans fx, hI.fr hJ (djn hDJ (k := 1) (by decide) (by decide) _ (by simp [grp])), ⟨I0, T0, t0, num0, hPs.fr hJ (djn hDJ (k := 2) (by decide) (by decide) _ (by simp [grp])) (djn hDJ (k := 2) (by decide) (by decide) _ (by simp [grp]))⟩, ⟨cs0, hSs.fr hJ (djn hDJ (k := 3) (by decide) (by decide) _ (by simp [grp])) (djn hDJ (k := 3) (by decide) (by decide) _ (by simp [grp])) (djn hDJ (k := 3) (by decide) (by decide) _ (by simp [grp])) (djn hDJ (k := 3) (by decide) (by decide) _ (by simp [grp]))⟩, hB9, ⟨Bd, hDr.fr hJ (djn hDJ (k := 5) (by decide) (by decide))⟩, ⟨Bv, hSn.fr hJ (djn hDJ (k := 6) (by decide) (by decide)), hSv⟩, hH9, hU.fr hJ (djn hDJ (k := 8) (by decide) (by decide) _ (by simp [grp])) (djn hDJ (k := 8) (by decide) (by decide) _ (by simp [grp])), hDJ⟩, hJ.X (by decide)⟩
  · exfalso
    omega
set_option maxRecDepth 20000 in
set_option maxHeartbeats 1000000 in
theorem c_X11_undo_no {G : xG} {h : xH} {K : xK} {sa : Nat → Nat} (hGC : GC G K sa) (hGT : GT G sa) (hGE : GE G) {x : Nat} {ad : XA} {S : XS} (hX : XB G h K x ad S) (hW : WX S) (h1 : S.2.2.2.2.1.length = 0) : CC G MX11_undo [.ref x] h (fun o' h' => o' = .inr eS ∧ h' = h) := by
  have hX0 := hX
  have hGK := hGC.1
  have hG := gk_D hGK
  obtain ⟨I, ⟨po, to⟩, ⟨so, ca, cb, cc⟩, ⟨o, A, fp⟩, ⟨wo, wA, wfp⟩, ⟨vo, vA, vfp⟩, ⟨yo, yA, yfp⟩, ⟨uo, uA⟩⟩ := ad
  obtain ⟨inp, ⟨cod, off⟩, B, sn, Hs, out⟩ := S
  obtain ⟨mx, fx, hI, hPs, hSs, hB, hDr, hSn, hH, hU, hDJ⟩ := hX
  obtain ⟨hWB, hWh, hWs9, hWi⟩ := hW
  have hWB : WB B := hWB
  have hB : BN G h o A fp B := hB
  have fx : h.2 x = .inr (7, [.ref I, .int (iI (inp.length : Int)), .ref po, .ref so, .ref o, .ref wo, .ref vo, .int (iI (b2 sn.isSome)), .ref yo, .ref uo]) := fx
  obtain ⟨yg, ybo, yX, ⟨my, -⟩, fy, -⟩ := id hH
  have fy : h.2 yo = .inr (1, [.ref yA, .int (iI (Hs.length : Int))]) := fy
  have h1 : Hs.length = 0 := h1
  show RR G MX11_undo 0 [(0, .ref x)] [] h (xm_R MX11_undo).cells (xm_R MX11_undo).slots (fun o' h' => o' = .inr eS ∧ h' = h)
  refine r_aload_n dX11_undo_0 0 rfl ?_
  refine r_get cl_X11 8 (by decide) kf_X11_47 dX11_undo_1 mx fx rfl ?_
  refine r_get cl_X3 1 (by decide) kf_X11_313 dX11_undo_4 my fy rfl ?_
  refine i_ifne dX11_undo_7 (tgt := 21) (by decide) (by unfold in32; omega) (fun c7 => ?_) (fun c7 => ?_)
  · exfalso
    omega
  · refine r_throwSW (cls := eS) (text := "nothing to undo") (hGE.1 (eS, 318) (by simp)) hGE.2.1 hGE.2.2.1 (hGE.2.2.2 (316, "nothing to undo") (by decide)) exk_S exi_S exg_S (by decide) dX11_undo_10 dX11_undo_13 dX11_undo_14 dX11_undo_17 dX11_undo_20 rfl ⟨Nat.le_of_ble_eq_true rfl, Nat.le_of_ble_eq_true rfl⟩ (Nat.le_of_ble_eq_true rfl) (Nat.le_of_ble_eq_true rfl) ?_
    exact ⟨rfl, rfl⟩
set_option maxRecDepth 20000 in
set_option maxHeartbeats 1000000 in
theorem c_X11_saveSnapshot {G : xG} {h : xH} {K : xK} {sa : Nat → Nat} (hGC : GC G K sa) (hGT : GT G sa) (hGE : GE G) {x : Nat} {ad : XA} {S : XS} (hX : XB G h K x ad S) (hW : WX S) : CC G MX11_saveSnapshot [.ref x] h (fun o' h' => o' = .inl none ∧ XB G h' K x ad (S.1, S.2.1, S.2.2.1, some S.2.2.1, S.2.2.2.2.1, S.2.2.2.2.2) ∧ FRp (fpX x ad) h h') := by
  have hX0 := hX
  have hGK := hGC.1
  have hG := gk_D hGK
  obtain ⟨I, ⟨po, to⟩, ⟨so, ca, cb, cc⟩, ⟨o, A, fp⟩, ⟨wo, wA, wfp⟩, ⟨vo, vA, vfp⟩, ⟨yo, yA, yfp⟩, ⟨uo, uA⟩⟩ := ad
  obtain ⟨inp, ⟨cod, off⟩, B, sn, Hs, out⟩ := S
  obtain ⟨mx, fx, hI, hPs, hSs, hB, hDr, hSn, hH, hU, hDJ⟩ := hX
  obtain ⟨hWB, hWh, hWs9, hWi⟩ := hW
  have hWB : WB B := hWB
  have hB : BN G h o A fp B := hB
  have fx : h.2 x = .inr (7, [.ref I, .int (iI (inp.length : Int)), .ref po, .ref so, .ref o, .ref wo, .ref vo, .int (iI (b2 sn.isSome)), .ref yo, .ref uo]) := fx
  obtain ⟨I0, T0, t0, num0, hPs⟩ := hPs
  obtain ⟨cs0, hSs⟩ := hSs
  obtain ⟨Bd, hDr⟩ := hDr
  obtain ⟨Bv, hSn, hSv⟩ := hSn
  obtain ⟨vb, fb⟩ := hB.mem.2.1
  obtain ⟨vv, fv⟩ := hSn.mem.2.1
  show RR G MX11_saveSnapshot 0 [(0, .ref x)] [] h (xm_R MX11_saveSnapshot).cells (xm_R MX11_saveSnapshot).slots (fun o' h' => o' = .inl none ∧ XB G h' K x (I, (po, to), (so, ca, cb, cc), (o, A, fp), (wo, wA, wfp), (vo, vA, vfp), (yo, yA, yfp), (uo, uA)) (inp, (cod, off), B, some B, Hs, out) ∧ FRp (fpX x (I, (po, to), (so, ca, cb, cc), (o, A, fp), (wo, wA, wfp), (vo, vA, vfp), (yo, yA, yfp), (uo, uA))) h h')
  refine r_aload_n dX11_saveSnapshot_0 0 rfl ?_
  refine r_get cl_X11 6 (by decide) kf_X11_41 dX11_saveSnapshot_1 mx fx rfl ?_
  refine r_aload_n dX11_saveSnapshot_4 0 rfl ?_
  refine r_get cl_X11 4 (by decide) kf_X11_33 dX11_saveSnapshot_5 mx fx rfl ?_
  refine p_callV (As := [.ref o]) (b := vo) (rest := []) (w := none) (st' := []) kv_X11_saveSnapshot_73 dX11_saveSnapshot_8 rfl rfl (Nat.le_of_ble_eq_true rfl) (Nat.le_of_ble_eq_true rfl) (x_rv hSn.mem.1 fv rfl) rfl rfl (c_X1_copyFrom hSn hB (hDJ 6 4 (by decide) (by decide) (by decide))) rfl (fun h9 e9 => ?_)
  obtain ⟨hV9, hF9⟩ := e9
  have hJ9 : FRp (jn (grp x (I, (po, to), (so, ca, cb, cc), (o, A, fp), (wo, wA, wfp), (vo, vA, vfp), (yo, yA, yfp), (uo, uA))) [0, 6]) h h9 := hF9.toJ 6 (by decide) rfl
  have fx9 := (hF9.2 x (hDJ 0 6 (by decide) (by decide) (by decide) x (by simp [grp]))).trans fx
  have mx9 : x ∈ h9.1 := by rw [hF9.1]; exact mx
  refine r_aload_n dX11_saveSnapshot_11 0 rfl ?_
  refine i_const (1) dX11_saveSnapshot_12 ?_
  refine i_put [.ref I, .int (iI ((inp.length : Int))), .ref po, .ref so, .ref o, .ref wo, .ref vo, .int (iI 1), .ref yo, .ref uo] cl_X11 7 (by decide) kf_X11_80 rfl dX11_saveSnapshot_13 mx9 fx9 (b2_nar true) (b2_fit true) (by simp) rfl (fun h1 e0_1 e1_1 e2_1 => ?_)
  have mx_1 : x ∈ h1.1 := by rw [e0_1]; exact mx9
  refine r_return rfl dX11_saveSnapshot_16 ?_
  have hw : FRp [x] h9 h1 := FRp.w (by simp) e0_1 e2_1
  have hJ : FRp (jn (grp x (I, (po, to), (so, ca, cb, cc), (o, A, fp), (wo, wA, wfp), (vo, vA, vfp), (yo, yA, yfp), (uo, uA))) [0, 6]) h h1 := FRp.tr hJ9 (hw.toJ 0 (by decide) rfl)
  have hV8 := hV9.fr hw (hDJ 6 0 (by decide) (by decide) (by decide))
  exact ⟨rfl, ⟨by rw [hJ.1]; exact mx, e1_1, hI.fr hJ (djn hDJ (k := 1) (by decide) (by decide) _ (by simp [grp])), ⟨I0, T0, t0, num0, hPs.fr hJ (djn hDJ (k := 2) (by decide) (by decide) _ (by simp [grp])) (djn hDJ (k := 2) (by decide) (by decide) _ (by simp [grp]))⟩, ⟨cs0, hSs.fr hJ (djn hDJ (k := 3) (by decide) (by decide) _ (by simp [grp])) (djn hDJ (k := 3) (by decide) (by decide) _ (by simp [grp])) (djn hDJ (k := 3) (by decide) (by decide) _ (by simp [grp])) (djn hDJ (k := 3) (by decide) (by decide) _ (by simp [grp]))⟩, hB.fr hJ (djn hDJ (k := 4) (by decide) (by decide)), ⟨Bd, hDr.fr hJ (djn hDJ (k := 5) (by decide) (by decide))⟩, ⟨B, hV8, fun B9 z => by cases z; rfl⟩, hH.fr hJ (djn hDJ (k := 7) (by decide) (by decide)), hU.fr hJ (djn hDJ (k := 8) (by decide) (by decide) _ (by simp [grp])) (djn hDJ (k := 8) (by decide) (by decide) _ (by simp [grp])), hDJ⟩, hJ.X (by decide)⟩
set_option maxRecDepth 20000 in
set_option maxHeartbeats 1000000 in
theorem c_X11_restoreSnapshot_ok {G : xG} {h : xH} {K : xK} {sa : Nat → Nat} (hGC : GC G K sa) (hGT : GT G sa) (hGE : GE G) {x : Nat} {ad : XA} {S : XS} (hX : XB G h K x ad S) (hW : WX S) {B0 : AB} (hs0 : S.2.2.2.1 = some B0) : CC G MX11_restoreSnapshot [.ref x] h (fun o' h' => o' = .inl (some (.int (iI (B0.2.length : Int)))) ∧ XB G h' K x ad (S.1, S.2.1, B0, some B0, [], S.2.2.2.2.2) ∧ FRp (fpX x ad) h h') := by
  have hX0 := hX
  have hGK := hGC.1
  have hG := gk_D hGK
  obtain ⟨I, ⟨po, to⟩, ⟨so, ca, cb, cc⟩, ⟨o, A, fp⟩, ⟨wo, wA, wfp⟩, ⟨vo, vA, vfp⟩, ⟨yo, yA, yfp⟩, ⟨uo, uA⟩⟩ := ad
  obtain ⟨inp, ⟨cod, off⟩, B, sn, Hs, out⟩ := S
  obtain ⟨mx, fx, hI, hPs, hSs, hB, hDr, hSn, hH, hU, hDJ⟩ := hX
  obtain ⟨hWB, hWh, hWs9, hWi⟩ := hW
  have hWB : WB B := hWB
  have hB : BN G h o A fp B := hB
  have fx : h.2 x = .inr (7, [.ref I, .int (iI (inp.length : Int)), .ref po, .ref so, .ref o, .ref wo, .ref vo, .int (iI (b2 sn.isSome)), .ref yo, .ref uo]) := fx
  obtain ⟨I0, T0, t0, num0, hPs⟩ := hPs
  obtain ⟨cs0, hSs⟩ := hSs
  obtain ⟨Bd, hDr⟩ := hDr
  obtain ⟨Bv, hSn, hSv⟩ := hSn
  obtain ⟨vb, fb⟩ := hB.mem.2.1
  obtain ⟨yg, ybo, yX, ⟨my, -⟩, fy, -⟩ := id hH
  have fy : h.2 yo = .inr (1, [.ref yA, .int (iI (Hs.length : Int))]) := fy
  obtain ⟨vv, fv⟩ := hSn.mem.2.1
  have hs0 : sn = some B0 := hs0
  subst hs0
  have hSn : BN G h vo vA vfp B0 := by rw [← hSv B0 rfl]; exact hSn
  show RR G MX11_restoreSnapshot 0 [(0, .ref x)] [] h (xm_R MX11_restoreSnapshot).cells (xm_R MX11_restoreSnapshot).slots (fun o' h' => o' = .inl (some (.int (iI (B0.2.length : Int)))) ∧ XB G h' K x (I, (po, to), (so, ca, cb, cc), (o, A, fp), (wo, wA, wfp), (vo, vA, vfp), (yo, yA, yfp), (uo, uA)) (inp, (cod, off), B0, some B0, [], out) ∧ FRp (fpX x (I, (po, to), (so, ca, cb, cc), (o, A, fp), (wo, wA, wfp), (vo, vA, vfp), (yo, yA, yfp), (uo, uA))) h h')
  refine r_aload_n dX11_restoreSnapshot_0 0 rfl ?_
  refine r_get cl_X11 7 (by decide) kf_X11_80 dX11_restoreSnapshot_1 mx fx rfl ?_
  refine i_ifneb dX11_restoreSnapshot_4 (tgt := 18) (by decide) (fun c4 => ?_) (fun c4 => ?_)
  · refine r_aload_n dX11_restoreSnapshot_18 0 rfl ?_
    refine r_get cl_X11 4 (by decide) kf_X11_33 dX11_restoreSnapshot_19 mx fx rfl ?_
    refine r_aload_n dX11_restoreSnapshot_22 0 rfl ?_
    refine r_get cl_X11 6 (by decide) kf_X11_41 dX11_restoreSnapshot_23 mx fx rfl ?_
    refine p_callV (As := [.ref vo]) (b := o) (rest := []) (w := none) (st' := []) kv_X11_restoreSnapshot_73 dX11_restoreSnapshot_26 rfl rfl (Nat.le_of_ble_eq_true rfl) (Nat.le_of_ble_eq_true rfl) (x_rv hB.mem.1 fb rfl) rfl rfl (c_X1_copyFrom hB hSn (hDJ 4 6 (by decide) (by decide) (by decide))) rfl (fun h9 e9 => ?_)
    obtain ⟨hB9, hF9⟩ := e9
    have fx9 := (hF9.2 x (hDJ 0 4 (by decide) (by decide) (by decide) x (by simp [grp]))).trans fx
    have mx9 : x ∈ h9.1 := by rw [hF9.1]; exact mx
    have hH9 := hH.fr hF9 (hDJ 7 4 (by decide) (by decide) (by decide))
    obtain ⟨yg9, ybo9, yX9, ⟨my9, -⟩, fy9, -⟩ := id hH9
    refine r_aload_n dX11_restoreSnapshot_29 0 rfl ?_
    refine r_get cl_X11 8 (by decide) kf_X11_47 dX11_restoreSnapshot_30 mx9 fx9 rfl ?_
    refine p_callV (As := []) (b := yo) (rest := []) (w := none) (st' := []) kv_X11_restoreSnapshot_77 dX11_restoreSnapshot_33 rfl rfl (Nat.le_of_ble_eq_true rfl) (Nat.le_of_ble_eq_true rfl) (x_rv my9 fy9 rfl) rfl rfl (c_X3_forget hH9) rfl (fun hE eE => ?_)
    obtain ⟨hHE, hFE⟩ := eE
    have hJ : FRp (jn (grp x (I, (po, to), (so, ca, cb, cc), (o, A, fp), (wo, wA, wfp), (vo, vA, vfp), (yo, yA, yfp), (uo, uA))) [4, 7]) h hE := FRp.tr (hF9.toJ 4 (by decide) rfl) (hFE.toJ 7 (by decide) rfl)
    have hBE := hB9.fr hFE (hDJ 4 7 (by decide) (by decide) (by decide))
    have fx8 := (hFE.2 x (hDJ 0 7 (by decide) (by decide) (by decide) x (by simp [grp]))).trans fx9
    have mx8 : x ∈ hE.1 := by rw [hFE.1]; exact mx9
    obtain ⟨g8, bs8, F8, ⟨mo8, -⟩, fo8, -⟩ := id hBE
    refine r_aload_n dX11_restoreSnapshot_36 0 rfl ?_
    refine r_get cl_X11 4 (by decide) kf_X11_33 dX11_restoreSnapshot_37 mx8 fx8 rfl ?_
    refine r_get cl_X1 1 (by decide) kf_X11_84 dX11_restoreSnapshot_40 mo8 fo8 rfl ?_
    refine r_ireturn rfl rfl dX11_restoreSnapshot_43 ?_
    exact ⟨rfl, ⟨by rw [hJ.1]; exact mx, (hJ.2 x (djn hDJ (k := 0) (by decide) (by decide) _ (by simp [grp]))).trans fx, hI.fr hJ (djn hDJ (k := 1) (by decide) (by decide) _ (by simp [grp])), ⟨I0, T0, t0, num0, hPs.fr hJ (djn hDJ (k := 2) (by decide) (by decide) _ (by simp [grp])) (djn hDJ (k := 2) (by decide) (by decide) _ (by simp [grp]))⟩, ⟨cs0, hSs.fr hJ (djn hDJ (k := 3) (by decide) (by decide) _ (by simp [grp])) (djn hDJ (k := 3) (by decide) (by decide) _ (by simp [grp])) (djn hDJ (k := 3) (by decide) (by decide) _ (by simp [grp])) (djn hDJ (k := 3) (by decide) (by decide) _ (by simp [grp]))⟩, hBE, ⟨Bd, hDr.fr hJ (djn hDJ (k := 5) (by decide) (by decide))⟩, ⟨B0, hSn.fr hJ (djn hDJ (k := 6) (by decide) (by decide)), fun B9 z => by cases z; rfl⟩, hHE, hU.fr hJ (djn hDJ (k := 8) (by decide) (by decide) _ (by simp [grp])) (djn hDJ (k := 8) (by decide) (by decide) _ (by simp [grp])), hDJ⟩, hJ.X (by decide)⟩
  · cases c4
set_option maxRecDepth 20000 in
set_option maxHeartbeats 1000000 in
theorem c_X11_restoreSnapshot_no {G : xG} {h : xH} {K : xK} {sa : Nat → Nat} (hGC : GC G K sa) (hGT : GT G sa) (hGE : GE G) {x : Nat} {ad : XA} {S : XS} (hX : XB G h K x ad S) (hW : WX S) (hs0 : S.2.2.2.1 = none) : CC G MX11_restoreSnapshot [.ref x] h (fun o' h' => o' = .inr eS ∧ h' = h) := by
  have hX0 := hX
  have hGK := hGC.1
  have hG := gk_D hGK
  obtain ⟨I, ⟨po, to⟩, ⟨so, ca, cb, cc⟩, ⟨o, A, fp⟩, ⟨wo, wA, wfp⟩, ⟨vo, vA, vfp⟩, ⟨yo, yA, yfp⟩, ⟨uo, uA⟩⟩ := ad
  obtain ⟨inp, ⟨cod, off⟩, B, sn, Hs, out⟩ := S
  obtain ⟨mx, fx, hI, hPs, hSs, hB, hDr, hSn, hH, hU, hDJ⟩ := hX
  obtain ⟨hWB, hWh, hWs9, hWi⟩ := hW
  have hWB : WB B := hWB
  have hB : BN G h o A fp B := hB
  have fx : h.2 x = .inr (7, [.ref I, .int (iI (inp.length : Int)), .ref po, .ref so, .ref o, .ref wo, .ref vo, .int (iI (b2 sn.isSome)), .ref yo, .ref uo]) := fx
  have hs0 : sn = none := hs0
  subst hs0
  show RR G MX11_restoreSnapshot 0 [(0, .ref x)] [] h (xm_R MX11_restoreSnapshot).cells (xm_R MX11_restoreSnapshot).slots (fun o' h' => o' = .inr eS ∧ h' = h)
  refine r_aload_n dX11_restoreSnapshot_0 0 rfl ?_
  refine r_get cl_X11 7 (by decide) kf_X11_80 dX11_restoreSnapshot_1 mx fx rfl ?_
  refine i_ifneb dX11_restoreSnapshot_4 (tgt := 18) (by decide) (fun c4 => ?_) (fun c4 => ?_)
  · cases c4
  · refine r_throwSW (cls := eS) (text := "no snapshot") (hGE.1 (eS, 318) (by simp)) hGE.2.1 hGE.2.2.1 (hGE.2.2.2 (322, "no snapshot") (by decide)) exk_S exi_S exg_S (by decide) dX11_restoreSnapshot_7 dX11_restoreSnapshot_10 dX11_restoreSnapshot_11 dX11_restoreSnapshot_14 dX11_restoreSnapshot_17 rfl ⟨Nat.le_of_ble_eq_true rfl, Nat.le_of_ble_eq_true rfl⟩ (Nat.le_of_ble_eq_true rfl) (Nat.le_of_ble_eq_true rfl) ?_
    exact ⟨rfl, rfl⟩
set_option maxRecDepth 20000 in
set_option maxHeartbeats 1000000 in
theorem c_X11_writeSheet_ok {G : xG} {h : xH} {K : xK} {sa : Nat → Nat} (hGC : GC G K sa) (hGT : GT G sa) (hGE : GE G) {x : Nat} {ad : XA} {S : XS} (hX : XB G h K x ad S) (hW : WX S) {z : Int} (hz : in32 z) (hs : hasS S.2.2.1 z = true) : CC G MX11_writeSheet [.ref x, .int (iI z)] h (fun o' h' => o' = .inl (some (.int (iI ((wrL (sAt S.2.2.1 z).1 (sAt S.2.2.1 z).1.length).length : Int)))) ∧ XB G h' K x ad (S.1, S.2.1, S.2.2.1, S.2.2.2.1, S.2.2.2.2.1, wrL (sAt S.2.2.1 z).1 (sAt S.2.2.1 z).1.length) ∧ FRp (fpX x ad) h h') := by
  have hX0 := hX
  have hGK := hGC.1
  have hG := gk_D hGK
  obtain ⟨I, ⟨po, to⟩, ⟨so, ca, cb, cc⟩, ⟨o, A, fp⟩, ⟨wo, wA, wfp⟩, ⟨vo, vA, vfp⟩, ⟨yo, yA, yfp⟩, ⟨uo, uA⟩⟩ := ad
  obtain ⟨inp, ⟨cod, off⟩, B, sn, Hs, out⟩ := S
  obtain ⟨mx, fx, hI, hPs, hSs, hB, hDr, hSn, hH, hU, hDJ⟩ := hX
  obtain ⟨hWB, hWh, hWs9, hWi⟩ := hW
  have hWB : WB B := hWB
  have hB : BN G h o A fp B := hB
  have fx : h.2 x = .inr (7, [.ref I, .int (iI (inp.length : Int)), .ref po, .ref so, .ref o, .ref wo, .ref vo, .int (iI (b2 sn.isSome)), .ref yo, .ref uo]) := fx
  obtain ⟨I0, T0, t0, num0, hPs⟩ := hPs
  obtain ⟨cs0, hSs⟩ := hSs
  obtain ⟨Bd, hDr⟩ := hDr
  obtain ⟨Bv, hSn, hSv⟩ := hSn
  obtain ⟨⟨ro, me, fl, ho, ec, bk⟩, Ls⟩ := B
  have hB0 := hB
  obtain ⟨g, bs, F, hBo⟩ := hB
  have hBo0 := hBo
  obtain ⟨⟨mO, mA⟩, fO, fA, hL6, hLF, hK, hD, hfp⟩ := hBo
  have hL6 : Ls.length ≤ 6 := hL6
  have hLF : ∀ i, i < Ls.length → F i = Ls.getD i dS := hLF
  have fO : h.2 o = .inr (0, [.ref A, .int (iI (Ls.length : Int)), .int (iI ro), .int (iI me), .int (iI fl), .int (iI ho), .int (iI ec), .int (iI bk)]) := fO
  have nOA : o ≠ A := ne_oi fO fA
  obtain ⟨hWs, hro, hme, hfl, hho⟩ := hWB
  have hro : 0 ≤ ro ∧ ro ≤ 40 := hro
  have hme : 5 ≤ me ∧ me ≤ 35 := hme
  have hfl : 0 ≤ fl ∧ fl ≤ 999 := hfl
  have hho : 0 ≤ ho ∧ ho ≤ 9999 := hho
  have hWs : ∀ s ∈ Ls, WS s := hWs
  obtain ⟨hz0, hz1⟩ := hasS_t hs
  have hz1 : z < (Ls.length : Int) := hz1
  obtain ⟨i, rfl⟩ : ∃ i : Nat, z = (i : Int) := ⟨z.toNat, by omega⟩
  clear hs
  have hi : i < Ls.length := (by omega)
  have hi6 : i < 6 := by omega
  obtain ⟨a, t, b, hbs⟩ : ∃ a t b, bs i = (a, t, b) := ⟨_, _, _, rfl⟩
  have hgi : g i = some a := by rw [(hK i hi6).1, hbs]
  obtain ⟨s, hs⟩ : ∃ s, s = Ls.getD i dS := ⟨_, rfl⟩
  have hS : SH G h a t b s := by have z := (hK i hi6).2; rw [hbs, hLF i hi, ← hs] at z; exact z
  have hW : WS s := by rw [hs]; exact hWs _ (getD_memS hi)
  obtain ⟨l, ex, wa, fo, du, se, co⟩ := s
  have hS0 := hS
  obtain ⟨gt, gb, ⟨ma, mt, mb⟩, ⟨nta, nba, ntb⟩, fa, ft, fb, hl, hr⟩ := hS
  have hl : l.length ≤ 200 := hl
  have hr : sr gt gb l := hr
  have fa : h.2 a = .inr (5, [.ref t, .ref b, .int (iI (l.length : Int)), .int (iI ex), .int fo, .int (iI wa), .int (iI (b2 du)), .int (iI (b2 se)), .int (iI (b2 co))]) := fa
  have hW0 := hW
  obtain ⟨h1, hnz, h4, hw0, hw1⟩ := hW
  have h1 : 1 ≤ l.length := h1
  have h4 : hgt l ≤ 4000 := h4
  have hw0 : 0 ≤ wa := hw0
  have hw1 : wa ≤ 40 := hw1
  have hnz : ∀ x ∈ l, x ≠ 0 := hnz
  have hg0 := hgt_nn l
  have hgl := hgt_ge l hnz
  have noa : o ≠ a := ne_oo fO fa (by decide)
  have not : o ≠ t := ne_oi fO ft
  have nob : o ≠ b := ne_oi fO fb
  have nAa : A ≠ a := (ne_oi fa fA).symm
  have nAt : A ≠ t := ne_sz fA ft (by decide)
  have nAb : A ≠ b := ne_sz fA fb (by decide)
  have hs2 : sAt ((ro, me, fl, ho, ec, bk), Ls) (i : Int) = (l, ex, wa, fo, du, se, co) := hs.symm
  have cS := c_X11_sheetAt_ok (h := h) hGC hGE mx fx hBo0 (i := i) hi
  rw [hbs] at cS
  have hT9 : TRin fp (a, t, b) := by rw [← hbs]; exact hfp.2.2 i hi6
  have hd9 := hDJ 4 8 (by decide) (by decide) (by decide)
  have nS : a ≠ uo ∧ a ≠ uA ∧ t ≠ uo ∧ t ≠ uA ∧ b ≠ uo ∧ b ≠ uA := ⟨fun e => hd9 a hT9.1 (by simp [grp, e]), fun e => hd9 a hT9.1 (by simp [grp, e]), fun e => hd9 t hT9.2.1 (by simp [grp, e]), fun e => hd9 t hT9.2.1 (by simp [grp, e]), fun e => hd9 b hT9.2.2 (by simp [grp, e]), fun e => hd9 b hT9.2.2 (by simp [grp, e])⟩
  obtain ⟨ug, ⟨mu, mua⟩, fu, fua, hul, hug⟩ := id hU
  rw [hs2]
  show RR G MX11_writeSheet 0 [(0, .ref x), (1, .int (iI ((i : Int))))] [] h (xm_R MX11_writeSheet).cells (xm_R MX11_writeSheet).slots (fun o' h' => o' = .inl (some (.int (iI ((wrL l l.length).length : Int)))) ∧ XB G h' K x (I, (po, to), (so, ca, cb, cc), (o, A, fp), (wo, wA, wfp), (vo, vA, vfp), (yo, yA, yfp), (uo, uA)) (inp, (cod, off), ((ro, me, fl, ho, ec, bk), Ls), sn, Hs, wrL l l.length) ∧ FRp (fpX x (I, (po, to), (so, ca, cb, cc), (o, A, fp), (wo, wA, wfp), (vo, vA, vfp), (yo, yA, yfp), (uo, uA))) h h')
  refine r_aload_n dX11_writeSheet_0 0 rfl ?_
  refine r_get cl_X11 9 (by decide) kf_X11_54 dX11_writeSheet_1 mx fx rfl ?_
  refine r_aload_n dX11_writeSheet_4 0 rfl ?_
  refine r_iload_n dX11_writeSheet_5 1 rfl ?_
  refine k_callV (As := [.int (iI ((i : Int)))]) (b := x) (rest := [.ref uo]) (w := (some (.ref a))) (st' := [.ref a, .ref uo]) kv_X11_writeSheet_118 dX11_writeSheet_6 rfl rfl (Nat.le_of_ble_eq_true rfl) (Nat.le_of_ble_eq_true rfl) (x_rv mx fx rfl) (Nat.le_of_ble_eq_true rfl) (Nat.le_of_ble_eq_true rfl) (cS) rfl (fun h9 e9 => ?_)
  rw [show h9 = h from e9]
  refine p_callV (As := [.ref a]) (b := uo) (rest := []) (w := none) (st' := []) kv_X11_writeSheet_298 dX11_writeSheet_9 rfl rfl (Nat.le_of_ble_eq_true rfl) (Nat.le_of_ble_eq_true rfl) (x_rv mu fu rfl) rfl rfl (c_X4_replaceBy hU hS0 hW0 nS) rfl (fun h9 e9 => ?_)
  obtain ⟨hU9, hF9⟩ := e9
  have hJ : FRp (jn (grp x (I, (po, to), (so, ca, cb, cc), (o, A, fp), (wo, wA, wfp), (vo, vA, vfp), (yo, yA, yfp), (uo, uA))) [8]) h h9 := hF9.toJ 8 (by decide) rfl
  have fx9 := (hF9.2 x (hDJ 0 8 (by decide) (by decide) (by decide) x (by simp [grp]))).trans fx
  have mx9 : x ∈ h9.1 := by rw [hF9.1]; exact mx
  obtain ⟨ug9, ⟨mu9, -⟩, fu9, -⟩ := id hU9
  refine r_aload_n dX11_writeSheet_12 0 rfl ?_
  refine r_get cl_X11 9 (by decide) kf_X11_54 dX11_writeSheet_13 mx9 fx9 rfl ?_
  refine r_get cl_X4 1 (by decide) kf_X11_302 dX11_writeSheet_16 mu9 fu9 rfl ?_
  refine r_ireturn rfl rfl dX11_writeSheet_19 ?_
  exact ⟨rfl, ⟨by rw [hJ.1]; exact mx, (hJ.2 x (djn hDJ (k := 0) (by decide) (by decide) _ (by simp [grp]))).trans fx, hI.fr hJ (djn hDJ (k := 1) (by decide) (by decide) _ (by simp [grp])), ⟨I0, T0, t0, num0, hPs.fr hJ (djn hDJ (k := 2) (by decide) (by decide) _ (by simp [grp])) (djn hDJ (k := 2) (by decide) (by decide) _ (by simp [grp]))⟩, ⟨cs0, hSs.fr hJ (djn hDJ (k := 3) (by decide) (by decide) _ (by simp [grp])) (djn hDJ (k := 3) (by decide) (by decide) _ (by simp [grp])) (djn hDJ (k := 3) (by decide) (by decide) _ (by simp [grp])) (djn hDJ (k := 3) (by decide) (by decide) _ (by simp [grp]))⟩, hB0.fr hJ (djn hDJ (k := 4) (by decide) (by decide)), ⟨Bd, hDr.fr hJ (djn hDJ (k := 5) (by decide) (by decide))⟩, ⟨Bv, hSn.fr hJ (djn hDJ (k := 6) (by decide) (by decide)), hSv⟩, hH.fr hJ (djn hDJ (k := 7) (by decide) (by decide)), hU9, hDJ⟩, hJ.X (by decide)⟩
set_option maxRecDepth 20000 in
set_option maxHeartbeats 1000000 in
theorem c_X11_writeSheet_no {G : xG} {h : xH} {K : xK} {sa : Nat → Nat} (hGC : GC G K sa) (hGT : GT G sa) (hGE : GE G) {x : Nat} {ad : XA} {S : XS} (hX : XB G h K x ad S) (hW : WX S) {z : Int} (hz : in32 z) (hs : hasS S.2.2.1 z = false) : CC G MX11_writeSheet [.ref x, .int (iI z)] h (fun o' h' => o' = .inr eI ∧ h' = h) := by
  have hX0 := hX
  have hGK := hGC.1
  have hG := gk_D hGK
  obtain ⟨I, ⟨po, to⟩, ⟨so, ca, cb, cc⟩, ⟨o, A, fp⟩, ⟨wo, wA, wfp⟩, ⟨vo, vA, vfp⟩, ⟨yo, yA, yfp⟩, ⟨uo, uA⟩⟩ := ad
  obtain ⟨inp, ⟨cod, off⟩, B, sn, Hs, out⟩ := S
  obtain ⟨mx, fx, hI, hPs, hSs, hB, hDr, hSn, hH, hU, hDJ⟩ := hX
  obtain ⟨hWB, hWh, hWs9, hWi⟩ := hW
  have hWB : WB B := hWB
  have hB : BN G h o A fp B := hB
  have fx : h.2 x = .inr (7, [.ref I, .int (iI (inp.length : Int)), .ref po, .ref so, .ref o, .ref wo, .ref vo, .int (iI (b2 sn.isSome)), .ref yo, .ref uo]) := fx
  show RR G MX11_writeSheet 0 [(0, .ref x), (1, .int (iI z))] [] h (xm_R MX11_writeSheet).cells (xm_R MX11_writeSheet).slots (fun o' h' => o' = .inr eI ∧ h' = h)
  refine r_aload_n dX11_writeSheet_0 0 rfl ?_
  refine r_get cl_X11 9 (by decide) kf_X11_54 dX11_writeSheet_1 mx fx rfl ?_
  refine r_aload_n dX11_writeSheet_4 0 rfl ?_
  refine r_iload_n dX11_writeSheet_5 1 rfl ?_
  refine t_callV (E := eI) (As := [.int (iI z)]) (b := x) (rest := [.ref uo]) kv_X11_writeSheet_118 dX11_writeSheet_6 rfl rfl (Nat.le_of_ble_eq_true rfl) (Nat.le_of_ble_eq_true rfl) (x_rv mx fx rfl) (Nat.le_of_ble_eq_true rfl) (Nat.le_of_ble_eq_true rfl) rfl (c_X11_sheetAt_no hGC hGE mx fx hB hz hs) (fun h9 e9 => ?_)
  exact ⟨rfl, e9⟩
