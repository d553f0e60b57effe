/-! ===== the class: history, snapshot, output ===== -/
set_option maxRecDepth 20000 in
set_option maxHeartbeats 1000000 in
theorem c_X11_undo_ok {G : xG} {h : xH} {K : xK} {sa : Nat → Nat} (hGC : GC G K sa) (hGT : GT G sa) (hGE : GE G) {x : Nat} {ad : XA} {S : XS} (hX : XB G h K x ad S) (hW : WX S) (h1 : 1 ≤ S.2.2.2.2.1.length) : CC G MX11_undo [.ref x] h (fun o' h' => o' = .inl (some (.int (iI (S.2.2.2.2.1.dropLast.length : Int)))) ∧ XB G h' K x ad (S.1, S.2.1, S.2.2.2.2.1.getD (S.2.2.2.2.1.length - 1) dB, S.2.2.2.1, S.2.2.2.2.1.dropLast, S.2.2.2.2.2) ∧ FRp (fpX x ad) h h') := by
  have hX0 := hX
  have hGK := hGC.1
  have hG := gk_D hGK
  obtain ⟨I, ⟨po, to⟩, ⟨so, ca, cb, cc⟩, ⟨o, A, fp⟩, ⟨wo, wA, wfp⟩, ⟨vo, vA, vfp⟩, ⟨yo, yA, yfp⟩, ⟨uo, uA⟩⟩ := ad
  obtain ⟨inp, ⟨cod, off⟩, B, sn, Hs, out⟩ := S
  obtain ⟨mx, fx, hI, hPs, hSs, hB, hDr, hSn, hH, hU, hDJ⟩ := hX
  obtain ⟨hWB, hWh, hWs9, hWi⟩ := hW
  have hWB : WB B := hWB
  have hB : BN G h o A fp B := hB
  have fx : h.2 x = .inr (7, [.ref I, .int (iI (inp.length : Int)), .ref po, .ref so, .ref o, .ref wo, .ref vo, .int (iI (b2 sn.isSome)), .ref yo, .ref uo]) := fx
  obtain ⟨I0, T0, t0, num0, hPs⟩ := hPs
  obtain ⟨cs0, hSs⟩ := hSs
  obtain ⟨Bd, hDr⟩ := hDr
  obtain ⟨Bv, hSn, hSv⟩ := hSn
  obtain ⟨yg, ybo, yX, ⟨my, -⟩, fy, -⟩ := id hH
  have fy : h.2 yo = .inr (1, [.ref yA, .int (iI (Hs.length : Int))]) := fy
  obtain ⟨vb, fb⟩ := hB.mem.2.1
  have h1 : 1 ≤ Hs.length := h1
  have hl8 : Hs.length ≤ 8 := by obtain ⟨g9, bo9, X9, q⟩ := hH; exact q.2.2.2.1
  show RR G MX11_undo 0 [(0, .ref x)] [] h (xm_R MX11_undo).cells (xm_R MX11_undo).slots (fun o' h' => o' = .inl (some (.int (iI (Hs.dropLast.length : Int)))) ∧ XB G h' K x (I, (po, to), (so, ca, cb, cc), (o, A, fp), (wo, wA, wfp), (vo, vA, vfp), (yo, yA, yfp), (uo, uA)) (inp, (cod, off), Hs.getD (Hs.length - 1) dB, sn, Hs.dropLast, out) ∧ FRp (fpX x (I, (po, to), (so, ca, cb, cc), (o, A, fp), (wo, wA, wfp), (vo, vA, vfp), (yo, yA, yfp), (uo, uA))) h h')
  refine r_aload_n dX11_undo_0 0 rfl ?_
  refine r_get cl_X11 8 (by decide) kf_X11_47 dX11_undo_1 mx fx rfl ?_
  refine r_get cl_X3 1 (by decide) kf_X11_313 dX11_undo_4 my fy rfl ?_
  refine i_ifne dX11_undo_7 (tgt := 21) (by decide) (by unfold in32; omega) (fun c7 => ?_) (fun c7 => ?_)
  · refine r_aload_n dX11_undo_21 0 rfl ?_
    refine r_get cl_X11 8 (by decide) kf_X11_47 dX11_undo_22 mx fx rfl ?_
    refine r_aload_n dX11_undo_25 0 rfl ?_
    refine r_get cl_X11 4 (by decide) kf_X11_33 dX11_undo_26 mx fx rfl ?_
    refine p_callV (As := [.ref o]) (b := yo) (rest := []) (w := none) (st' := []) kv_X11_undo_319 dX11_undo_29 rfl rfl (Nat.le_of_ble_eq_true rfl) (Nat.le_of_ble_eq_true rfl) (x_rv my fy rfl) rfl rfl (c_X3_takeBack hH hB (hDJ 7 4 (by decide) (by decide) (by decide)) h1) rfl (fun h9 e9 => ?_)
    obtain ⟨hH9, hB9, hF9⟩ := e9
    have hJ : FRp (jn (grp x (I, (po, to), (so, ca, cb, cc), (o, A, fp), (wo, wA, wfp), (vo, vA, vfp), (yo, yA, yfp), (uo, uA))) [4, 7]) h h9 := hF9.mono (fun q hq => (List.mem_append.mp hq).elim (fun z => jn_m (c := 7) (by decide) z) (fun z => jn_m (c := 4) (by decide) z))
    have fx9 := (hJ.2 x (djn hDJ (k := 0) (by decide) (by decide) x (by simp [grp]))).trans fx
    have mx9 : x ∈ h9.1 := by rw [hJ.1]; exact mx
    obtain ⟨yg9, ybo9, yX9, ⟨my9, -⟩, fy9, -⟩ := id hH9
    refine r_aload_n dX11_undo_32 0 rfl ?_
    refine r_get cl_X11 8 (by decide) kf_X11_47 dX11_undo_33 mx9 fx9 rfl ?_
    refine r_get cl_X3 1 (by decide) kf_X11_313 dX11_undo_36 my9 fy9 rfl ?_
    refine r_ireturn rfl rfl dX11_undo_39 ?_
    exact ⟨rfl, ⟨by rw [hJ.1]; exact mx, (hJ.2 x (djn hDJ (k := 0) (by decide) (by decide) _ (by simp [grp]))).trans fx, hI.fr hJ (djn hDJ (k := 1) (by decide) (by decide) _ (by simp [grp])), ⟨I0, T0, t0, num0, hPs.fr hJ (djn hDJ (k := 2) (by decide) (by decide) _ (by simp [grp])) (djn hDJ (k := 2) (by decide) (by decide) _ (by simp [grp]))⟩, ⟨cs0, hSs.fr hJ (djn hDJ (k := 3) (by decide) (by decide) _ (by simp [grp])) (djn hDJ (k := 3) (by decide) (by decide) _ (by simp [grp])) (djn hDJ (k := 3) (by decide) (by decide) _ (by simp [grp])) (djn hDJ (k := 3) (by decide) (by decide) _ (by simp [grp]))⟩, hB9, ⟨Bd, hDr.fr hJ (djn hDJ (k := 5) (by decide) (by decide))⟩, ⟨Bv, hSn.fr hJ (djn hDJ (k := 6) (by decide) (by decide)), hSv⟩, hH9, hU.fr hJ (djn hDJ (k := 8) (by decide) (by decide) _ (by simp [grp])) (djn hDJ (k := 8) (by decide) (by decide) _ (by simp [grp])), hDJ⟩, hJ.X (by decide)⟩
  · exfalso
    omega
set_option maxRecDepth 20000 in
set_option maxHeartbeats 1000000 in
theorem c_X11_saveSnapshot {G : xG} {h : xH} {K : xK} {sa : Nat → Nat} (hGC : GC G K sa) (hGT : GT G sa) (hGE : GE G) {x : Nat} {ad : XA} {S : XS} (hX : XB G h K x ad S) (hW : WX S) : CC G MX11_saveSnapshot [.ref x] h (fun o' h' => o' = .inl none ∧ XB G h' K x ad (S.1, S.2.1, S.2.2.1, some S.2.2.1, S.2.2.2.2.1, S.2.2.2.2.2) ∧ FRp (fpX x ad) h h') := by
  have hX0 := hX
  have hGK := hGC.1
  have hG := gk_D hGK
  obtain ⟨I, ⟨po, to⟩, ⟨so, ca, cb, cc⟩, ⟨o, A, fp⟩, ⟨wo, wA, wfp⟩, ⟨vo, vA, vfp⟩, ⟨yo, yA, yfp⟩, ⟨uo, uA⟩⟩ := ad
  obtain ⟨inp, ⟨cod, off⟩, B, sn, Hs, out⟩ := S
  obtain ⟨mx, fx, hI, hPs, hSs, hB, hDr, hSn, hH, hU, hDJ⟩ := hX
  obtain ⟨hWB, hWh, hWs9, hWi⟩ := hW
  have hWB : WB B := hWB
  have hB : BN G h o A fp B := hB
  have fx : h.2 x = .inr (7, [.ref I, .int (iI (inp.length : Int)), .ref po, .ref so, .ref o, .ref wo, .ref vo, .int (iI (b2 sn.isSome)), .ref yo, .ref uo]) := fx
  obtain ⟨I0, T0, t0, num0, hPs⟩ := hPs
  obtain ⟨cs0, hSs⟩ := hSs
  obtain ⟨Bd, hDr⟩ := hDr
  obtain ⟨Bv, hSn, hSv⟩ := hSn
  obtain ⟨vb, fb⟩ := hB.mem.2.1
  obtain ⟨vv, fv⟩ := hSn.mem.2.1
  show RR G MX11_saveSnapshot 0 [(0, .ref x)] [] h (xm_R MX11_saveSnapshot).cells (xm_R MX11_saveSnapshot).slots (fun o' h' => o' = .inl none ∧ XB G h' K x (I, (po, to), (so, ca, cb, cc), (o, A, fp), (wo, wA, wfp), (vo, vA, vfp), (yo, yA, yfp), (uo, uA)) (inp, (cod, off), B, some B, Hs, out) ∧ FRp (fpX x (I, (po, to), (so, ca, cb, cc), (o, A, fp), (wo, wA, wfp), (vo, vA, vfp), (yo, yA, yfp), (uo, uA))) h h')
  refine r_aload_n dX11_saveSnapshot_0 0 rfl ?_
  refine r_get cl_X11 6 (by decide) kf_X11_41 dX11_saveSnapshot_1 mx fx rfl ?_
  refine r_aload_n dX11_saveSnapshot_4 0 rfl ?_
  refine r_get cl_X11 4 (by decide) kf_X11_33 dX11_saveSnapshot_5 mx fx rfl ?_
  refine p_callV (As := [.ref o]) (b := vo) (rest := []) (w := none) (st' := []) kv_X11_saveSnapshot_73 dX11_saveSnapshot_8 rfl rfl (Nat.le_of_ble_eq_true rfl) (Nat.le_of_ble_eq_true rfl) (x_rv hSn.mem.1 fv rfl) rfl rfl (c_X1_copyFrom hSn hB (hDJ 6 4 (by decide) (by decide) (by decide))) rfl (fun h9 e9 => ?_)
  obtain ⟨hV9, hF9⟩ := e9
  have hJ9 : FRp (jn (grp x (I, (po, to), (so, ca, cb, cc), (o, A, fp), (wo, wA, wfp), (vo, vA, vfp), (yo, yA, yfp), (uo, uA))) [0, 6]) h h9 := hF9.toJ 6 (by decide) rfl
  have fx9 := (hF9.2 x (hDJ 0 6 (by decide) (by decide) (by decide) x (by simp [grp]))).trans fx
  have mx9 : x ∈ h9.1 := by rw [hF9.1]; exact mx
  refine r_aload_n dX11_saveSnapshot_11 0 rfl ?_
  refine i_const (1) dX11_saveSnapshot_12 ?_
  refine i_put [.ref I, .int (iI ((inp.length : Int))), .ref po, .ref so, .ref o, .ref wo, .ref vo, .int (iI 1), .ref yo, .ref uo] cl_X11 7 (by decide) kf_X11_80 rfl dX11_saveSnapshot_13 mx9 fx9 (b2_nar true) (b2_fit true) (by simp) rfl (fun h1 e0_1 e1_1 e2_1 => ?_)
  have mx_1 : x ∈ h1.1 := by rw [e0_1]; exact mx9
  refine r_return rfl dX11_saveSnapshot_16 ?_
  have hw : FRp [x] h9 h1 := FRp.w (by simp) e0_1 e2_1
  have hJ : FRp (jn (grp x (I, (po, to), (so, ca, cb, cc), (o, A, fp), (wo, wA, wfp), (vo, vA, vfp), (yo, yA, yfp), (uo, uA))) [0, 6]) h h1 := FRp.tr hJ9 (hw.toJ 0 (by decide) rfl)
  have hV8 := hV9.fr hw (hDJ 6 0 (by decide) (by decide) (by decide))
  exact ⟨rfl, ⟨by rw [hJ.1]; exact mx, e1_1, hI.fr hJ (djn hDJ (k := 1) (by decide) (by decide) _ (by simp [grp])), ⟨I0, T0, t0, num0, hPs.fr hJ (djn hDJ (k := 2) (by decide) (by decide) _ (by simp [grp])) (djn hDJ (k := 2) (by decide) (by decide) _ (by simp [grp]))⟩, ⟨cs0, hSs.fr hJ (djn hDJ (k := 3) (by decide) (by decide) _ (by simp [grp])) (djn hDJ (k := 3) (by decide) (by decide) _ (by simp [grp])) (djn hDJ (k := 3) (by decide) (by decide) _ (by simp [grp])) (djn hDJ (k := 3) (by decide) (by decide) _ (by simp [grp]))⟩, hB.fr hJ (djn hDJ (k := 4) (by decide) (by decide)), ⟨Bd, hDr.fr hJ (djn hDJ (k := 5) (by decide) (by decide))⟩, ⟨B, hV8, fun B9 z => by cases z; rfl⟩, hH.fr hJ (djn hDJ (k := 7) (by decide) (by decide)), hU.fr hJ (djn hDJ (k := 8) (by decide) (by decide) _ (by simp [grp])) (djn hDJ (k := 8) (by decide) (by decide) _ (by simp [grp])), hDJ⟩, hJ.X (by decide)⟩
set_option maxRecDepth 20000 in
set_option maxHeartbeats 1000000 in
theorem c_X11_restoreSnapshot_ok {G : xG} {h : xH} {K : xK} {sa : Nat → Nat} (hGC : GC G K sa) (hGT : GT G sa) (hGE : GE G) {x : Nat} {ad : XA} {S : XS} (hX : XB G h K x ad S) (hW : WX S) {B0 : AB} (hs0 : S.2.2.2.1 = some B0) : CC G MX11_restoreSnapshot [.ref x] h (fun o' h' => o' = .inl (some (.int (iI (B0.2.length : Int)))) ∧ XB G h' K x ad (S.1, S.2.1, B0, some B0, [], S.2.2.2.2.2) ∧ FRp (fpX x ad) h h') := by
  have hX0 := hX
  have hGK := hGC.1
  have hG := gk_D hGK
  obtain ⟨I, ⟨po, to⟩, ⟨so, ca, cb, cc⟩, ⟨o, A, fp⟩, ⟨wo, wA, wfp⟩, ⟨vo, vA, vfp⟩, ⟨yo, yA, yfp⟩, ⟨uo, uA⟩⟩ := ad
  obtain ⟨inp, ⟨cod, off⟩, B, sn, Hs, out⟩ := S
  obtain ⟨mx, fx, hI, hPs, hSs, hB, hDr, hSn, hH, hU, hDJ⟩ := hX
  obtain ⟨hWB, hWh, hWs9, hWi⟩ := hW
  have hWB : WB B := hWB
  have hB : BN G h o A fp B := hB
  have fx : h.2 x = .inr (7, [.ref I, .int (iI (inp.length : Int)), .ref po, .ref so, .ref o, .ref wo, .ref vo, .int (iI (b2 sn.isSome)), .ref yo, .ref uo]) := fx
  obtain ⟨I0, T0, t0, num0, hPs⟩ := hPs
  obtain ⟨cs0, hSs⟩ := hSs
  obtain ⟨Bd, hDr⟩ := hDr
  obtain ⟨Bv, hSn, hSv⟩ := hSn
  obtain ⟨vb, fb⟩ := hB.mem.2.1
  obtain ⟨yg, ybo, yX, ⟨my, -⟩, fy, -⟩ := id hH
  have fy : h.2 yo = .inr (1, [.ref yA, .int (iI (Hs.length : Int))]) := fy
  obtain ⟨vv, fv⟩ := hSn.mem.2.1
  have hs0 : sn = some B0 := hs0
  subst hs0
  have hSn : BN G h vo vA vfp B0 := by rw [← hSv B0 rfl]; exact hSn
  show RR G MX11_restoreSnapshot 0 [(0, .ref x)] [] h (xm_R MX11_restoreSnapshot).cells (xm_R MX11_restoreSnapshot).slots (fun o' h' => o' = .inl (some (.int (iI (B0.2.length : Int)))) ∧ XB G h' K x (I, (po, to), (so, ca, cb, cc), (o, A, fp), (wo, wA, wfp), (vo, vA, vfp), (yo, yA, yfp), (uo, uA)) (inp, (cod, off), B0, some B0, [], out) ∧ FRp (fpX x (I, (po, to), (so, ca, cb, cc), (o, A, fp), (wo, wA, wfp), (vo, vA, vfp), (yo, yA, yfp), (uo, uA))) h h')
  refine r_aload_n dX11_restoreSnapshot_0 0 rfl ?_
  refine r_get cl_X11 7 (by decide) kf_X11_80 dX11_restoreSnapshot_1 mx fx rfl ?_
  refine i_ifneb dX11_restoreSnapshot_4 (tgt := 18) (by decide) (fun c4 => ?_) (fun c4 => ?_)
  · refine r_aload_n dX11_restoreSnapshot_18 0 rfl ?_
    refine r_get cl_X11 4 (by decide) kf_X11_33 dX11_restoreSnapshot_19 mx fx rfl ?_
    refine r_aload_n dX11_restoreSnapshot_22 0 rfl ?_
    refine r_get cl_X11 6 (by decide) kf_X11_41 dX11_restoreSnapshot_23 mx fx rfl ?_
    refine p_callV (As := [.ref vo]) (b := o) (rest := []) (w := none) (st' := []) kv_X11_restoreSnapshot_73 dX11_restoreSnapshot_26 rfl rfl (Nat.le_of_ble_eq_true rfl) (Nat.le_of_ble_eq_true rfl) (x_rv hB.mem.1 fb rfl) rfl rfl (c_X1_copyFrom hB hSn (hDJ 4 6 (by decide) (by decide) (by decide))) rfl (fun h9 e9 => ?_)
    obtain ⟨hB9, hF9⟩ := e9
    have fx9 := (hF9.2 x (hDJ 0 4 (by decide) (by decide) (by decide) x (by simp [grp]))).trans fx
    have mx9 : x ∈ h9.1 := by rw [hF9.1]; exact mx
    have hH9 := hH.fr hF9 (hDJ 7 4 (by decide) (by decide) (by decide))
    obtain ⟨yg9, ybo9, yX9, ⟨my9, -⟩, fy9, -⟩ := id hH9
    refine r_aload_n dX11_restoreSnapshot_29 0 rfl ?_
    refine r_get cl_X11 8 (by decide) kf_X11_47 dX11_restoreSnapshot_30 mx9 fx9 rfl ?_
    refine p_callV (As := []) (b := yo) (rest := []) (w := none) (st' := []) kv_X11_restoreSnapshot_77 dX11_restoreSnapshot_33 rfl rfl (Nat.le_of_ble_eq_true rfl) (Nat.le_of_ble_eq_true rfl) (x_rv my9 fy9 rfl) rfl rfl (c_X3_forget hH9) rfl (fun hE eE => ?_)
    obtain ⟨hHE, hFE⟩ := eE
    have hJ : FRp (jn (grp x (I, (po, to), (so, ca, cb, cc), (o, A, fp), (wo, wA, wfp), (vo, vA, vfp), (yo, yA, yfp), (uo, uA))) [4, 7]) h hE := FRp.tr (hF9.toJ 4 (by decide) rfl) (hFE.toJ 7 (by decide) rfl)
    have hBE := hB9.fr hFE (hDJ 4 7 (by decide) (by decide) (by decide))
    have fx8 := (hFE.2 x (hDJ 0 7 (by decide) (by decide) (by decide) x (by simp [grp]))).trans fx9
    have mx8 : x ∈ hE.1 := by rw [hFE.1]; exact mx9
    obtain ⟨g8, bs8, F8, ⟨mo8, -⟩, fo8, -⟩ := id hBE
    refine r_aload_n dX11_restoreSnapshot_36 0 rfl ?_
    refine r_get cl_X11 4 (by decide) kf_X11_33 dX11_restoreSnapshot_37 mx8 fx8 rfl ?_
    refine r_get cl_X1 1 (by decide) kf_X11_84 dX11_restoreSnapshot_40 mo8 fo8 rfl ?_
    refine r_ireturn rfl rfl dX11_restoreSnapshot_43 ?_
    exact ⟨rfl, ⟨by rw [hJ.1]; exact mx, (hJ.2 x (djn hDJ (k := 0) (by decide) (by decide) _ (by simp [grp]))).trans fx, hI.fr hJ (djn hDJ (k := 1) (by decide) (by decide) _ (by simp [grp])), ⟨I0, T0, t0, num0, hPs.fr hJ (djn hDJ (k := 2) (by decide) (by decide) _ (by simp [grp])) (djn hDJ (k := 2) (by decide) (by decide) _ (by simp [grp]))⟩, ⟨cs0, hSs.fr hJ (djn hDJ (k := 3) (by decide) (by decide) _ (by simp [grp])) (djn hDJ (k := 3) (by decide) (by decide) _ (by simp [grp])) (djn hDJ (k := 3) (by decide) (by decide) _ (by simp [grp])) (djn hDJ (k := 3) (by decide) (by decide) _ (by simp [grp]))⟩, hBE, ⟨Bd, hDr.fr hJ (djn hDJ (k := 5) (by decide) (by decide))⟩, ⟨B0, hSn.fr hJ (djn hDJ (k := 6) (by decide) (by decide)), fun B9 z => by cases z; rfl⟩, hHE, hU.fr hJ (djn hDJ (k := 8) (by decide) (by decide) _ (by simp [grp])) (djn hDJ (k := 8) (by decide) (by decide) _ (by simp [grp])), hDJ⟩, hJ.X (by decide)⟩
  · cases c4
