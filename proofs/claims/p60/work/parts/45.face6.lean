/-! ===== the class: loading, scripts ===== -/
set_option maxRecDepth 20000 in
set_option maxHeartbeats 1000000 in
theorem c_X11_loadBench_bad {G : xG} {h : xH} {K : xK} {sa : Nat → Nat} (hGC : GC G K sa) (hGT : GT G sa) (hGE : GE G) {x : Nat} {ad : XA} {S : XS} (hX : XB G h K x ad S) (hW : WX S) {n : Nat} (hn : n ≤ S.1.length) {e : Int × Int} (he : ldB (S.1.take n) = .inl e) : CC G MX11_loadBench [.ref x, .int (iI (n : Int))] h (fun o' h' => o' = .inl (some (.int (iI (-1)))) ∧ XB G h' K x ad ([], e, S.2.2) ∧ FRp (fpX x ad) h h') := by
  have hW9 := hW
  have hX0 := hX
  have hGK := hGC.1
  have hG := gk_D hGK
  obtain ⟨I, ⟨po, to⟩, ⟨so, ca, cb, cc⟩, ⟨o, A, fp⟩, ⟨wo, wA, wfp⟩, ⟨vo, vA, vfp⟩, ⟨yo, yA, yfp⟩, ⟨uo, uA⟩⟩ := ad
  obtain ⟨inp, ⟨cod, off⟩, B, sn, Hs, out⟩ := S
  obtain ⟨mx, fx, hI, hPs, hSs, hB, hDr, hSn, hH, hU, hDJ⟩ := hX
  obtain ⟨hWB, hWh, hWs9, hWi⟩ := hW
  have hWB : WB B := hWB
  have hB : BN G h o A fp B := hB
  have fx : h.2 x = .inr (7, [.ref I, .int (iI (inp.length : Int)), .ref po, .ref so, .ref o, .ref wo, .ref vo, .int (iI (b2 sn.isSome)), .ref yo, .ref uo]) := fx
  obtain ⟨I0, T0, t0, num0, hPs⟩ := hPs
  obtain ⟨cs0, hSs⟩ := hSs
  obtain ⟨Bd, hDr⟩ := hDr
  obtain ⟨Bv, hSn, hSv⟩ := hSn
  have hn : n ≤ inp.length := hn
  have hil : inp.length ≤ 500 := by obtain ⟨g9, m9, f9, hl9, q9⟩ := hI; exact hl9
  have hTl : ((inp.take n).length : Int) = (n : Int) := by rw [List.length_take]; omega
  have hI9 := hI.take n
  have dPI : I ∉ [po, to] := fun z => hDJ 1 2 (by decide) (by decide) (by decide) I (by simp [grp]) z
  have he : sBench (inp.take n) = .inl e := by have z : ldB (inp.take n) = .inl e := he; unfold ldB at z; cases hq : sBench (inp.take n) with | inl e2 => rw [hq] at z; cases z; rfl | inr a => rw [hq] at z; cases z
  have hok : okP (sBench (inp.take n)) = false := by rw [he]; rfl
  have cR := c_X5_readBench (h := h) hGK hGT hI9 hPs hDr ⟨fun z => (hDJ 2 5 (by decide) (by decide) (by decide)) _ (by simp [grp]) z, fun z => (hDJ 2 5 (by decide) (by decide) (by decide)) _ (by simp [grp]) z, fun z => (hDJ 1 5 (by decide) (by decide) (by decide)) _ (by simp [grp]) z⟩
  rw [hTl] at cR
  show RR G MX11_loadBench 0 [(0, .ref x), (1, .int (iI ((n : Int))))] [] h (xm_R MX11_loadBench).cells (xm_R MX11_loadBench).slots (fun o' h' => o' = .inl (some (.int (iI (-1)))) ∧ XB G h' K x (I, (po, to), (so, ca, cb, cc), (o, A, fp), (wo, wA, wfp), (vo, vA, vfp), (yo, yA, yfp), (uo, uA)) ([], e, B, sn, Hs, out) ∧ FRp (fpX x (I, (po, to), (so, ca, cb, cc), (o, A, fp), (wo, wA, wfp), (vo, vA, vfp), (yo, yA, yfp), (uo, uA))) h h')
  refine r_aload_n dX11_loadBench_0 0 rfl ?_
  refine r_iload_n dX11_loadBench_1 1 rfl ?_
  refine k_callV (As := [.int (iI ((n : Int)))]) (b := x) (rest := []) (w := none) (st' := []) kv_X11_loadBench_66 dX11_loadBench_2 rfl rfl (Nat.le_of_ble_eq_true rfl) (Nat.le_of_ble_eq_true rfl) (x_rv mx fx rfl) (Nat.le_of_ble_eq_true rfl) (Nat.le_of_ble_eq_true rfl) (c_X11_requireLength_ok hGC hGT hGE hX0 hW9 (z := (n : Int)) (by unfold in32; omega) ⟨by omega, by show (n : Int) ≤ (inp.length : Int); omega⟩) rfl (fun h9 e9 => ?_)
  rw [show h9 = h from e9]
  refine r_aload_n dX11_loadBench_5 0 rfl ?_
  refine r_get cl_X11 2 (by decide) kf_X11_16 dX11_loadBench_6 mx fx rfl ?_
  refine r_aload_n dX11_loadBench_9 0 rfl ?_
  refine r_get cl_X11 0 (by decide) kf_X11_9 dX11_loadBench_10 mx fx rfl ?_
  refine r_iload_n dX11_loadBench_13 1 rfl ?_
  refine r_aload_n dX11_loadBench_14 0 rfl ?_
  refine r_get cl_X11 5 (by decide) kf_X11_38 dX11_loadBench_15 mx fx rfl ?_
  refine p_callV (As := [.ref I, .int (iI ((n : Int))), .ref wo]) (b := po) (rest := []) (w := (some (.int (iI (b2 (okP (sBench (inp.take n)))))))) (st' := [.int (iI (b2 (okP (sBench (inp.take n)))))]) kv_X11_loadBench_69 dX11_loadBench_18 rfl rfl (Nat.le_of_ble_eq_true rfl) (Nat.le_of_ble_eq_true rfl) (x_rv hPs.1 hPs.2.1 rfl) rfl rfl (cR) rfl (fun hP eP => ?_)
  obtain ⟨hFP, hPQ⟩ := eP
  have hJP : FRp (jn (grp x (I, (po, to), (so, ca, cb, cc), (o, A, fp), (wo, wA, wfp), (vo, vA, vfp), (yo, yA, yfp), (uo, uA))) [0, 2, 5]) h hP := hFP.mono (fun q hq => (List.mem_append.mp hq).elim (fun z => jn_m (c := 2) (by decide) z) (fun z => jn_m (c := 5) (by decide) z))
  have fxP := (hFP.2 x (fun z => (List.mem_append.mp z).elim ((hDJ 0 2 (by decide) (by decide) (by decide)) x (by simp [grp])) ((hDJ 0 5 (by decide) (by decide) (by decide)) x (by simp [grp])))).trans fx
  have mxP : x ∈ hP.1 := by rw [hFP.1]; exact mx
  refine r_istore_n (ls' := [(0, .ref x), (1, .int (iI ((n : Int)))), (2, .int (iI (b2 (okP (sBench (inp.take n))))))]) dX11_loadBench_21 (by decide) rfl ?_
  refine r_aload_n dX11_loadBench_22 0 rfl ?_
  refine i_const (0) dX11_loadBench_23 ?_
  refine i_put [.ref I, .int (iI 0), .ref po, .ref so, .ref o, .ref wo, .ref vo, .int (iI (b2 sn.isSome)), .ref yo, .ref uo] cl_X11 1 (by decide) kf_X11_58 rfl dX11_loadBench_24 mxP fxP rfl rfl (by simp) rfl (fun h1 e0_1 e1_1 e2_1 => ?_)
  have mx_1 : x ∈ h1.1 := by rw [e0_1]; exact mxP
  refine r_iload_n dX11_loadBench_27 2 rfl ?_
  refine i_ifneb dX11_loadBench_28 (tgt := 33) (by decide) (fun c28 => ?_) (fun c28 => ?_)
  · rw [hok] at c28
    cases c28
  · refine i_const (-1) dX11_loadBench_31 ?_
    refine r_ireturn rfl rfl dX11_loadBench_32 ?_
    have hw : FRp [x] hP h1 := FRp.w (by simp) e0_1 e2_1
    have hJ : FRp (jn (grp x (I, (po, to), (so, ca, cb, cc), (o, A, fp), (wo, wA, wfp), (vo, vA, vfp), (yo, yA, yfp), (uo, uA))) [0, 2, 5]) h h1 := FRp.tr hJP (hw.toJ 0 (by decide) rfl)
    rw [he] at hPQ
    obtain ⟨⟨Bd2, hD2⟩, t9, n9, hP9⟩ := hPQ
    have hD3 := hD2.fr hw (hDJ 5 0 (by decide) (by decide) (by decide))
    have hP3 := hP9.fr hw ((hDJ 2 0 (by decide) (by decide) (by decide)) _ (by simp [grp])) ((hDJ 2 0 (by decide) (by decide) (by decide)) _ (by simp [grp]))
    have hI3 := hI.nil.fr hJ (djn hDJ (k := 1) (by decide) (by decide) _ (by simp [grp]))
    exact ⟨rfl, ⟨by rw [hJ.1]; exact mx, e1_1, hI3, ⟨I, (inp.take n), t9, n9, hP3⟩, ⟨cs0, hSs.fr hJ (djn hDJ (k := 3) (by decide) (by decide) _ (by simp [grp])) (djn hDJ (k := 3) (by decide) (by decide) _ (by simp [grp])) (djn hDJ (k := 3) (by decide) (by decide) _ (by simp [grp])) (djn hDJ (k := 3) (by decide) (by decide) _ (by simp [grp]))⟩, hB.fr hJ (djn hDJ (k := 4) (by decide) (by decide)), ⟨Bd2, hD3⟩, ⟨Bv, hSn.fr hJ (djn hDJ (k := 6) (by decide) (by decide)), hSv⟩, hH.fr hJ (djn hDJ (k := 7) (by decide) (by decide)), hU.fr hJ (djn hDJ (k := 8) (by decide) (by decide) _ (by simp [grp])) (djn hDJ (k := 8) (by decide) (by decide) _ (by simp [grp])), hDJ⟩, hJ.X (by decide)⟩
set_option maxRecDepth 20000 in
set_option maxHeartbeats 1000000 in
theorem c_X11_loadBench_ok {G : xG} {h : xH} {K : xK} {sa : Nat → Nat} (hGC : GC G K sa) (hGT : GT G sa) (hGE : GE G) {x : Nat} {ad : XA} {S : XS} (hX : XB G h K x ad S) (hW : WX S) {n : Nat} (hn : n ≤ S.1.length) {B1 : AB} (he : ldB (S.1.take n) = .inr B1) : CC G MX11_loadBench [.ref x, .int (iI (n : Int))] h (fun o' h' => o' = .inl (some (.int (iI (B1.2.length : Int)))) ∧ XB G h' K x ad ([], (0, -1), B1, none, [], S.2.2.2.2.2) ∧ FRp (fpX x ad) h h') := by
  have hW9 := hW
  have hX0 := hX
  have hGK := hGC.1
  have hG := gk_D hGK
  obtain ⟨I, ⟨po, to⟩, ⟨so, ca, cb, cc⟩, ⟨o, A, fp⟩, ⟨wo, wA, wfp⟩, ⟨vo, vA, vfp⟩, ⟨yo, yA, yfp⟩, ⟨uo, uA⟩⟩ := ad
  obtain ⟨inp, ⟨cod, off⟩, B, sn, Hs, out⟩ := S
  obtain ⟨mx, fx, hI, hPs, hSs, hB, hDr, hSn, hH, hU, hDJ⟩ := hX
  obtain ⟨hWB, hWh, hWs9, hWi⟩ := hW
  have hWB : WB B := hWB
  have hB : BN G h o A fp B := hB
  have fx : h.2 x = .inr (7, [.ref I, .int (iI (inp.length : Int)), .ref po, .ref so, .ref o, .ref wo, .ref vo, .int (iI (b2 sn.isSome)), .ref yo, .ref uo]) := fx
  obtain ⟨I0, T0, t0, num0, hPs⟩ := hPs
  obtain ⟨cs0, hSs⟩ := hSs
  obtain ⟨Bd, hDr⟩ := hDr
  obtain ⟨Bv, hSn, hSv⟩ := hSn
  have hn : n ≤ inp.length := hn
  have hil : inp.length ≤ 500 := by obtain ⟨g9, m9, f9, hl9, q9⟩ := hI; exact hl9
  have hTl : ((inp.take n).length : Int) = (n : Int) := by rw [List.length_take]; omega
  have hI9 := hI.take n
  have dPI : I ∉ [po, to] := fun z => hDJ 1 2 (by decide) (by decide) (by decide) I (by simp [grp]) z
  obtain ⟨a, he8, rfl⟩ : ∃ a, sBench (inp.take n) = .inr a ∧ B1 = addSh (hdB a.1.1) a.1.2 := by
    have z : ldB (inp.take n) = .inr B1 := he
    unfold ldB at z
    cases hq : sBench (inp.take n) with
    | inl e2 => rw [hq] at z; cases z
    | inr a => rw [hq] at z; cases z; exact ⟨a, rfl, rfl⟩
  have hok : okP (sBench (inp.take n)) = true := by rw [he8]; rfl
  have cR := c_X5_readBench (h := h) hGK hGT hI9 hPs hDr ⟨fun z => (hDJ 2 5 (by decide) (by decide) (by decide)) _ (by simp [grp]) z, fun z => (hDJ 2 5 (by decide) (by decide) (by decide)) _ (by simp [grp]) z, fun z => (hDJ 1 5 (by decide) (by decide) (by decide)) _ (by simp [grp]) z⟩
  rw [hTl] at cR
  show RR G MX11_loadBench 0 [(0, .ref x), (1, .int (iI ((n : Int))))] [] h (xm_R MX11_loadBench).cells (xm_R MX11_loadBench).slots (fun o' h' => o' = .inl (some (.int (iI ((addSh (hdB a.1.1) a.1.2).2.length : Int)))) ∧ XB G h' K x (I, (po, to), (so, ca, cb, cc), (o, A, fp), (wo, wA, wfp), (vo, vA, vfp), (yo, yA, yfp), (uo, uA)) ([], (0, -1), (addSh (hdB a.1.1) a.1.2), none, [], out) ∧ FRp (fpX x (I, (po, to), (so, ca, cb, cc), (o, A, fp), (wo, wA, wfp), (vo, vA, vfp), (yo, yA, yfp), (uo, uA))) h h')
  refine r_aload_n dX11_loadBench_0 0 rfl ?_
  refine r_iload_n dX11_loadBench_1 1 rfl ?_
  refine k_callV (As := [.int (iI ((n : Int)))]) (b := x) (rest := []) (w := none) (st' := []) kv_X11_loadBench_66 dX11_loadBench_2 rfl rfl (Nat.le_of_ble_eq_true rfl) (Nat.le_of_ble_eq_true rfl) (x_rv mx fx rfl) (Nat.le_of_ble_eq_true rfl) (Nat.le_of_ble_eq_true rfl) (c_X11_requireLength_ok hGC hGT hGE hX0 hW9 (z := (n : Int)) (by unfold in32; omega) ⟨by omega, by show (n : Int) ≤ (inp.length : Int); omega⟩) rfl (fun h9 e9 => ?_)
  rw [show h9 = h from e9]
  refine r_aload_n dX11_loadBench_5 0 rfl ?_
  refine r_get cl_X11 2 (by decide) kf_X11_16 dX11_loadBench_6 mx fx rfl ?_
  refine r_aload_n dX11_loadBench_9 0 rfl ?_
  refine r_get cl_X11 0 (by decide) kf_X11_9 dX11_loadBench_10 mx fx rfl ?_
  refine r_iload_n dX11_loadBench_13 1 rfl ?_
  refine r_aload_n dX11_loadBench_14 0 rfl ?_
  refine r_get cl_X11 5 (by decide) kf_X11_38 dX11_loadBench_15 mx fx rfl ?_
  refine p_callV (As := [.ref I, .int (iI ((n : Int))), .ref wo]) (b := po) (rest := []) (w := (some (.int (iI (b2 (okP (sBench (inp.take n)))))))) (st' := [.int (iI (b2 (okP (sBench (inp.take n)))))]) kv_X11_loadBench_69 dX11_loadBench_18 rfl rfl (Nat.le_of_ble_eq_true rfl) (Nat.le_of_ble_eq_true rfl) (x_rv hPs.1 hPs.2.1 rfl) rfl rfl (cR) rfl (fun hP eP => ?_)
  obtain ⟨hFP, hPQ⟩ := eP
  have hJP : FRp (jn (grp x (I, (po, to), (so, ca, cb, cc), (o, A, fp), (wo, wA, wfp), (vo, vA, vfp), (yo, yA, yfp), (uo, uA))) [0, 2, 5]) h hP := hFP.mono (fun q hq => (List.mem_append.mp hq).elim (fun z => jn_m (c := 2) (by decide) z) (fun z => jn_m (c := 5) (by decide) z))
  have fxP := (hFP.2 x (fun z => (List.mem_append.mp z).elim ((hDJ 0 2 (by decide) (by decide) (by decide)) x (by simp [grp])) ((hDJ 0 5 (by decide) (by decide) (by decide)) x (by simp [grp])))).trans fx
  have mxP : x ∈ hP.1 := by rw [hFP.1]; exact mx
  refine r_istore_n (ls' := [(0, .ref x), (1, .int (iI ((n : Int)))), (2, .int (iI (b2 (okP (sBench (inp.take n))))))]) dX11_loadBench_21 (by decide) rfl ?_
  refine r_aload_n dX11_loadBench_22 0 rfl ?_
  refine i_const (0) dX11_loadBench_23 ?_
  refine i_put [.ref I, .int (iI 0), .ref po, .ref so, .ref o, .ref wo, .ref vo, .int (iI (b2 sn.isSome)), .ref yo, .ref uo] cl_X11 1 (by decide) kf_X11_58 rfl dX11_loadBench_24 mxP fxP rfl rfl (by simp) rfl (fun h1 e0_1 e1_1 e2_1 => ?_)
  have mx_1 : x ∈ h1.1 := by rw [e0_1]; exact mxP
  refine r_iload_n dX11_loadBench_27 2 rfl ?_
  refine i_ifneb dX11_loadBench_28 (tgt := 33) (by decide) (fun c28 => ?_) (fun c28 => ?_)
  · have hw : FRp [x] hP h1 := FRp.w (by simp) e0_1 e2_1
    have hJ1 : FRp (jn (grp x (I, (po, to), (so, ca, cb, cc), (o, A, fp), (wo, wA, wfp), (vo, vA, vfp), (yo, yA, yfp), (uo, uA))) [0, 2, 5]) h h1 := FRp.tr hJP (hw.toJ 0 (by decide) rfl)
    rw [he8] at hPQ
    obtain ⟨num9, hD2, hP9, -⟩ := hPQ
    have hD3 := hD2.fr hw (hDJ 5 0 (by decide) (by decide) (by decide))
    have hP3 := hP9.fr hw ((hDJ 2 0 (by decide) (by decide) (by decide)) _ (by simp [grp])) ((hDJ 2 0 (by decide) (by decide) (by decide)) _ (by simp [grp]))
    have hB3 := hB.fr hJ1 (djn hDJ (k := 4) (by decide) (by decide))
    have hH3 := hH.fr hJ1 (djn hDJ (k := 7) (by decide) (by decide))
    obtain ⟨vb3, fb3⟩ := hB3.mem.2.1
    obtain ⟨vd3, fd3⟩ := hD3.mem.2.1
    refine r_aload_n dX11_loadBench_33 0 rfl ?_
    refine r_get cl_X11 4 (by decide) kf_X11_33 dX11_loadBench_34 mx_1 e1_1 rfl ?_
    refine r_aload_n dX11_loadBench_37 0 rfl ?_
    refine r_get cl_X11 5 (by decide) kf_X11_38 dX11_loadBench_38 mx_1 e1_1 rfl ?_
    refine p_callV (As := [.ref wo]) (b := o) (rest := []) (w := none) (st' := []) kv_X11_loadBench_73 dX11_loadBench_41 rfl rfl (Nat.le_of_ble_eq_true rfl) (Nat.le_of_ble_eq_true rfl) (x_rv hB3.mem.1 fb3 rfl) rfl rfl (c_X1_copyFrom hB3 hD3 (hDJ 4 5 (by decide) (by decide) (by decide))) rfl (fun hC eC => ?_)
    obtain ⟨hB4, hFC⟩ := eC
    have fxC := (hFC.2 x ((hDJ 0 4 (by decide) (by decide) (by decide)) x (by simp [grp]))).trans e1_1
    have mxC : x ∈ hC.1 := by rw [hFC.1]; exact mx_1
    have hD4 := hD3.fr hFC (hDJ 5 4 (by decide) (by decide) (by decide))
    have hH4 := hH3.fr hFC (hDJ 7 4 (by decide) (by decide) (by decide))
    have hP4 := hP3.fr hFC ((hDJ 2 4 (by decide) (by decide) (by decide)) _ (by simp [grp])) ((hDJ 2 4 (by decide) (by decide) (by decide)) _ (by simp [grp]))
    obtain ⟨yg4, ybo4, yX4, ⟨my4, -⟩, fy4, -⟩ := id hH4
    refine r_aload_n dX11_loadBench_44 0 rfl ?_
    refine r_get cl_X11 8 (by decide) kf_X11_47 dX11_loadBench_45 mxC fxC rfl ?_
    refine p_callV (As := []) (b := yo) (rest := []) (w := none) (st' := []) kv_X11_loadBench_77 dX11_loadBench_48 rfl rfl (Nat.le_of_ble_eq_true rfl) (Nat.le_of_ble_eq_true rfl) (x_rv my4 fy4 rfl) rfl rfl (c_X3_forget hH4) rfl (fun hE eE => ?_)
    obtain ⟨hH5, hFE⟩ := eE
    have fxE := (hFE.2 x ((hDJ 0 7 (by decide) (by decide) (by decide)) x (by simp [grp]))).trans fxC
    have mxE : x ∈ hE.1 := by rw [hFE.1]; exact mxC
    have hD5 := hD4.fr hFE (hDJ 5 7 (by decide) (by decide) (by decide))
    have hB5 := hB4.fr hFE (hDJ 4 7 (by decide) (by decide) (by decide))
    have hP5 := hP4.fr hFE ((hDJ 2 7 (by decide) (by decide) (by decide)) _ (by simp [grp])) ((hDJ 2 7 (by decide) (by decide) (by decide)) _ (by simp [grp]))
    have hJ2 : FRp (jn (grp x (I, (po, to), (so, ca, cb, cc), (o, A, fp), (wo, wA, wfp), (vo, vA, vfp), (yo, yA, yfp), (uo, uA))) [0, 2, 4, 5, 7]) h hE := FRp.tr (FRp.tr (FRp.mono hJ1 (fun q hq => by obtain ⟨l, hl, hql⟩ := List.mem_flatten.mp hq; obtain ⟨c, hc, rfl⟩ := List.mem_map.mp hl; exact jn_m (c := c) (by simp at hc ⊢; omega) hql)) (hFC.toJ 4 (by decide) rfl)) (hFE.toJ 7 (by decide) rfl)
    obtain ⟨g8, bs8, F8, ⟨mo8, -⟩, fo8, -⟩ := id hB5
    have nxo : x ≠ o := ne_oo fxE fo8 (by decide)
    refine r_aload_n dX11_loadBench_51 0 rfl ?_
    refine i_const (0) dX11_loadBench_52 ?_
    refine i_put [.ref I, .int (iI 0), .ref po, .ref so, .ref o, .ref wo, .ref vo, .int (iI 0), .ref yo, .ref uo] cl_X11 7 (by decide) kf_X11_80 rfl dX11_loadBench_53 mxE fxE (b2_nar false) (b2_fit false) (by simp) rfl (fun h2 e0_2 e1_2 e2_2 => ?_)
    have mx_2 : x ∈ h2.1 := by rw [e0_2]; exact mxE
    have mo_2 : o ∈ h2.1 := by rw [e0_2]; exact mo8
    have fo_2 := (e2_2 _ (Ne.symm nxo)).trans fo8
    refine r_aload_n dX11_loadBench_56 0 rfl ?_
    refine r_get cl_X11 4 (by decide) kf_X11_33 dX11_loadBench_57 mx_2 e1_2 rfl ?_
    refine r_get cl_X1 1 (by decide) kf_X11_84 dX11_loadBench_60 mo_2 fo_2 rfl ?_
    refine r_ireturn rfl rfl dX11_loadBench_63 ?_
    have hw2 : FRp [x] hE h2 := FRp.w (by simp) e0_2 e2_2
    have hJ : FRp (jn (grp x (I, (po, to), (so, ca, cb, cc), (o, A, fp), (wo, wA, wfp), (vo, vA, vfp), (yo, yA, yfp), (uo, uA))) [0, 2, 4, 5, 7]) h h2 := FRp.tr hJ2 (hw2.toJ 0 (by decide) rfl)
    have hI3 := hI.nil.fr hJ (djn hDJ (k := 1) (by decide) (by decide) _ (by simp [grp]))
    exact ⟨rfl, ⟨by rw [hJ.1]; exact mx, e1_2, hI3, ⟨I, (inp.take n), _, _, hP5.fr hw2 ((hDJ 2 0 (by decide) (by decide) (by decide)) _ (by simp [grp])) ((hDJ 2 0 (by decide) (by decide) (by decide)) _ (by simp [grp]))⟩, ⟨cs0, hSs.fr hJ (djn hDJ (k := 3) (by decide) (by decide) _ (by simp [grp])) (djn hDJ (k := 3) (by decide) (by decide) _ (by simp [grp])) (djn hDJ (k := 3) (by decide) (by decide) _ (by simp [grp])) (djn hDJ (k := 3) (by decide) (by decide) _ (by simp [grp]))⟩, hB5.fr hw2 (hDJ 4 0 (by decide) (by decide) (by decide)), ⟨_, hD5.fr hw2 (hDJ 5 0 (by decide) (by decide) (by decide))⟩, ⟨Bv, hSn.fr hJ (djn hDJ (k := 6) (by decide) (by decide)), fun B9 z => by cases z⟩, hH5.fr hw2 (hDJ 7 0 (by decide) (by decide) (by decide)), hU.fr hJ (djn hDJ (k := 8) (by decide) (by decide) _ (by simp [grp])) (djn hDJ (k := 8) (by decide) (by decide) _ (by simp [grp])), hDJ⟩, hJ.X (by decide)⟩
  · rw [hok] at c28
    cases c28
