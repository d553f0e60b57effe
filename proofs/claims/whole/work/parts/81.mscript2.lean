/-! ===== the reference: a script, at the whole state ===== -/
theorem fpm_q {m : Nat} {a : MA} {h h' : xH} (hF : FRp [m, a.2.2.2.2.2.2.2.1] h h') : FRp (fpM m a) h h' := hF.mono (by simp [fpM])
theorem sFinC_len {T : List Int} {p : Nat} {b : List CM × Nat} (h : sFinC T p = .inr b) : b.1.length = 0 := by
  unfold sFinC at h
  split at h
  · cases h; rfl
  · unfold sErr at h; cases h
theorem sCmds_len {T : List Int} : ∀ (f : Nat) {p : Nat} {b : List CM × Nat}, sCmds T f p = .inr b → b.1.length ≤ f := by
  intro f
  induction f with
  | zero => intro p b h; have := sFinC_len h; omega
  | succ f ih =>
    intro p b h
    rw [sCmds] at h
    split at h
    · have := sFinC_len h; omega
    · split at h
      · cases h
      · split at h
        · cases h
        · rename_i b9 hb
          cases h
          have := ih hb
          show b9.1.length + 1 ≤ f + 1
          omega
set_option maxRecDepth 20000 in
set_option maxHeartbeats 1000000 in
theorem b_X12_runScript_bad {G : xG} {h : xH} {sa : Nat → Nat} {m : Nat} {a : MA} {S : XS} {c0 : Int} (hB0 : MB G h sa m a S c0) {n : Nat} (hn9 : n ≤ S.1.length) (hGT : GT G sa) {e : Int × Int} (he : ldC (S.1.take n) = .inl e) : CC G MX12_runScript [.ref m, .int (iI (n : Int))] h (fun o h' => o = .inl (some (.int (iI (-1)))) ∧ MB G h' sa m a ([], e, S.2.2) 0 ∧ FRp (fpM m a) h h') := by
  obtain ⟨r, hth, hB⟩ := hB0
  obtain ⟨hM, hf, ⟨⟨gn, hn, hnW⟩, ⟨gd, hd⟩, ⟨gk, hk, hkW⟩, ⟨gs, hs, hsW⟩, ⟨gh, hh, hhl, hhW⟩, ⟨go, ho, hol, hoW⟩, hI, ⟨gq, hod⟩, how⟩, hND⟩ := id hB
  obtain ⟨gi, hI1, hI2, hI3, hI4, hI5⟩ := id hI
  obtain ⟨ow1, gw, ow2, ow3⟩ := id how
  have hds : DSa m a := hB.ds
  obtain ⟨f1, f2, f3, f4, f5, f6, f7⟩ := hf
  obtain ⟨gi2, mI, fI, hT5, hg9, hb9⟩ := hI.take n
  have hTl : ((S.1.take n).length : Int) = (n : Int) := by rw [List.length_take]; omega
  obtain ⟨c, off⟩ := e
  have hs9 : sScript (S.1.take n) = .inl (c, off) := by
    have z : ldC (S.1.take n) = .inl (c, off) := he
    unfold ldC at z
    cases hq : sScript (S.1.take n) with
    | inl e2 => rw [hq] at z; cases z; rfl
    | inr a => rw [hq] at z; cases z
  show RR G MX12_runScript 0 [(0, .ref m), (1, .int (iI ((n : Int))))] [] h (xm_R MX12_runScript).cells (xm_R MX12_runScript).slots (fun o h' => o = .inl (some (.int (iI (-1)))) ∧ MB G h' sa m a ([], (c, off), S.2.2) 0 ∧ FRp (fpM m a) h h')
  rw [← hTl]
  refine rr_X12_runScript_0 hM ⟨mI, fI⟩ hT5 hg9 hb9 hGT how hod (n9 := S.1.length) hI3 f6 (by omega) (fun h2 r2 g2 k1 k2 k3 k4 k5 => ?_)
  rw [hs9] at k5
  obtain ⟨hce, p8, hT8⟩ := k5
  refine r_aload_n dX12_runScript_45 0 rfl ?_
  refine p_callV (As := []) (b := m) (rest := []) (w := (some (.int (iI 1)))) (st' := [.int (iI 1)]) kv_X12_runScript_382 dX12_runScript_46 rfl rfl (Nat.le_of_ble_eq_true rfl) (Nat.le_of_ble_eq_true rfl) (x_rv k1.1 k1.2 rfl) rfl rfl (c_X12_isFaulty_e k1 hT8 hce) rfl (fun h1 e1 => ?_)
  obtain ⟨hM1, F1⟩ := e1
  have hF : FRp [m, a.2.2.2.2.2.2.2.1] h h1 := k4.tr (FRm F1)
  refine i_ifeq dX12_runScript_49 (tgt := 54) (by decide) ⟨by decide, by decide⟩ (fun c => absurd c (by decide)) (fun _ => ?_)
  refine i_const (-1) dX12_runScript_52 ?_
  refine r_ireturn rfl rfl dX12_runScript_53 ?_
  exact ⟨rfl, ⟨_, ((pj_lc_th _ _).trans ((pj_ep_th _ _).trans ((pj_bl_th _ _).trans k2.2.2.2.2.2.2.2))), hM1, ⟨((pj_lc_rr _ _).trans ((pj_ep_rr _ _).trans ((pj_bl_rr _ _).trans (k2.1.trans f1)))), ((pj_lc_un _ _).trans ((pj_ep_un _ _).trans ((pj_bl_un _ _).trans (k2.2.1.trans f2)))), (pj_lc_lc _ _), ((pj_lc_sd _ _).trans ((pj_ep_sd _ _).trans ((pj_bl_sd _ _).trans (k2.2.2.2.1.trans f4)))), ((pj_lc_ol _ _).trans ((pj_ep_ol _ _).trans ((pj_bl_ol _ _).trans (k2.2.2.2.2.1.trans f5)))), ((pj_lc_bl _ _).trans ((pj_ep_bl _ _).trans (pj_bl_bl _ _))), ((pj_lc_ep _ _).trans (pj_ep_ep _ _))⟩, ⟨⟨gn, hn.fr hF (nm2 (hds.1).symm (hds.2.2.2.2.2.2.2.2.2.2.2.2.2.2.2.1)), hnW⟩, ⟨gd, hd.fr hF (nm2 (hds.2.1).symm (hds.2.2.2.2.2.2.2.2.2.2.2.2.2.2.2.2.2.2.2.2.2.2.1))⟩, ⟨gk, hk.fr hF (nm2 (hds.2.2.1).symm (hds.2.2.2.2.2.2.2.2.2.2.2.2.2.2.2.2.2.2.2.2.2.2.2.2.2.2.2.2.1)), hkW⟩, ⟨gs, hs.fr hF (nm2 (hds.2.2.2.1).symm (hds.2.2.2.2.2.2.2.2.2.2.2.2.2.2.2.2.2.2.2.2.2.2.2.2.2.2.2.2.2.2.2.2.2.1)), hsW⟩, ⟨gh, hh.fr hF (nm2 (hds.2.2.2.2.1).symm (hds.2.2.2.2.2.2.2.2.2.2.2.2.2.2.2.2.2.2.2.2.2.2.2.2.2.2.2.2.2.2.2.2.2.2.2.2.2.1)), hhl, hhW⟩, ⟨go, ho.fr hF (nm2 (hds.2.2.2.2.2.1).symm (hds.2.2.2.2.2.2.2.2.2.2.2.2.2.2.2.2.2.2.2.2.2.2.2.2.2.2.2.2.2.2.2.2.2.2.2.2.2.2.2.2.1)), hol, hoW⟩, (hI.fr hF (nm2 (hds.2.2.2.2.2.2.1).symm (hds.2.2.2.2.2.2.2.2.2.2.2.2.2.2.2.2.2.2.2.2.2.2.2.2.2.2.2.2.2.2.2.2.2.2.2.2.2.2.2.2.2.2.1))).nil, ⟨_, k3.obj k1 F1⟩, ⟨by rw [hF.1]; exact ow1, gw, (hF.2 _ (nm2 (hds.2.2.2.2.2.2.2.2.1).symm (hds.2.2.2.2.2.2.2.2.2.2.2.2.2.2.2.2.2.2.2.2.2.2.2.2.2.2.2.2.2.2.2.2.2.2.2.2.2.2.2.2.2.2.2.2).symm)).trans ow2, ow3⟩⟩, hND⟩, fpm_q hF⟩
set_option maxRecDepth 20000 in
set_option maxHeartbeats 1000000 in
theorem b_X12_runScript_ok {G : xG} {h : xH} {sa : Nat → Nat} {m : Nat} {a : MA} {S : XS} {c0 : Int} (hB0 : MB G h sa m a S c0) (hWX : WX S) (hcb : cnt isC S.2.2.1.2 ≤ 3) {n : Nat} (hn9 : n ≤ S.1.length) (hGT : GT G sa) {cs : List CM} (he : ldC (S.1.take n) = .inr cs) : CC G MX12_runScript [.ref m, .int (iI (n : Int))] h (fun o h' => o = .inl (some (.int (iI ((exeL cs S.2.2.1).1 : Int)))) ∧ MB G h' sa m a ([], (0, -1), (exeL cs S.2.2.1).2, S.2.2.2.1, remH S.2.2.2.2.1 S.2.2.1, S.2.2.2.2.2) 0 ∧ FRp (fpM m a) h h') := by
  obtain ⟨r, hth, hB⟩ := hB0
  obtain ⟨hM, hf, ⟨⟨gn, hn, hnW⟩, ⟨gd, hd⟩, ⟨gk, hk, hkW⟩, ⟨gs, hs, hsW⟩, ⟨gh, hh, hhl, hhW⟩, ⟨go, ho, hol, hoW⟩, hI, ⟨gq, hod⟩, how⟩, hND⟩ := id hB
  obtain ⟨gi, hI1, hI2, hI3, hI4, hI5⟩ := id hI
  obtain ⟨ow1, gw, ow2, ow3⟩ := id how
  have hds : DSa m a := hB.ds
  obtain ⟨f1, f2, f3, f4, f5, f6, f7⟩ := hf
  obtain ⟨gi2, mI, fI, hT5, hg9, hb9⟩ := hI.take n
  have hTl : ((S.1.take n).length : Int) = (n : Int) := by rw [List.length_take]; omega
  obtain ⟨a9, hs9, rfl⟩ : ∃ a9, sScript (S.1.take n) = .inr a9 ∧ cs = a9.1 := by
    have z : ldC (S.1.take n) = .inr cs := he
    unfold ldC at z
    cases hq : sScript (S.1.take n) with
    | inl e2 => rw [hq] at z; cases z
    | inr a => rw [hq] at z; cases z; exact ⟨a, rfl, rfl⟩
  have hl20 := sCmds_len 20 hs9
  show RR G MX12_runScript 0 [(0, .ref m), (1, .int (iI ((n : Int))))] [] h (xm_R MX12_runScript).cells (xm_R MX12_runScript).slots (fun o h' => o = .inl (some (.int (iI ((exeL a9.1 S.2.2.1).1 : Int)))) ∧ MB G h' sa m a ([], (0, -1), (exeL a9.1 S.2.2.1).2, S.2.2.2.1, remH S.2.2.2.2.1 S.2.2.1, S.2.2.2.2.2) 0 ∧ FRp (fpM m a) h h')
  rw [← hTl]
  refine rr_X12_runScript_0 hM ⟨mI, fI⟩ hT5 hg9 hb9 hGT how hod (n9 := S.1.length) hI3 f6 (by omega) (fun h2 r2 g2 k1 k2 k3 k4 k5 => ?_)
  rw [hs9] at k5
  obtain ⟨⟨p8, o8, hT8⟩, hoc8, hL8, hC8⟩ := k5
  rw [List.nil_append] at hoc8 hL8 hC8
  refine r_aload_n dX12_runScript_45 0 rfl ?_
  refine p_callV (As := []) (b := m) (rest := []) (w := (some (.int (iI 0)))) (st' := [.int (iI 0)]) kv_X12_runScript_382 dX12_runScript_46 rfl rfl (Nat.le_of_ble_eq_true rfl) (Nat.le_of_ble_eq_true rfl) (x_rv k1.1 k1.2 rfl) rfl rfl (c_X12_isFaulty_k k1 hT8) rfl (fun h1 e1 => ?_)
  obtain ⟨hM1, F1⟩ := e1
  have hF : FRp [m, a.2.2.2.2.2.2.2.1] h h1 := k4.tr (FRm F1)
  refine i_ifeq dX12_runScript_49 (tgt := 54) (by decide) ⟨by decide, by decide⟩ (fun _ => ?_) (fun c => absurd c (by decide))
  have hB3 : MBr G h1 sa m a (r_lc (r_ep (r_bl r2 0) (-1)) 0) ([], (0, -1), S.2.2) none := ⟨hM1, ⟨((pj_lc_rr _ _).trans ((pj_ep_rr _ _).trans ((pj_bl_rr _ _).trans (k2.1.trans f1)))), ((pj_lc_un _ _).trans ((pj_ep_un _ _).trans ((pj_bl_un _ _).trans (k2.2.1.trans f2)))), (pj_lc_lc _ _), ((pj_lc_sd _ _).trans ((pj_ep_sd _ _).trans ((pj_bl_sd _ _).trans (k2.2.2.2.1.trans f4)))), ((pj_lc_ol _ _).trans ((pj_ep_ol _ _).trans ((pj_bl_ol _ _).trans (k2.2.2.2.2.1.trans f5)))), ((pj_lc_bl _ _).trans ((pj_ep_bl _ _).trans (pj_bl_bl _ _))), ((pj_lc_ep _ _).trans (pj_ep_ep _ _))⟩, ⟨⟨gn, hn.fr hF (nm2 (hds.1).symm (hds.2.2.2.2.2.2.2.2.2.2.2.2.2.2.2.1)), hnW⟩, ⟨gd, hd.fr hF (nm2 (hds.2.1).symm (hds.2.2.2.2.2.2.2.2.2.2.2.2.2.2.2.2.2.2.2.2.2.2.1))⟩, ⟨gk, hk.fr hF (nm2 (hds.2.2.1).symm (hds.2.2.2.2.2.2.2.2.2.2.2.2.2.2.2.2.2.2.2.2.2.2.2.2.2.2.2.2.1)), hkW⟩, ⟨gs, hs.fr hF (nm2 (hds.2.2.2.1).symm (hds.2.2.2.2.2.2.2.2.2.2.2.2.2.2.2.2.2.2.2.2.2.2.2.2.2.2.2.2.2.2.2.2.2.1)), hsW⟩, ⟨gh, hh.fr hF (nm2 (hds.2.2.2.2.1).symm (hds.2.2.2.2.2.2.2.2.2.2.2.2.2.2.2.2.2.2.2.2.2.2.2.2.2.2.2.2.2.2.2.2.2.2.2.2.2.1)), hhl, hhW⟩, ⟨go, ho.fr hF (nm2 (hds.2.2.2.2.2.1).symm (hds.2.2.2.2.2.2.2.2.2.2.2.2.2.2.2.2.2.2.2.2.2.2.2.2.2.2.2.2.2.2.2.2.2.2.2.2.2.2.2.2.1)), hol, hoW⟩, (hI.fr hF (nm2 (hds.2.2.2.2.2.2.1).symm (hds.2.2.2.2.2.2.2.2.2.2.2.2.2.2.2.2.2.2.2.2.2.2.2.2.2.2.2.2.2.2.2.2.2.2.2.2.2.2.2.2.2.2.1))).nil, ⟨_, k3.obj k1 F1⟩, ⟨by rw [hF.1]; exact ow1, gw, (hF.2 _ (nm2 (hds.2.2.2.2.2.2.2.2.1).symm (hds.2.2.2.2.2.2.2.2.2.2.2.2.2.2.2.2.2.2.2.2.2.2.2.2.2.2.2.2.2.2.2.2.2.2.2.2.2.2.2.2.2.2.2.2).symm)).trans ow2, ow3⟩⟩, hND⟩
  have hD3 := k3.obj k1 F1
  have hth3 : (r_lc (r_ep (r_bl r2 0) (-1)) 0).2.2.1 = 0 := ((pj_lc_th _ _).trans ((pj_ep_th _ _).trans ((pj_bl_th _ _).trans k2.2.2.2.2.2.2.2)))
  have hoc3 : (r_lc (r_ep (r_bl r2 0) (-1)) 0).2.2.2.2.2.2.2.2.2.2.2.2.2.2.2.2.2.2.2 = (a9.1.length : Int) := ((pj_lc_oc _ _).trans ((pj_ep_oc _ _).trans ((pj_bl_oc _ _).trans hoc8)))
  refine r_aload_n dX12_runScript_54 0 rfl ?_
  refine p_callV (As := []) (b := m) (rest := []) (w := none) (st' := []) kv_X12_runScript_230 dX12_runScript_55 rfl rfl (Nat.le_of_ble_eq_true rfl) (Nat.le_of_ble_eq_true rfl) (x_rv hB3.1.1 hB3.1.2 rfl) rfl rfl (b_X12_keep0 hB3) rfl (fun h31 e31 => ?_)
  obtain ⟨hB31, F31⟩ := e31
  have hD31 := hD3.fr F31 (nm1 (hds.2.2.2.2.2.2.2.2.2.2.2.2.2.2.2.2.2.2.2.2.2.2.2.2.2.2.2.2.1).symm)
  have FM31 := (fpm_q hF).tr (fpm_k F31)
  refine r_aload_n dX12_runScript_58 0 rfl ?_
  refine p_callV (As := []) (b := m) (rest := []) (w := none) (st' := []) kv_X12_runScript_227 dX12_runScript_59 rfl rfl (Nat.le_of_ble_eq_true rfl) (Nat.le_of_ble_eq_true rfl) (x_rv hB31.1.1 hB31.1.2 rfl) rfl rfl (b_X12_record0 hB31) rfl (fun h32 e32 => ?_)
  obtain ⟨⟨v32, hB32⟩, F32⟩ := e32
  have hD32 := hD31.fr F32 (nm2 (hds.2.2.2.2.2.2.2.1).symm (hds.2.2.2.2.2.2.2.2.2.2.2.2.2.2.2.2.2.2.2.2.2.2.2.2.2.2.2.2.2.2.2.2.2.2.2.2.2.1).symm)
  have FM32 := FM31.tr (fpm_y F32)
  refine i_const (0) dX12_runScript_62 ?_
  refine r_istore_n (ls' := [(0, .ref m), (1, .int (iI (((S.1.take n).length : Int)))), (2, .int (iI 0))]) dX12_runScript_63 (by decide) rfl ?_
  have q9 := rr_X12_runScript_64 (v := iI ((S.1.take n).length : Int)) a9.1 (j := 0) hB32 hWX.1 hcb (by rw [Nat.zero_add]; exact hl20) (((pj_un_oc _ _).trans hoc3).trans (by rw [Nat.zero_add])) ((pj_un_th _ _).trans hth3) hD32 hL8 hC8
  rw [Nat.zero_add] at q9
  exact rr_mono q9 (fun o9 h9 z => ⟨z.1, z.2.1, FM32.tr z.2.2⟩)
set_option maxRecDepth 20000 in
set_option maxHeartbeats 1000000 in
theorem c_X12_runScript_no {G : xG} {h : xH} {m : Nat} {a : MA} {r : MR} (hM : MO G h m a r) {n9 : Nat} (hn9 : n9 ≤ 500) (hbl : r.2.2.2.2.2.2.2.2.2.2.1 = (n9 : Int)) {z : Int} (hz : in32 z) (hf : inR z 0 (n9 : Int) = false) : CC G MX12_runScript [.ref m, .int (iI z)] h (fun o h' => o = .inl (some (.int (iI 0))) ∧ MO G h' m a (r_th r 1) ∧ FRp [m] h h') := by
  show RR G MX12_runScript 0 [(0, .ref m), (1, .int (iI z))] [] h (xm_R MX12_runScript).cells (xm_R MX12_runScript).slots (fun o h' => o = .inl (some (.int (iI 0))) ∧ MO G h' m a (r_th r 1) ∧ FRp [m] h h')
  refine r_aload_n dX12_runScript_0 0 rfl ?_
  refine r_aload_n dX12_runScript_1 0 rfl ?_
  refine r_iload_n dX12_runScript_2 1 rfl ?_
  refine p_callV (As := [.int (iI z)]) (b := m) (rest := [.ref m]) (w := (some (.int (iI (b2 false))))) (st' := [.int (iI (b2 false)), .ref m]) kv_X12_runScript_373 dX12_runScript_3 rfl rfl (Nat.le_of_ble_eq_true rfl) (Nat.le_of_ble_eq_true rfl) (x_rv hM.1 hM.2 rfl) rfl rfl (c_X12_isLength hM hn9 hbl hz hf) rfl (fun h1 e1 => ?_)
  rw [show h1 = h from e1]
  refine p_callV (As := [.int (iI (b2 false))]) (b := m) (rest := []) (w := (some (.int (iI 1)))) (st' := [.int (iI 1)]) kv_X12_runScript_82 dX12_runScript_6 rfl rfl (Nat.le_of_ble_eq_true rfl) (Nat.le_of_ble_eq_true rfl) (x_rv hM.1 hM.2 rfl) rfl rfl (c_X12_lacks_f hM) rfl (fun h2 e2 => ?_)
  obtain ⟨hM2, F2⟩ := e2
  refine i_ifeq dX12_runScript_9 (tgt := 14) (by decide) ⟨by decide, by decide⟩ (fun c => absurd c (by decide)) (fun _ => ?_)
  refine i_const (0) dX12_runScript_12 ?_
  refine r_ireturn rfl rfl dX12_runScript_13 ?_
  exact ⟨rfl, hM2, F2⟩
theorem b_X12_runScript_no {G : xG} {h : xH} {sa : Nat → Nat} {m : Nat} {a : MA} {S : XS} {c0 : Int} (hB0 : MB G h sa m a S c0) {z : Int} (hz : in32 z) (hf9 : ¬ (0 ≤ z ∧ z ≤ (S.1.length : Int))) : CC G MX12_runScript [.ref m, .int (iI z)] h (fun o h' => o = .inl (some (.int (iI 0))) ∧ MB G h' sa m a S 1 ∧ FRp (fpM m a) h h') := hB0.ask (fun r g hM hR hRW hB => by
  obtain ⟨gi, hI1, hI2, hI3, hI4, hI5⟩ := hB.2.2.1.2.2.2.2.2.2.1
  exact c_X12_runScript_no hM hI3 hB.2.1.2.2.2.2.2.1 hz (by unfold inR; simp; omega))
