/-! ===== the reference: loading, at the whole state ===== -/
theorem addLs_app (ls : List Int) : ∀ (hd : Int × Int × Int × Int × Int × Int) (L : List AS) (s : AS), addLs (hd, L ++ [s]) ls = (hd, L ++ [ls.foldl ldS s]) := by
  induction ls with
  | nil => intro hd L s; rfl
  | cons x l ih =>
    intro hd L s
    have h1 : (L ++ [s]).length - 1 = L.length := by simp
    have h2 : (L ++ [s]).getD L.length dS = s := by simp
    have e : addL (hd, L ++ [s]) x = (hd, L ++ [ldS s x]) := by
      show (hd, (L ++ [s]).set ((L ++ [s]).length - 1) (ldS ((L ++ [s]).getD ((L ++ [s]).length - 1) dS) x)) = _
      rw [h1, h2, List.set_append_right _ _ (Nat.le_refl _)]
      simp
    show addLs (addL (hd, L ++ [s]) x) l = _
    rw [e]
    exact ih _ _ _
theorem foldl_ld (ls : List Int) : ∀ (l : List Int) (n t : Int), ls.foldl ldS (l, n, t, iI 0, false, false, false) = (l ++ ls, n + (ls.length : Int), t, iI 0, false, false, false) := by
  induction ls with
  | nil => intro l n t; simp
  | cons x r ih =>
    intro l n t
    show r.foldl ldS (l ++ [x], n + 1, t, iI 0, false, false, false) = _
    rw [ih]
    simp
    omega
theorem addSh_app (l : List (Int × List Int)) : ∀ (hd : Int × Int × Int × Int × Int × Int) (L : List AS), addSh (hd, L) l = (hd, L ++ (l.map mdS).map exS) := by
  induction l with
  | nil => intro hd L; show (hd, L) = _; simp
  | cons a l ih =>
    intro hd L
    have e : (a.2).foldl ldS (bgS a.1) = exS (mdS a) := by
      show (a.2).foldl ldS ([], 0, a.1, iI 0, false, false, false) = _
      rw [foldl_ld, Int.zero_add]; rfl
    show addSh (addLs (hd, L ++ [bgS a.1]) a.2) l = _
    rw [addLs_app, ih, e]
    simp
theorem ld_eq (hd : Int × Int × Int) (l : List (Int × List Int)) : (hd6 hd, (l.map mdS).map exS) = addSh (hdB hd) l := by
  show _ = addSh (hd6 hd, []) l
  rw [addSh_app]; rfl
theorem pj_lc_rr (r : MR) (v : Int) : (r_lc r v).1 = r.1 := rfl
theorem pj_lc_un (r : MR) (v : Int) : (r_lc r v).2.1 = r.2.1 := rfl
theorem pj_lc_lc (r : MR) (v : Int) : (r_lc r v).2.2.2.1 = v := rfl
theorem pj_lc_sd (r : MR) (v : Int) : (r_lc r v).2.2.2.2.2.2.2.2.1 = r.2.2.2.2.2.2.2.2.1 := rfl
theorem pj_lc_ol (r : MR) (v : Int) : (r_lc r v).2.2.2.2.2.2.2.2.2.1 = r.2.2.2.2.2.2.2.2.2.1 := rfl
theorem pj_lc_bl (r : MR) (v : Int) : (r_lc r v).2.2.2.2.2.2.2.2.2.2.1 = r.2.2.2.2.2.2.2.2.2.2.1 := rfl
theorem pj_lc_ep (r : MR) (v : Int) : (r_lc r v).2.2.2.2.2.2.2.2.2.2.2.2.2.2.2.2.2.1 = r.2.2.2.2.2.2.2.2.2.2.2.2.2.2.2.2.2.1 := rfl
theorem pj_lc_th (r : MR) (v : Int) : (r_lc r v).2.2.1 = r.2.2.1 := rfl
theorem pj_lc_oc (r : MR) (v : Int) : (r_lc r v).2.2.2.2.2.2.2.2.2.2.2.2.2.2.2.2.2.2.2 = r.2.2.2.2.2.2.2.2.2.2.2.2.2.2.2.2.2.2.2 := rfl
theorem pj_ep_rr (r : MR) (v : Int) : (r_ep r v).1 = r.1 := rfl
theorem pj_ep_un (r : MR) (v : Int) : (r_ep r v).2.1 = r.2.1 := rfl
theorem pj_ep_lc (r : MR) (v : Int) : (r_ep r v).2.2.2.1 = r.2.2.2.1 := rfl
theorem pj_ep_sd (r : MR) (v : Int) : (r_ep r v).2.2.2.2.2.2.2.2.1 = r.2.2.2.2.2.2.2.2.1 := rfl
theorem pj_ep_ol (r : MR) (v : Int) : (r_ep r v).2.2.2.2.2.2.2.2.2.1 = r.2.2.2.2.2.2.2.2.2.1 := rfl
theorem pj_ep_bl (r : MR) (v : Int) : (r_ep r v).2.2.2.2.2.2.2.2.2.2.1 = r.2.2.2.2.2.2.2.2.2.2.1 := rfl
theorem pj_ep_ep (r : MR) (v : Int) : (r_ep r v).2.2.2.2.2.2.2.2.2.2.2.2.2.2.2.2.2.1 = v := rfl
theorem pj_ep_th (r : MR) (v : Int) : (r_ep r v).2.2.1 = r.2.2.1 := rfl
theorem pj_ep_oc (r : MR) (v : Int) : (r_ep r v).2.2.2.2.2.2.2.2.2.2.2.2.2.2.2.2.2.2.2 = r.2.2.2.2.2.2.2.2.2.2.2.2.2.2.2.2.2.2.2 := rfl
theorem pj_bl_rr (r : MR) (v : Int) : (r_bl r v).1 = r.1 := rfl
theorem pj_bl_un (r : MR) (v : Int) : (r_bl r v).2.1 = r.2.1 := rfl
theorem pj_bl_lc (r : MR) (v : Int) : (r_bl r v).2.2.2.1 = r.2.2.2.1 := rfl
theorem pj_bl_sd (r : MR) (v : Int) : (r_bl r v).2.2.2.2.2.2.2.2.1 = r.2.2.2.2.2.2.2.2.1 := rfl
theorem pj_bl_ol (r : MR) (v : Int) : (r_bl r v).2.2.2.2.2.2.2.2.2.1 = r.2.2.2.2.2.2.2.2.2.1 := rfl
theorem pj_bl_bl (r : MR) (v : Int) : (r_bl r v).2.2.2.2.2.2.2.2.2.2.1 = v := rfl
theorem pj_bl_ep (r : MR) (v : Int) : (r_bl r v).2.2.2.2.2.2.2.2.2.2.2.2.2.2.2.2.2.1 = r.2.2.2.2.2.2.2.2.2.2.2.2.2.2.2.2.2.1 := rfl
theorem pj_bl_th (r : MR) (v : Int) : (r_bl r v).2.2.1 = r.2.2.1 := rfl
theorem pj_bl_oc (r : MR) (v : Int) : (r_bl r v).2.2.2.2.2.2.2.2.2.2.2.2.2.2.2.2.2.2.2 = r.2.2.2.2.2.2.2.2.2.2.2.2.2.2.2.2.2.2.2 := rfl
theorem pj_rr_rr (r : MR) (v : Nat) : (r_rr r v).1 = v := rfl
theorem pj_rr_un (r : MR) (v : Nat) : (r_rr r v).2.1 = r.2.1 := rfl
theorem pj_rr_lc (r : MR) (v : Nat) : (r_rr r v).2.2.2.1 = r.2.2.2.1 := rfl
theorem pj_rr_sd (r : MR) (v : Nat) : (r_rr r v).2.2.2.2.2.2.2.2.1 = r.2.2.2.2.2.2.2.2.1 := rfl
theorem pj_rr_ol (r : MR) (v : Nat) : (r_rr r v).2.2.2.2.2.2.2.2.2.1 = r.2.2.2.2.2.2.2.2.2.1 := rfl
theorem pj_rr_bl (r : MR) (v : Nat) : (r_rr r v).2.2.2.2.2.2.2.2.2.2.1 = r.2.2.2.2.2.2.2.2.2.2.1 := rfl
theorem pj_rr_ep (r : MR) (v : Nat) : (r_rr r v).2.2.2.2.2.2.2.2.2.2.2.2.2.2.2.2.2.1 = r.2.2.2.2.2.2.2.2.2.2.2.2.2.2.2.2.2.1 := rfl
theorem pj_rr_th (r : MR) (v : Nat) : (r_rr r v).2.2.1 = r.2.2.1 := rfl
theorem pj_rr_oc (r : MR) (v : Nat) : (r_rr r v).2.2.2.2.2.2.2.2.2.2.2.2.2.2.2.2.2.2.2 = r.2.2.2.2.2.2.2.2.2.2.2.2.2.2.2.2.2.2.2 := rfl
theorem pj_sd_rr (r : MR) (v : Bool) : (r_sd r v).1 = r.1 := rfl
theorem pj_sd_un (r : MR) (v : Bool) : (r_sd r v).2.1 = r.2.1 := rfl
theorem pj_sd_lc (r : MR) (v : Bool) : (r_sd r v).2.2.2.1 = r.2.2.2.1 := rfl
theorem pj_sd_sd (r : MR) (v : Bool) : (r_sd r v).2.2.2.2.2.2.2.2.1 = v := rfl
theorem pj_sd_ol (r : MR) (v : Bool) : (r_sd r v).2.2.2.2.2.2.2.2.2.1 = r.2.2.2.2.2.2.2.2.2.1 := rfl
theorem pj_sd_bl (r : MR) (v : Bool) : (r_sd r v).2.2.2.2.2.2.2.2.2.2.1 = r.2.2.2.2.2.2.2.2.2.2.1 := rfl
theorem pj_sd_ep (r : MR) (v : Bool) : (r_sd r v).2.2.2.2.2.2.2.2.2.2.2.2.2.2.2.2.2.1 = r.2.2.2.2.2.2.2.2.2.2.2.2.2.2.2.2.2.1 := rfl
theorem pj_sd_th (r : MR) (v : Bool) : (r_sd r v).2.2.1 = r.2.2.1 := rfl
theorem pj_sd_oc (r : MR) (v : Bool) : (r_sd r v).2.2.2.2.2.2.2.2.2.2.2.2.2.2.2.2.2.2.2 = r.2.2.2.2.2.2.2.2.2.2.2.2.2.2.2.2.2.2.2 := rfl
theorem pj_un_rr (r : MR) (v : Int) : (r_un r v).1 = r.1 := rfl
theorem pj_un_un (r : MR) (v : Int) : (r_un r v).2.1 = v := rfl
theorem pj_un_lc (r : MR) (v : Int) : (r_un r v).2.2.2.1 = r.2.2.2.1 := rfl
theorem pj_un_sd (r : MR) (v : Int) : (r_un r v).2.2.2.2.2.2.2.2.1 = r.2.2.2.2.2.2.2.2.1 := rfl
theorem pj_un_ol (r : MR) (v : Int) : (r_un r v).2.2.2.2.2.2.2.2.2.1 = r.2.2.2.2.2.2.2.2.2.1 := rfl
theorem pj_un_bl (r : MR) (v : Int) : (r_un r v).2.2.2.2.2.2.2.2.2.2.1 = r.2.2.2.2.2.2.2.2.2.2.1 := rfl
theorem pj_un_ep (r : MR) (v : Int) : (r_un r v).2.2.2.2.2.2.2.2.2.2.2.2.2.2.2.2.2.1 = r.2.2.2.2.2.2.2.2.2.2.2.2.2.2.2.2.2.1 := rfl
theorem pj_un_th (r : MR) (v : Int) : (r_un r v).2.2.1 = r.2.2.1 := rfl
theorem pj_un_oc (r : MR) (v : Int) : (r_un r v).2.2.2.2.2.2.2.2.2.2.2.2.2.2.2.2.2.2.2 = r.2.2.2.2.2.2.2.2.2.2.2.2.2.2.2.2.2.2.2 := rfl
theorem pj_th_rr (r : MR) (v : Int) : (r_th r v).1 = r.1 := rfl
theorem pj_th_un (r : MR) (v : Int) : (r_th r v).2.1 = r.2.1 := rfl
theorem pj_th_lc (r : MR) (v : Int) : (r_th r v).2.2.2.1 = r.2.2.2.1 := rfl
theorem pj_th_sd (r : MR) (v : Int) : (r_th r v).2.2.2.2.2.2.2.2.1 = r.2.2.2.2.2.2.2.2.1 := rfl
theorem pj_th_ol (r : MR) (v : Int) : (r_th r v).2.2.2.2.2.2.2.2.2.1 = r.2.2.2.2.2.2.2.2.2.1 := rfl
theorem pj_th_bl (r : MR) (v : Int) : (r_th r v).2.2.2.2.2.2.2.2.2.2.1 = r.2.2.2.2.2.2.2.2.2.2.1 := rfl
theorem pj_th_ep (r : MR) (v : Int) : (r_th r v).2.2.2.2.2.2.2.2.2.2.2.2.2.2.2.2.2.1 = r.2.2.2.2.2.2.2.2.2.2.2.2.2.2.2.2.2.1 := rfl
theorem pj_th_th (r : MR) (v : Int) : (r_th r v).2.2.1 = v := rfl
theorem pj_th_oc (r : MR) (v : Int) : (r_th r v).2.2.2.2.2.2.2.2.2.2.2.2.2.2.2.2.2.2.2 = r.2.2.2.2.2.2.2.2.2.2.2.2.2.2.2.2.2.2.2 := rfl
theorem pj_oc_rr (r : MR) (v : Int) : (r_oc r v).1 = r.1 := rfl
theorem pj_oc_un (r : MR) (v : Int) : (r_oc r v).2.1 = r.2.1 := rfl
theorem pj_oc_lc (r : MR) (v : Int) : (r_oc r v).2.2.2.1 = r.2.2.2.1 := rfl
theorem pj_oc_sd (r : MR) (v : Int) : (r_oc r v).2.2.2.2.2.2.2.2.1 = r.2.2.2.2.2.2.2.2.1 := rfl
theorem pj_oc_ol (r : MR) (v : Int) : (r_oc r v).2.2.2.2.2.2.2.2.2.1 = r.2.2.2.2.2.2.2.2.2.1 := rfl
theorem pj_oc_bl (r : MR) (v : Int) : (r_oc r v).2.2.2.2.2.2.2.2.2.2.1 = r.2.2.2.2.2.2.2.2.2.2.1 := rfl
theorem pj_oc_ep (r : MR) (v : Int) : (r_oc r v).2.2.2.2.2.2.2.2.2.2.2.2.2.2.2.2.2.1 = r.2.2.2.2.2.2.2.2.2.2.2.2.2.2.2.2.2.1 := rfl
theorem pj_oc_th (r : MR) (v : Int) : (r_oc r v).2.2.1 = r.2.2.1 := rfl
theorem pj_oc_oc (r : MR) (v : Int) : (r_oc r v).2.2.2.2.2.2.2.2.2.2.2.2.2.2.2.2.2.2.2 = v := rfl
theorem fpm_d {m : Nat} {a : MA} {h h' : xH} (hF : FRp [m, a.2.1] h h') : FRp (fpM m a) h h' := hF.mono (by simp [fpM])
theorem fpm_d2 {m : Nat} {a : MA} {h h' : xH} (hF : FRp [m, a.2.1, a.1] h h') : FRp (fpM m a) h h' := hF.mono (by simp [fpM])
theorem b_X12_loadBench_bad {G : xG} {h : xH} {sa : Nat → Nat} {m : Nat} {a : MA} {S : XS} {c0 : Int} (hB0 : MB G h sa m a S c0) {n : Nat} (hn9 : n ≤ S.1.length) (hGT : GT G sa) {e : Int × Int} (he : ldB (S.1.take n) = .inl e) : CC G MX12_loadBench [.ref m, .int (iI (n : Int))] h (fun o h' => o = .inl (some (.int (iI (-1)))) ∧ MB G h' sa m a ([], e, S.2.2) 0 ∧ FRp (fpM m a) h h') := by
  obtain ⟨r, hth, hB⟩ := hB0
  obtain ⟨hM, hf, ⟨⟨gn, hn, hnW⟩, ⟨gd, hd⟩, ⟨gk, hk, hkW⟩, ⟨gs, hs, hsW⟩, ⟨gh, hh, hhl, hhW⟩, ⟨go, ho, hol, hoW⟩, hI, ⟨gq, hod⟩, how⟩, hND⟩ := id hB
  obtain ⟨gi, hI1, hI2, hI3, hI4, hI5⟩ := id hI
  obtain ⟨ow1, gw, ow2, ow3⟩ := id how
  have hds : DSa m a := hB.ds
  obtain ⟨f1, f2, f3, f4, f5, f6, f7⟩ := hf
  obtain ⟨gi2, mI, fI, hT5, hg9, hb9⟩ := hI.take n
  have hTl : (S.1.take n).length = n := by rw [List.length_take]; omega
  obtain ⟨c, off⟩ := e
  have hs9 : sBench (S.1.take n) = .inl (c, off) := by
    unfold ldB at he
    split at he
    · rename_i e9 h9; rw [h9]; cases he; rfl
    · cases he
  have q0 := c_X12_loadBench_bad hM (T := S.1.take n) ⟨mI, fI⟩ hT5 hg9 hb9 hGT hn hd (hds.2.2.2.2.2.2.2.2.2.1) hI3 f6 (by omega) hs9
  rw [hTl] at q0
  refine cc_mono q0 (fun o h' q => ?_)
  obtain ⟨q1, r2, g2, q2, ⟨k1, k2, k3, k4, k5, k6⟩, kt, q5, hF⟩ := q
  exact ⟨q1, ⟨_, ((pj_lc_th _ _).trans ((pj_ep_th _ _).trans ((pj_bl_th _ _).trans ((pj_rr_th _ _).trans kt)))), q2, ⟨((pj_lc_rr _ _).trans ((pj_ep_rr _ _).trans ((pj_bl_rr _ _).trans (pj_rr_rr _ _)))), ((pj_lc_un _ _).trans ((pj_ep_un _ _).trans ((pj_bl_un _ _).trans ((pj_rr_un _ _).trans (k1.trans f2))))), (pj_lc_lc _ _), ((pj_lc_sd _ _).trans ((pj_ep_sd _ _).trans ((pj_bl_sd _ _).trans ((pj_rr_sd _ _).trans (k3.trans f4))))), ((pj_lc_ol _ _).trans ((pj_ep_ol _ _).trans ((pj_bl_ol _ _).trans ((pj_rr_ol _ _).trans (k4.trans f5))))), ((pj_lc_bl _ _).trans ((pj_ep_bl _ _).trans (pj_bl_bl _ _))), ((pj_lc_ep _ _).trans (pj_ep_ep _ _))⟩, ⟨⟨gn, hn.fr hF (nm2 (hds.1).symm (hds.2.2.2.2.2.2.2.2.2.1)), hnW⟩, ⟨g2, q5⟩, ⟨gk, hk.fr hF (nm2 (hds.2.2.1).symm (hds.2.2.2.2.2.2.2.2.2.2.2.2.2.2.2.2.2.1).symm), hkW⟩, ⟨gs, hs.fr hF (nm2 (hds.2.2.2.1).symm (hds.2.2.2.2.2.2.2.2.2.2.2.2.2.2.2.2.2.2.1).symm), hsW⟩, ⟨gh, hh.fr hF (nm2 (hds.2.2.2.2.1).symm (hds.2.2.2.2.2.2.2.2.2.2.2.2.2.2.2.2.2.2.2.1).symm), hhl, hhW⟩, ⟨go, ho.fr hF (nm2 (hds.2.2.2.2.2.1).symm (hds.2.2.2.2.2.2.2.2.2.2.2.2.2.2.2.2.2.2.2.2.1).symm), hol, hoW⟩, (hI.fr hF (nm2 (hds.2.2.2.2.2.2.1).symm (hds.2.2.2.2.2.2.2.2.2.2.2.2.2.2.2.2.2.2.2.2.2.1).symm)).nil, ⟨gq, hod.fr hF (nm2 (hds.2.2.2.2.2.2.2.1).symm (hds.2.2.2.2.2.2.2.2.2.2.2.2.2.2.2.2.2.2.2.2.2.2.1).symm)⟩, ⟨by rw [hF.1]; exact ow1, gw, (hF.2 _ (nm2 (hds.2.2.2.2.2.2.2.2.1).symm (hds.2.2.2.2.2.2.2.2.2.2.2.2.2.2.2.2.2.2.2.2.2.2.2.1).symm)).trans ow2, ow3⟩⟩, hND⟩, fpm_d hF⟩
theorem b_X12_loadBench_ok {G : xG} {h : xH} {sa : Nat → Nat} {m : Nat} {a : MA} {S : XS} {c0 : Int} (hB0 : MB G h sa m a S c0) {n : Nat} (hn9 : n ≤ S.1.length) (hGT : GT G sa) {B1 : AB} (he : ldB (S.1.take n) = .inr B1) : CC G MX12_loadBench [.ref m, .int (iI (n : Int))] h (fun o h' => o = .inl (some (.int (iI (B1.2.length : Int)))) ∧ MB G h' sa m a ([], (0, -1), B1, none, [], S.2.2.2.2.2) 0 ∧ FRp (fpM m a) h h') := by
  obtain ⟨r, hth, hB⟩ := hB0
  obtain ⟨hM, hf, ⟨⟨gn, hn, hnW⟩, ⟨gd, hd⟩, ⟨gk, hk, hkW⟩, ⟨gs, hs, hsW⟩, ⟨gh, hh, hhl, hhW⟩, ⟨go, ho, hol, hoW⟩, hI, ⟨gq, hod⟩, how⟩, hND⟩ := id hB
  obtain ⟨gi, hI1, hI2, hI3, hI4, hI5⟩ := id hI
  obtain ⟨ow1, gw, ow2, ow3⟩ := id how
  have hds : DSa m a := hB.ds
  obtain ⟨f1, f2, f3, f4, f5, f6, f7⟩ := hf
  obtain ⟨gi2, mI, fI, hT5, hg9, hb9⟩ := hI.take n
  have hTl : (S.1.take n).length = n := by rw [List.length_take]; omega
  obtain ⟨y, hs9, hy⟩ : ∃ y, sBench (S.1.take n) = .inr y ∧ B1 = addSh (hdB y.1.1) y.1.2 := by
    unfold ldB at he
    split at he
    · cases he
    · rename_i e9 h9; cases he; exact ⟨_, h9, rfl⟩
  have q0 := c_X12_loadBench_ok hM (T := S.1.take n) ⟨mI, fI⟩ hT5 hg9 hb9 hGT hn hd (hds.2.2.2.2.2.2.2.2.2.1) hI3 f6 (by omega) hs9
  rw [hTl] at q0
  rw [← ld_eq] at hy
  have hl : (B1.2.length : Int) = (y.1.2.length : Int) := by rw [hy]; simp
  refine cc_mono q0 (fun o h' q => ?_)
  obtain ⟨q1, r2, g2, gN, q2, ⟨k1, k2, k3, k4, k5, k6⟩, kt, q5, q6, q7, hF⟩ := q
  rw [hl]
  exact ⟨q1, ⟨_, ((pj_sd_th _ _).trans ((pj_un_th _ _).trans ((pj_lc_th _ _).trans ((pj_ep_th _ _).trans ((pj_bl_th _ _).trans ((pj_rr_th _ _).trans kt)))))), q2, ⟨((pj_sd_rr _ _).trans ((pj_un_rr _ _).trans ((pj_lc_rr _ _).trans ((pj_ep_rr _ _).trans ((pj_bl_rr _ _).trans (pj_rr_rr _ _)))))), ((pj_sd_un _ _).trans (pj_un_un _ _)), ((pj_sd_lc _ _).trans ((pj_un_lc _ _).trans (pj_lc_lc _ _))), (pj_sd_sd _ _), ((pj_sd_ol _ _).trans ((pj_un_ol _ _).trans ((pj_lc_ol _ _).trans ((pj_ep_ol _ _).trans ((pj_bl_ol _ _).trans ((pj_rr_ol _ _).trans (k4.trans f5))))))), ((pj_sd_bl _ _).trans ((pj_un_bl _ _).trans ((pj_lc_bl _ _).trans ((pj_ep_bl _ _).trans (pj_bl_bl _ _))))), ((pj_sd_ep _ _).trans ((pj_un_ep _ _).trans ((pj_lc_ep _ _).trans (pj_ep_ep _ _))))⟩, ⟨⟨gN, q6, by rw [hy]; exact q7⟩, ⟨g2, q5⟩, ⟨gk, hk.fr hF (nm3 (hds.2.2.1).symm (hds.2.2.2.2.2.2.2.2.2.2.2.2.2.2.2.2.2.1).symm (hds.2.2.2.2.2.2.2.2.2.2.1).symm), hkW⟩, ⟨gs, hs.fr hF (nm3 (hds.2.2.2.1).symm (hds.2.2.2.2.2.2.2.2.2.2.2.2.2.2.2.2.2.2.1).symm (hds.2.2.2.2.2.2.2.2.2.2.2.1).symm), fun _ z => by cases z⟩, ⟨gh, hh.fr hF (nm3 (hds.2.2.2.2.1).symm (hds.2.2.2.2.2.2.2.2.2.2.2.2.2.2.2.2.2.2.2.1).symm (hds.2.2.2.2.2.2.2.2.2.2.2.2.1).symm), Nat.zero_le _, fun k hk => absurd hk (Nat.not_lt_zero k)⟩, ⟨go, ho.fr hF (nm3 (hds.2.2.2.2.2.1).symm (hds.2.2.2.2.2.2.2.2.2.2.2.2.2.2.2.2.2.2.2.2.1).symm (hds.2.2.2.2.2.2.2.2.2.2.2.2.2.1).symm), hol, hoW⟩, (hI.fr hF (nm3 (hds.2.2.2.2.2.2.1).symm (hds.2.2.2.2.2.2.2.2.2.2.2.2.2.2.2.2.2.2.2.2.2.1).symm (hds.2.2.2.2.2.2.2.2.2.2.2.2.2.2.1).symm)).nil, ⟨gq, hod.fr hF (nm3 (hds.2.2.2.2.2.2.2.1).symm (hds.2.2.2.2.2.2.2.2.2.2.2.2.2.2.2.2.2.2.2.2.2.2.1).symm (hds.2.2.2.2.2.2.2.2.2.2.2.2.2.2.2.1).symm)⟩, ⟨by rw [hF.1]; exact ow1, gw, (hF.2 _ (nm3 (hds.2.2.2.2.2.2.2.2.1).symm (hds.2.2.2.2.2.2.2.2.2.2.2.2.2.2.2.2.2.2.2.2.2.2.2.1).symm (hds.2.2.2.2.2.2.2.2.2.2.2.2.2.2.2.2.1).symm)).trans ow2, ow3⟩⟩, hND⟩, fpm_d2 hF⟩
theorem b_X12_loadBench_no {G : xG} {h : xH} {sa : Nat → Nat} {m : Nat} {a : MA} {S : XS} {c0 : Int} (hB0 : MB G h sa m a S c0) {z : Int} (hz : in32 z) (hf9 : ¬ (0 ≤ z ∧ z ≤ (S.1.length : Int))) : CC G MX12_loadBench [.ref m, .int (iI z)] h (fun o h' => o = .inl (some (.int (iI 0))) ∧ MB G h' sa m a S 1 ∧ FRp (fpM m a) h h') := hB0.ask (fun r g hM hR hRW hB => by
  obtain ⟨gi, hI1, hI2, hI3, hI4, hI5⟩ := hB.2.2.1.2.2.2.2.2.2.1
  exact c_X12_loadBench_no hM hI3 hB.2.1.2.2.2.2.2.1 hz (by unfold inR; simp; omega))
theorem cnt_app (f : AS → Bool) (L M : List AS) : cnt f (L ++ M) = cnt f L + cnt f M := by simp [cnt]
theorem cnt_one (f : AS → Bool) (s : AS) : cnt f [s] = if f s then 1 else 0 := by
  unfold cnt; rw [List.filter_cons]; split <;> simp
theorem cnt_map {f : AS → Bool} {g : AS → AS} (h : ∀ s, f (g s) = f s) (L : List AS) : cnt f (L.map g) = cnt f L := by
  induction L with
  | nil => rfl
  | cons s L ih =>
    have e : cnt f ([g s]) = cnt f ([s]) := by rw [cnt_one, cnt_one, h]
    have a := cnt_app f [g s] (L.map g)
    have b := cnt_app f [s] L
    show cnt f ([g s] ++ L.map g) = cnt f ([s] ++ L)
    omega
theorem cnt_erase (f : AS → Bool) (L : List AS) (j : Nat) : cnt f (L.eraseIdx j) ≤ cnt f L := by
  unfold cnt
  have := ((List.eraseIdx_sublist L j).filter f).length_le
  omega
theorem cnt_set (f : AS → Bool) (s' : AS) : ∀ (L : List AS) (i : Nat), i < L.length → cnt f (L.set i s') + (if f (L.getD i dS) then 1 else 0) = cnt f L + (if f s' then 1 else 0) := by
  intro L
  induction L with
  | nil => intro i hi; simp at hi
  | cons s L ih =>
    intro i hi
    cases i with
    | zero =>
      show cnt f ([s'] ++ L) + (if f s then 1 else 0) = cnt f ([s] ++ L) + (if f s' then 1 else 0)
      rw [cnt_app, cnt_app, cnt_one, cnt_one]
      omega
    | succ i =>
      have := ih i (by simpa using hi)
      show cnt f ([s] ++ L.set i s') + (if f (L.getD i dS) then 1 else 0) = cnt f ([s] ++ L) + (if f s' then 1 else 0)
      rw [cnt_app, cnt_app]
      omega
theorem CB_same {L : List AS} {i : Nat} (hi : i < L.length) {s' : AS} (e : isC s' = isC (L.getD i dS)) : cnt isC (L.set i s') = cnt isC L := by
  have := cnt_set isC s' L i hi
  rw [e] at this
  omega
theorem CB_cmd {k : Nat} {B : AB} {x y : Int} (h : rCmd k B x y = 0) (hc : cnt isC B.2 ≤ 3) : cnt isC (aCmd k B x y).2 ≤ 3 := by
  unfold rCmd at h
  unfold aCmd
  split at h
  · obtain ⟨n1, n2⟩ := hasS_n (rF0 h).1
    exact Int.le_trans (Int.le_of_eq (CB_same n1 rfl)) hc
  · obtain ⟨n1, n2⟩ := hasS_n (rR0 h).1
    exact Int.le_trans (Int.le_of_eq (CB_same n1 rfl)) hc
  · obtain ⟨n1, n2⟩ := hasS_n (rD0 h).1
    exact Int.le_trans (Int.le_of_eq (CB_same n1 rfl)) hc
  · obtain ⟨n1, n2⟩ := hasS_n (rSe0 h)
    exact Int.le_trans (Int.le_of_eq (CB_same n1 rfl)) hc
  · have hs := rCo0 h
    obtain ⟨n1, n2⟩ := hasS_n hs
    have e : rCool B x = rCoolS (sAt B x) B.2 := if_pos hs
    rw [e] at h
    have h3 := (rCS0 h).2
    have := cnt_set isC (coS (B.2.getD x.toNat dS) true) B.2 x.toNat n1
    show cnt isC (B.2.set x.toNat (coS (B.2.getD x.toNat dS) true)) ≤ 3
    rw [show isC (coS (B.2.getD x.toNat dS) true) = true from rfl, if_pos rfl] at this
    split at this <;> omega
  · obtain ⟨n1, n2⟩ := hasS_n (rTa0 h)
    have := cnt_set isC (coS (B.2.getD x.toNat dS) false) B.2 x.toNat n1
    show cnt isC (B.2.set x.toNat (coS (B.2.getD x.toNat dS) false)) ≤ 3
    rw [show (if isC (coS (B.2.getD x.toNat dS) false) = true then (1 : Int) else 0) = 0 from if_neg (by rw [show isC (coS (B.2.getD x.toNat dS) false) = false from rfl]; decide)] at this
    split at this <;> omega
  · show cnt isC (B.2.map (hrS B.1.1 x.toNat)) ≤ 3
    rw [cnt_map (f := isC) (g := hrS B.1.1 x.toNat) (fun s => rfl)]; exact hc
  · obtain ⟨hs, hl⟩ := rCu0 h
    obtain ⟨n1, n2⟩ := hasS_n hs
    have e : rCut B x = rCutS (sAt B x) B.2.length := if_pos hs
    rw [e] at h
    have h3 : isC (B.2.getD x.toNat dS) = false := (rCuS0 h).1
    show cnt isC (B.2.set x.toNat (seS (B.2.getD x.toNat dS) false) ++ [seS (B.2.getD x.toNat dS) false]) ≤ 3
    rw [cnt_app, CB_same (s' := seS (B.2.getD x.toNat dS) false) n1 rfl, cnt_one, show isC (seS (B.2.getD x.toNat dS) false) = isC (B.2.getD x.toNat dS) from rfl, h3, if_neg (by decide), Int.add_zero]; exact hc
  · obtain ⟨n1, n2⟩ := hasS_n (rSt0 h).1
    refine Int.le_trans (cnt_erase _ _ _) ?_
    exact Int.le_trans (Int.le_of_eq (CB_same n1 rfl)) hc
theorem CB_exe (cs : List (Nat × Int × Int)) : ∀ {B : AB}, cnt isC B.2 ≤ 3 → cnt isC (exeL cs B).2.2 ≤ 3 := by
  induction cs with
  | nil => intro B h; exact h
  | cons c cs ih =>
    intro B h
    unfold exeL
    split
    · rename_i e; exact ih (CB_cmd e h)
    · exact h
