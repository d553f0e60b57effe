/-! ===== the reference: a script that is read ===== -/
theorem b13 : (1 : Int) ≤ 1 ∧ (1 : Int) ≤ 3 := ⟨by decide, by decide⟩
theorem b33 : (1 : Int) ≤ 3 ∧ (3 : Int) ≤ 3 := ⟨by decide, by decide⟩
theorem sNum_e {T : List Int} {p : Nat} {lo hi c off : Int} (h : sNum T p lo hi = .inl (c, off)) : 1 ≤ c ∧ c ≤ 3 := by
  rcases sNum_inv (T := T) (p := p) (lo := lo) (hi := hi) with ⟨v', q', e1, _⟩ | ⟨e1, _⟩ | ⟨e1, _⟩
  · rw [e1] at h; cases h
  · rw [e1] at h; cases h; exact ⟨by decide, by decide⟩
  · rw [e1] at h; cases h; exact ⟨by decide, by decide⟩
theorem sSec_e {T : List Int} {k p : Nat} {c off : Int} (h : sSec T k p = .inl (c, off)) : 1 ≤ c ∧ c ≤ 3 := by
  unfold sSec at h
  split at h
  · exact sNum_e h
  · cases h
theorem sSemi_e {T : List Int} {p : Nat} {c off : Int} (h : sSemi T p = .inl (c, off)) : 1 ≤ c ∧ c ≤ 3 := by
  rcases sSemi_inv (T := T) (p := p) with ⟨e1, _⟩ | ⟨e1, _⟩
  · rw [e1] at h; cases h
  · rw [e1] at h; cases h; exact ⟨by decide, by decide⟩
def RDR (r' : MR) (g g' : Nat → Int32) (T : List Int) (n : Nat) (res : PR CM) : Prop := match res with
  | .inl e => (1 ≤ e.1 ∧ e.1 ≤ 3) ∧ ∃ p', TS r' T p' e.1 e.2
  | .inr c => (∃ o', TS r' T c.2 0 o') ∧ r'.2.2.2.2.2.2.2.2.2.2.2.2.2.2.2.2.2.2.2 = (n : Int) + 1 ∧ (g' (3 * n) = iI (c.1.1 : Int) ∧ g' (3 * n + 1) = iI c.1.2.1 ∧ g' (3 * n + 2) = iI c.1.2.2) ∧ ∀ k, k < 3 * n → g' k = g k
def SCRR (r' : MR) (g' : Nat → Int32) (T : List Int) (cs : List CM) (res : PR (List CM)) : Prop := match res with
  | .inl e => (1 ≤ e.1 ∧ e.1 ≤ 3) ∧ ∃ p', TS r' T p' e.1 e.2
  | .inr b => (∃ p' o', TS r' T p' 0 o') ∧ r'.2.2.2.2.2.2.2.2.2.2.2.2.2.2.2.2.2.2.2 = ((cs ++ b.1).length : Int) ∧ ORL g' 0 (cs ++ b.1) ∧ ∀ c ∈ cs ++ b.1, CMok c
theorem c_X12_readOrder {G : xG} {h : xH} {m : Nat} {a : MA} {r : MR} (hM : MO G h m a r) {T : List Int} {p : Nat} {o : Int} (hT : TS r T p 0 o) {gi : Nat → Int32} (hA : AR G h a.2.2.2.2.2.2.1 500 gi) (hl5 : T.length ≤ 500) (hg : ∀ k, k < T.length → gi k = iI (T.getD k 0)) (hb : BYT T) {sa : Nat → Nat} (hGT : GT G sa) (hO : OWS G h a.2.2.2.2.2.2.2.2 sa) {gq : Nat → Int32} (hD : AR G h a.2.2.2.2.2.2.2.1 60 gq) {n : Nat} (hn20 : n ≤ 20) (hoc : r.2.2.2.2.2.2.2.2.2.2.2.2.2.2.2.2.2.2.2 = (n : Int)) (hn2 : n < 20) : CC G MX12_readOrder [.ref m] h (fun o9 h' => o9 = .inl none ∧ ∃ r' g', MO G h' m a r' ∧ RO r r' ∧ AR G h' a.2.2.2.2.2.2.2.1 60 g' ∧ FRp [m, a.2.2.2.2.2.2.2.1] h h' ∧ RDR r' gq g' T n (sCmd T p)) := by
  cases hs : sCmd T p with
  | inl e =>
    obtain ⟨c, off⟩ := e
    rcases sCmd_bad hs with ⟨f1, rfl, rfl⟩ | ⟨k, f1, hk9, f2 | ⟨x, q1, f2, f3 | ⟨y, q2, f3, f4⟩⟩⟩
    · exact cc_mono (c_X12_readOrder_b1 hM hT hA hl5 hg hb hGT hO hD hn20 hoc f1) (fun o9 h' ⟨z0, r', g', p', z1, z2, z3, z4, z5⟩ => ⟨z0, r', g', z1, z2, z4, z5, b13, p', z3⟩)
    · exact cc_mono (c_X12_readOrder_n hM hT hA hl5 hg hb hGT hO hD hn20 hoc f1 hk9 hn2 f2) (fun o9 h' ⟨z0, r', g', p', z1, z2, z3, z4, z5⟩ => ⟨z0, r', g', z1, z2, z4, z5, sNum_e f2, p', z3⟩)
    · exact cc_mono (c_X12_readOrder_s hM hT hA hl5 hg hb hGT hO hD hn20 hoc f1 hk9 hn2 f2 f3) (fun o9 h' ⟨z0, r', g', p', z1, z2, z3, z4, z5⟩ => ⟨z0, r', g', z1, z2, z4, z5, sSec_e f3, p', z3⟩)
    · exact cc_mono (c_X12_readOrder_x hM hT hA hl5 hg hb hGT hO hD hn20 hoc f1 hk9 hn2 f2 f3 f4) (fun o9 h' ⟨z0, r', g', p', z1, z2, z3, z4, z5⟩ => ⟨z0, r', g', z1, z2, z4, z5, sSemi_e f4, p', z3⟩)
  | inr a9 =>
    obtain ⟨c, q⟩ := a9
    obtain ⟨x, q1, y, q2, rfl, f0, f9, f1, f2, f3⟩ := sCmd_inv hs
    have fk : fndC T p = (((fndC T p).toNat : Nat) : Int) := by omega
    exact cc_mono (c_X12_readOrder_ok hM hT hA hl5 hg hb hGT hO hD hn20 hoc fk (by omega) hn2 f1 f2 f3) (fun o9 h' ⟨z0, r', o', z1, z2, z3, z4, z5, z6⟩ => ⟨z0, r', _, z1, z2, z5, z6, ⟨o', z4⟩, z3, ⟨(upd_n (by omega)).trans ((upd_n (by omega)).trans upd_s), (upd_n (by omega)).trans upd_s, upd_s⟩, fun k hk => (upd_n (by omega)).trans ((upd_n (by omega)).trans (upd_n (by omega)))⟩)
theorem c_X12_readOrder20 {G : xG} {h : xH} {m : Nat} {a : MA} {r : MR} (hM : MO G h m a r) {T : List Int} {p : Nat} {o : Int} (hT : TS r T p 0 o) {gi : Nat → Int32} (hA : AR G h a.2.2.2.2.2.2.1 500 gi) (hl5 : T.length ≤ 500) (hg : ∀ k, k < T.length → gi k = iI (T.getD k 0)) (hb : BYT T) {sa : Nat → Nat} (hGT : GT G sa) (hO : OWS G h a.2.2.2.2.2.2.2.2 sa) {gq : Nat → Int32} (hD : AR G h a.2.2.2.2.2.2.2.1 60 gq) {n : Nat} (hn20 : n ≤ 20) (hoc : r.2.2.2.2.2.2.2.2.2.2.2.2.2.2.2.2.2.2.2 = (n : Int)) (hn2 : n = 20) : CC G MX12_readOrder [.ref m] h (fun o9 h' => o9 = .inl none ∧ ∃ r' g', MO G h' m a r' ∧ RO r r' ∧ AR G h' a.2.2.2.2.2.2.2.1 60 g' ∧ FRp [m, a.2.2.2.2.2.2.2.1] h h' ∧ RDR r' gq g' T n (.inl ((if 0 ≤ fndC T p then 3 else 1), ((tokAt T p).2.1 : Int)))) := by
  have hfb := fndC_b T p
  by_cases c : 0 ≤ fndC T p
  · have fk : fndC T p = (((fndC T p).toNat : Nat) : Int) := by omega
    rw [if_pos c]
    exact cc_mono (c_X12_readOrder_full hM hT hA hl5 hg hb hGT hO hD hn20 hoc fk (by omega) hn2) (fun o9 h' ⟨z0, r', g', p', z1, z2, z3, z4, z5⟩ => ⟨z0, r', g', z1, z2, z4, z5, b33, p', z3⟩)
  · rw [if_neg c]
    exact cc_mono (c_X12_readOrder_b1 hM hT hA hl5 hg hb hGT hO hD hn20 hoc (by omega)) (fun o9 h' ⟨z0, r', g', p', z1, z2, z3, z4, z5⟩ => ⟨z0, r', g', z1, z2, z4, z5, b13, p', z3⟩)
set_option maxRecDepth 20000 in
set_option maxHeartbeats 1000000 in
theorem rr_X12_runScript_24 {G : xG} {h : xH} {m : Nat} {a : MA} {r : MR} {T : List Int} {gi : Nat → Int32} (hl5 : T.length ≤ 500) (hg : ∀ k, k < T.length → gi k = iI (T.getD k 0)) (hb : BYT T) {sa : Nat → Nat} (hGT : GT G sa) {v : Int32} {Q : xR → xH → Prop} : ∀ (f : Nat) (cs : List CM) (p1 : Nat) (o1 : Int) (h1 : xH) (r1 : MR) (g1 : Nat → Int32), cs.length + f = 20 → MO G h1 m a r1 → RO r r1 → r1.2.2.2.2.2.2.2.2.2.2.2.2.2.2.2.2.2.2.2 = (cs.length : Int) → TS r1 T p1 0 o1 → AR G h1 a.2.2.2.2.2.2.1 500 gi → AR G h1 a.2.2.2.2.2.2.2.1 60 g1 → ORL g1 0 cs → OWS G h1 a.2.2.2.2.2.2.2.2 sa → (∀ c ∈ cs, CMok c) → FRp [m, a.2.2.2.2.2.2.2.1] h h1 → (∀ (h2 : xH) (r2 : MR) (g2 : Nat → Int32), MO G h2 m a r2 → RO r r2 → AR G h2 a.2.2.2.2.2.2.2.1 60 g2 → FRp [m, a.2.2.2.2.2.2.2.1] h h2 → SCRR r2 g2 T cs (sCmds T f p1) → RR G MX12_runScript 45 [(0, .ref m), (1, .int v)] [] h2 (xm_R MX12_runScript).cells (xm_R MX12_runScript).slots Q) → RR G MX12_runScript 24 [(0, .ref m), (1, .int v)] [] h1 (xm_R MX12_runScript).cells (xm_R MX12_runScript).slots Q := by
  have L24e : ∀ (h2 : xH) (r2 : MR) (p2 : Nat) (e o2 : Int), (1 ≤ e ∧ e ≤ 3) → MO G h2 m a r2 → TS r2 T p2 e o2 → RR G MX12_runScript 45 [(0, .ref m), (1, .int v)] [] h2 (xm_R MX12_runScript).cells (xm_R MX12_runScript).slots Q → RR G MX12_runScript 24 [(0, .ref m), (1, .int v)] [] h2 (xm_R MX12_runScript).cells (xm_R MX12_runScript).slots Q := by
    intro h2 r2 p2 e o2 he hM2 hT2 hq
    refine r_aload_n dX12_runScript_24 0 rfl ?_
    refine m_g_er (v := e) hM2 hT2.2.2.2.2.2.1 kf_X12_303 dX12_runScript_25 ?_
    refine i_ifne dX12_runScript_28 (tgt := 45) (by decide) (by first | exact tkin | exact i13 he | (unfold in32; omega)) (fun _ => ?_) (fun c => absurd c (e13 he))
    exact hq
  have L : ∀ (f : Nat) (cs : List CM) (p1 : Nat) (o1 : Int) (h1 : xH) (r1 : MR) (g1 : Nat → Int32), cs.length + f = 20 → MO G h1 m a r1 → RO r r1 → r1.2.2.2.2.2.2.2.2.2.2.2.2.2.2.2.2.2.2.2 = (cs.length : Int) → TS r1 T p1 0 o1 → AR G h1 a.2.2.2.2.2.2.1 500 gi → AR G h1 a.2.2.2.2.2.2.2.1 60 g1 → ORL g1 0 cs → OWS G h1 a.2.2.2.2.2.2.2.2 sa → (∀ c ∈ cs, CMok c) → FRp [m, a.2.2.2.2.2.2.2.1] h h1 → (∀ (h2 : xH) (r2 : MR) (g2 : Nat → Int32), MO G h2 m a r2 → RO r r2 → AR G h2 a.2.2.2.2.2.2.2.1 60 g2 → FRp [m, a.2.2.2.2.2.2.2.1] h h2 → SCRR r2 g2 T cs (sCmds T f p1) → RR G MX12_runScript 45 [(0, .ref m), (1, .int v)] [] h2 (xm_R MX12_runScript).cells (xm_R MX12_runScript).slots Q) → RR G MX12_runScript 24 [(0, .ref m), (1, .int v)] [] h1 (xm_R MX12_runScript).cells (xm_R MX12_runScript).slots Q := by
    intro f
    induction f with
    | zero =>
      intro cs p1 o1 h1 r1 g1 hlf hM1 hK1 hoc1 hT1 hA1 hD1 hL1 hO1 hC1 hF1 hQ1
      have tkin := tkM_b T hT1.2.1
      have tkin : in32 (tkM (tokAt T p1).1) := by unfold in32; omega
      by_cases hk4 : (tokAt T p1).1 = 4
      · have es : sCmds T 0 p1 = .inr ([], p1) := by show sFinC T p1 = _; unfold sFinC; rw [if_pos hk4]
        refine r_aload_n dX12_runScript_24 0 rfl ?_
        refine m_g_er (v := 0) hM1 hT1.2.2.2.2.2.1 kf_X12_303 dX12_runScript_25 ?_
        refine i_ifne dX12_runScript_28 (tgt := 45) (by decide) ⟨by decide, by decide⟩ (fun c => absurd c (by decide)) (fun _ => ?_)
        refine r_aload_n dX12_runScript_31 0 rfl ?_
        refine m_g_tk (v := tkM (tokAt T p1).1) hM1 hT1.2.2.2.2.1 kf_X12_294 dX12_runScript_32 ?_
        refine i_ifeq dX12_runScript_35 (tgt := 45) (by decide) (by first | exact tkin | exact i13 he | (unfold in32; omega)) (fun _ => ?_) (fun c => absurd (show tkM (tokAt T p1).1 = 0 by rw [hk4]; rfl) c)
        exact hQ1 h1 r1 g1 hM1 hK1 hD1 hF1 (by rw [es]; exact ⟨⟨_, _, hT1⟩, by rw [List.append_nil]; exact hoc1, by rw [List.append_nil]; exact hL1, by rw [List.append_nil]; exact hC1⟩)
      · have es : sCmds T 0 p1 = sErr T p1 (if 0 ≤ fndC T p1 then 3 else 1) := by show sFinC T p1 = _; unfold sFinC; rw [if_neg hk4]
        refine r_aload_n dX12_runScript_24 0 rfl ?_
        refine m_g_er (v := 0) hM1 hT1.2.2.2.2.2.1 kf_X12_303 dX12_runScript_25 ?_
        refine i_ifne dX12_runScript_28 (tgt := 45) (by decide) ⟨by decide, by decide⟩ (fun c => absurd c (by decide)) (fun _ => ?_)
        refine r_aload_n dX12_runScript_31 0 rfl ?_
        refine m_g_tk (v := tkM (tokAt T p1).1) hM1 hT1.2.2.2.2.1 kf_X12_294 dX12_runScript_32 ?_
        refine i_ifeq dX12_runScript_35 (tgt := 45) (by decide) (by first | exact tkin | exact i13 he | (unfold in32; omega)) (fun c => absurd (tkM_0 hT1.b.1 c) hk4) (fun _ => ?_)
        refine r_aload_n dX12_runScript_38 0 rfl ?_
        refine p_callV (As := []) (b := m) (rest := []) (w := none) (st' := []) kv_X12_runScript_394 dX12_runScript_39 rfl rfl (Nat.le_of_ble_eq_true rfl) (Nat.le_of_ble_eq_true rfl) (x_rv hM1.1 hM1.2 rfl) rfl rfl (c_X12_readOrder20 hM1 hT1 hA1 hl5 hg hb hGT hO1 hD1 (n := cs.length) (by omega) hoc1 (by omega)) rfl (fun h11 e11 => ?_)
        obtain ⟨r11, g11, hM11, hK11, hD11, F11, hS11⟩ := e11
        refine r_goto dX12_runScript_42 (tgt := 24) (by decide) ?_
        obtain ⟨hce, p8, hT8⟩ := hS11
        exact L24e h11 r11 p8 _ _ hce hM11 hT8 (hQ1 h11 r11 g11 hM11 (hK1.tr hK11) hD11 (hF1.tr F11) (by rw [es]; exact ⟨hce, p8, hT8⟩))
    | succ f ih =>
      intro cs p1 o1 h1 r1 g1 hlf hM1 hK1 hoc1 hT1 hA1 hD1 hL1 hO1 hC1 hF1 hQ1
      have tkin := tkM_b T hT1.2.1
      have tkin : in32 (tkM (tokAt T p1).1) := by unfold in32; omega
      by_cases hk4 : (tokAt T p1).1 = 4
      · have es : sCmds T (f + 1) p1 = .inr ([], p1) := by show (if (tokAt T p1).1 = 4 then sFinC T p1 else _) = _; rw [if_pos hk4]; unfold sFinC; rw [if_pos hk4]
        refine r_aload_n dX12_runScript_24 0 rfl ?_
        refine m_g_er (v := 0) hM1 hT1.2.2.2.2.2.1 kf_X12_303 dX12_runScript_25 ?_
        refine i_ifne dX12_runScript_28 (tgt := 45) (by decide) ⟨by decide, by decide⟩ (fun c => absurd c (by decide)) (fun _ => ?_)
        refine r_aload_n dX12_runScript_31 0 rfl ?_
        refine m_g_tk (v := tkM (tokAt T p1).1) hM1 hT1.2.2.2.2.1 kf_X12_294 dX12_runScript_32 ?_
        refine i_ifeq dX12_runScript_35 (tgt := 45) (by decide) (by first | exact tkin | exact i13 he | (unfold in32; omega)) (fun _ => ?_) (fun c => absurd (show tkM (tokAt T p1).1 = 0 by rw [hk4]; rfl) c)
        exact hQ1 h1 r1 g1 hM1 hK1 hD1 hF1 (by rw [es]; exact ⟨⟨_, _, hT1⟩, by rw [List.append_nil]; exact hoc1, by rw [List.append_nil]; exact hL1, by rw [List.append_nil]; exact hC1⟩)
      · have es : sCmds T (f + 1) p1 = (match sCmd T p1 with | .inl e => .inl e | .inr a => (match sCmds T f a.2 with | .inl e => .inl e | .inr b => .inr (a.1 :: b.1, b.2))) := by show (if (tokAt T p1).1 = 4 then sFinC T p1 else _) = _; rw [if_neg hk4] <;> rfl
        refine r_aload_n dX12_runScript_24 0 rfl ?_
        refine m_g_er (v := 0) hM1 hT1.2.2.2.2.2.1 kf_X12_303 dX12_runScript_25 ?_
        refine i_ifne dX12_runScript_28 (tgt := 45) (by decide) ⟨by decide, by decide⟩ (fun c => absurd c (by decide)) (fun _ => ?_)
        refine r_aload_n dX12_runScript_31 0 rfl ?_
        refine m_g_tk (v := tkM (tokAt T p1).1) hM1 hT1.2.2.2.2.1 kf_X12_294 dX12_runScript_32 ?_
        refine i_ifeq dX12_runScript_35 (tgt := 45) (by decide) (by first | exact tkin | exact i13 he | (unfold in32; omega)) (fun c => absurd (tkM_0 hT1.b.1 c) hk4) (fun _ => ?_)
        refine r_aload_n dX12_runScript_38 0 rfl ?_
        refine p_callV (As := []) (b := m) (rest := []) (w := none) (st' := []) kv_X12_runScript_394 dX12_runScript_39 rfl rfl (Nat.le_of_ble_eq_true rfl) (Nat.le_of_ble_eq_true rfl) (x_rv hM1.1 hM1.2 rfl) rfl rfl (c_X12_readOrder hM1 hT1 hA1 hl5 hg hb hGT hO1 hD1 (n := cs.length) (by omega) hoc1 (by omega)) rfl (fun h11 e11 => ?_)
        obtain ⟨r11, g11, hM11, hK11, hD11, F11, hS11⟩ := e11
        refine r_goto dX12_runScript_42 (tgt := 24) (by decide) ?_
        cases hss : sCmd T p1 with
        | inl e9 =>
          obtain ⟨c, off⟩ := e9
          rw [hss] at hS11
          obtain ⟨hce, p8, hT8⟩ := hS11
          exact L24e h11 r11 p8 _ _ hce hM11 hT8 (hQ1 h11 r11 g11 hM11 (hK1.tr hK11) hD11 (hF1.tr F11) (by rw [es, hss]; exact ⟨hce, p8, hT8⟩))
        | inr a9 =>
          obtain ⟨c9, q9⟩ := a9
          rw [hss] at hS11
          obtain ⟨⟨o8, hT8⟩, hoc8, hw8, hwk⟩ := hS11
          have hok := sCmd_ok hss
          refine ih (cs ++ [c9]) q9 o8 h11 r11 g11 (by simp; omega) hM11 (hK1.tr hK11) (hoc8.trans (by simp)) hT8 (hA1.fr F11 (nm2 (hM1.ne hA1).symm (ne_sz hA1.2 hD1.2 (by decide)))) hD11 (hL1.push (fun k hk => hwk k (by omega)) (by rw [Nat.zero_add]; exact hw8)) (hO1.fr F11 (hO1.nmo hM1 hD1)) ?_ (hF1.tr F11) (fun h3 r3 g3 k1 k2 k3 k4 k5 => hQ1 h3 r3 g3 k1 k2 k3 k4 ?_)
          · intro c hc
            rcases List.mem_append.mp hc with z | z
            · exact hC1 c z
            · rw [List.mem_singleton.mp z]; exact hok
          · rw [es, hss]
            dsimp only
            cases hs9 : sCmds T f q9 with
            | inl e => rw [hs9] at k5; exact k5
            | inr b9 =>
              rw [hs9] at k5
              obtain ⟨x1, x2, x3, x4⟩ := k5
              have ea : cs ++ [c9] ++ b9.1 = cs ++ (c9 :: b9.1) := by rw [List.append_assoc]; rfl
              rw [ea] at x2 x3 x4
              exact ⟨x1, x2, x3, x4⟩
  exact L
set_option maxRecDepth 20000 in
set_option maxHeartbeats 1000000 in
theorem rr_X12_runScript_0 {G : xG} {h : xH} {m : Nat} {a : MA} {r : MR} (hM : MO G h m a r) {T : List Int} {gi : Nat → Int32} (hA : AR G h a.2.2.2.2.2.2.1 500 gi) (hl5 : T.length ≤ 500) (hg : ∀ k, k < T.length → gi k = iI (T.getD k 0)) (hb : BYT T) {sa : Nat → Nat} (hGT : GT G sa) (hO : OWS G h a.2.2.2.2.2.2.2.2 sa) {gq : Nat → Int32} (hD : AR G h a.2.2.2.2.2.2.2.1 60 gq) {n9 : Nat} (hn9 : n9 ≤ 500) (hbl : r.2.2.2.2.2.2.2.2.2.2.1 = (n9 : Int)) (hTn : T.length ≤ n9) {Q : xR → xH → Prop} (hQ0 : ∀ (h2 : xH) (r2 : MR) (g2 : Nat → Int32), MO G h2 m a r2 → RO (r_th r 0) r2 → AR G h2 a.2.2.2.2.2.2.2.1 60 g2 → FRp [m, a.2.2.2.2.2.2.2.1] h h2 → SCRR r2 g2 T [] (sScript T) → RR G MX12_runScript 45 [(0, .ref m), (1, .int (iI ((T.length : Int))))] [] h2 (xm_R MX12_runScript).cells (xm_R MX12_runScript).slots Q) : RR G MX12_runScript 0 [(0, .ref m), (1, .int (iI ((T.length : Int))))] [] h (xm_R MX12_runScript).cells (xm_R MX12_runScript).slots Q := by
  refine r_aload_n dX12_runScript_0 0 rfl ?_
  refine r_aload_n dX12_runScript_1 0 rfl ?_
  refine r_iload_n dX12_runScript_2 1 rfl ?_
  refine p_callV (As := [.int (iI ((T.length : Int)))]) (b := m) (rest := [.ref m]) (w := (some (.int (iI (b2 true))))) (st' := [.int (iI (b2 true)), .ref m]) kv_X12_runScript_373 dX12_runScript_3 rfl rfl (Nat.le_of_ble_eq_true rfl) (Nat.le_of_ble_eq_true rfl) (x_rv hM.1 hM.2 rfl) rfl rfl (c_X12_isLength hM hn9 hbl (by unfold in32; omega) (v := true) (by unfold inR; rw [decide_eq_true (by omega), decide_eq_true (by omega)]; rfl)) rfl (fun h1 e1 => ?_)
  rw [show h1 = h from e1]
  refine p_callV (As := [.int (iI (b2 true))]) (b := m) (rest := []) (w := (some (.int (iI 0)))) (st' := [.int (iI 0)]) kv_X12_runScript_82 dX12_runScript_6 rfl rfl (Nat.le_of_ble_eq_true rfl) (Nat.le_of_ble_eq_true rfl) (x_rv hM.1 hM.2 rfl) rfl rfl (c_X12_lacks_t hM) rfl (fun h2 e2 => ?_)
  obtain ⟨hM2, F2⟩ := e2
  have hA_2 := hA.obj hM F2
  have hD_2 := hD.obj hM F2
  have FD2 : FRp [m, a.2.2.2.2.2.2.2.1] h h2 := FRm F2
  refine i_ifeq dX12_runScript_9 (tgt := 14) (by decide) ⟨by decide, by decide⟩ (fun _ => ?_) (fun c => absurd c (by decide))
  refine r_aload_n dX12_runScript_14 0 rfl ?_
  refine i_const (0) dX12_runScript_15 ?_
  refine m_p_oc (v := 0) hM2 kf_X12_388 dX12_runScript_16 (fun h3 hM3 F3 => ?_)
  have hA_3 := hA_2.obj hM2 F3
  have hD_3 := hD_2.obj hM2 F3
  have FD3 : FRp [m, a.2.2.2.2.2.2.2.1] h h3 := FD2.tr (FRm F3)
  refine r_aload_n dX12_runScript_19 0 rfl ?_
  refine r_iload_n dX12_runScript_20 1 rfl ?_
  refine p_callV (As := [.int (iI ((T.length : Int)))]) (b := m) (rest := []) (w := none) (st' := []) kv_X12_runScript_376 dX12_runScript_21 rfl rfl (Nat.le_of_ble_eq_true rfl) (Nat.le_of_ble_eq_true rfl) (x_rv hM3.1 hM3.2 rfl) rfl rfl (c_X12_startText hM3 hA_3 hl5 hg hb) rfl (fun h4 e4 => ?_)
  obtain ⟨r4, hM4, hK4, hT4, F4⟩ := e4
  have hA_4 := hA_3.obj hM3 F4
  have hD_4 := hD_3.obj hM3 F4
  have FD4 : FRp [m, a.2.2.2.2.2.2.2.1] h h4 := FD3.tr (FRm F4)
  exact rr_X12_runScript_24 (r := r_th r 0) hl5 hg hb hGT 20 [] 0 0 h4 r4 gq rfl hM4 ((ro_oc _ 0).tr hK4.ro) hK4.2.2 hT4 hA_4 hD_4 True.intro (hO.fr FD4 (hO.nmo hM hD)) (fun c hc => absurd hc List.not_mem_nil) FD4 hQ0
