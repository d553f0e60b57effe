/-! ===== the reference: a sheet that is read ===== -/
def mdS (x : Int × List Int) : AS := (x.2, 0, x.1, iI 0, false, false, false)
def SRR (r' : MR) (g' : Nat → Int32) (T : List Int) (B : AB) (res : PR (Int × List Int)) : Prop := match res with
  | .inr a => (∃ o, TS r' T a.2 0 o) ∧ RWf g' 0 (B.1, B.2 ++ [mdS a.1])
  | .inl e => (1 ≤ e.1 ∧ e.1 ≤ 3) ∧ (∃ p', TS r' T p' e.1 e.2) ∧ RWf g' 0 B
abbrev SHQ (G : xG) (h : xH) (m : Nat) (a : MA) (r : MR) (T : List Int) (B : AB) (res : PR (Int × List Int)) : xR → xH → Prop := fun o9 h' => o9 = .inl none ∧ ∃ r' g', MO G h' m a r' ∧ RT r r' ∧ AR G h' r.1 1456 g' ∧ FRp [m, r.1] h h' ∧ SRR r' g' T B res
theorem RWf.far {g g' : Nat → Int32} {B : AB} (h : RWf g 0 B) (hl : B.2.length < 6) (e : EQo B.2.length g g') : RWf g' 0 B := by
  obtain ⟨s6, h6⟩ := h.2
  have h6 : SWr g (7 + 207 * 6) s6 := h6
  obtain ⟨⟨h0, h1, h2, h3, h4, h5, h9⟩, h7, h8⟩ := id h.1
  refine ⟨⟨⟨(e 0 (by omega)).trans h0, (e 1 (by omega)).trans h1, (e 2 (by omega)).trans h2, (e 3 (by omega)).trans h3, (e 4 (by omega)).trans h4, (e 5 (by omega)).trans h5, (e 6 (by omega)).trans h9⟩, h7, fun i hi => ?_⟩, s6, (h6.oth e (by omega) : SWr g' (7 + 207 * 6) s6)⟩
  rw [show 0 + 7 + 207 * i = 7 + 207 * i by omega]
  exact (h.1.s hi).oth e (by omega)
theorem RWf.same3 {g g' : Nat → Int32} {B : AB} (h : RWf g 0 B) (e : ∀ j, j ≠ 3 → g' j = g j) (e3 : g' 3 = iI ((B.2.length : Int) + 0)) : RWf g' 0 B := by
  have z : g' = g := by
    funext j
    by_cases c : j = 3
    · rw [c, e3, Int.add_zero]; exact h.1.1.2.2.2.1.symm
    · exact e j c
  rw [z]; exact h
theorem sRest_nl {T : List Int} {p : Nat} (f : Nat) (h : isLW T p = false) : sRest T f p = (match sSemi T p with | .inl e => .inl e | .inr a => .inr ([], a.2)) := by
  have hE : sEnd T p = (match sSemi T p with | .inl e => .inl e | .inr a => .inr ([], a.2)) := by unfold sEnd; rw [if_neg (by rw [h]; decide)] <;> rfl
  cases f with
  | zero => exact hE
  | succ f =>
    show (if (tokAt T p).1 = 2 then sEnd T p else _) = _
    by_cases c : (tokAt T p).1 = 2
    · rw [if_pos c]; exact hE
    · rw [if_neg c]
      have e1 : sLayer T p = sErr T p 1 := by unfold sLayer; rw [if_neg (by rw [h]; decide)]
      have e2 : sSemi T p = sErr T p 1 := by unfold sSemi; rw [if_neg c]
      rw [e1, e2]; rfl
theorem sRest_l {T : List Int} {p : Nat} (f : Nat) (h : isLW T p = true) : sRest T (f + 1) p = (match sLayer T p with | .inl e => .inl e | .inr a => (match sRest T f a.2 with | .inl e => .inl e | .inr b => .inr (a.1 :: b.1, b.2))) := by
  have c : ¬ (tokAt T p).1 = 2 := by
    unfold isLW isW at h
    intro z
    rw [decide_eq_false (show ¬ (tokAt T p).1 = 0 by omega)] at h
    cases h
  show (if (tokAt T p).1 = 2 then sEnd T p else _) = _
  rw [if_neg c] <;> rfl
theorem sNum_c {T : List Int} {p : Nat} {lo hi c off : Int} (h : sNum T p lo hi = .inl (c, off)) : 1 ≤ c ∧ c ≤ 3 := by
  rcases sNum_inv (T := T) (p := p) (lo := lo) (hi := hi) with ⟨v', q', e1, _⟩ | ⟨e1, _⟩ | ⟨e1, _⟩
  · rw [e1] at h; cases h
  · rw [e1] at h; cases h; exact ⟨by decide, by decide⟩
  · rw [e1] at h; cases h; exact ⟨by decide, by decide⟩
theorem c_X12_isWord_b {G : xG} {h : xH} {m : Nat} {a : MA} {r : MR} (hM : MO G h m a r) {T : List Int} {p : Nat} {o : Int} (hT : TS r T p 0 o) {gi : Nat → Int32} (hA : AR G h a.2.2.2.2.2.2.1 500 gi) (hl5 : T.length ≤ 500) (hg : ∀ k, k < T.length → gi k = iI (T.getD k 0)) (hb : BYT T) (hGS : GS G) {q : Nat} {tx : List Int} (hX : STR G q tx) {v : Bool} (hv : isW T (tokAt T p) tx = v) : CC G MX12_isWord [.ref m, .ref q] h (qI (b2 v) h) := by
  subst hv; exact c_X12_isWord_k hM hT hA hl5 hg hb hGS hX
set_option maxRecDepth 20000 in
set_option maxHeartbeats 1000000 in
theorem c_X12_readSheet_k {G : xG} {h : xH} {m : Nat} {a : MA} {r : MR} (hM : MO G h m a r) {g : Nat → Int32} (hR : AR G h r.1 1456 g) {T : List Int} {p : Nat} {o : Int} (hT : TS r T p 0 o) {gi : Nat → Int32} (hA : AR G h a.2.2.2.2.2.2.1 500 gi) (hl5 : T.length ≤ 500) (hg : ∀ k, k < T.length → gi k = iI (T.getD k 0)) (hb : BYT T) {sa : Nat → Nat} (hGT : GT G sa) {B : AB} (hRW : RWf g 0 B) (hn6 : B.2.length < 6) : CC G MX12_readSheet [.ref m] h (SHQ G h m a r T B (sSheet T p)) := by
  have T100e : ∀ (h1 : xH) (r1 : MR) (g1 : Nat → Int32) (p1 : Nat) (e o1 v1 : Int), (1 ≤ e ∧ e ≤ 3) → MO G h1 m a r1 → RT r r1 → TS r1 T p1 e o1 → AR G h1 a.2.2.2.2.2.2.1 500 gi → AR G h1 r.1 1456 g1 → RWf g1 0 B → FRp [m, r.1] h h1 → RR G MX12_readSheet 100 [(0, .ref m), (1, .int (iI v1))] [] h1 (xm_R MX12_readSheet).cells (xm_R MX12_readSheet).slots (SHQ G h m a r T B (.inl (e, o1))) := by
    intro h1 r1 g1 p1 e o1 v1 he hM1 hK1 hT1 hA1 hR1 hRW1 hF1
    refine r_aload_n dX12_readSheet_100 0 rfl ?_
    refine i_bipush (59) (by decide) dX12_readSheet_101 ?_
    refine p_callV (As := [.int (iI 59)]) (b := m) (rest := []) (w := none) (st' := []) kv_X12_readSheet_365 dX12_readSheet_103 rfl rfl (Nat.le_of_ble_eq_true rfl) (Nat.le_of_ble_eq_true rfl) (x_rv hM1.1 hM1.2 rfl) rfl rfl (c_X12_expect_e hM1 hT1 hA1 hl5 hg hb he) rfl (fun h11 e11 => ?_)
    obtain ⟨r11, hM11, hK11, hT11, F11⟩ := e11
    have hA11 := hA1.obj hM1 F11
    have hQ11 := hK1.tr hK11
    have hZ11 := F11
    have hR11 := hR1.obj hM1 F11
    refine r_aload_n dX12_readSheet_106 0 rfl ?_
    refine m_g_rr (v := r.1) hM11 hQ11.1.1 kf_X12_25 dX12_readSheet_107 ?_
    refine i_const (3) dX12_readSheet_110 ?_
    refine r_dup2 dX12_readSheet_111 rfl rfl ?_
    refine m_ld (v := iI ((B.2.length : Int))) 3 rfl hRW1.1.1.2.2.2.1 hR11 dX12_readSheet_112 (by omega) (by decide) ?_
    refine r_aload_n dX12_readSheet_113 0 rfl ?_
    refine m_g_er (v := e) hM11 hT11.2.2.2.2.2.1 kf_X12_303 dX12_readSheet_114 ?_
    have hq117 := he
    refine i_ifne dX12_readSheet_117 (tgt := 124) (by decide) (by first | exact i13 he | (unfold in32; omega)) (fun _ => ?_) (fun c => absurd c (by omega))
    refine i_const (0) dX12_readSheet_124 ?_
    refine i_add dX12_readSheet_125 ?_
    refine m_st 3 rfl hR11 dX12_readSheet_126 (by omega) (by decide) (fun h12 hR12 F12 => ?_)
    have hM12 := hM11.row hR11 F12
    obtain ⟨g12, hg12⟩ : ∃ y, y = (upd g1 3 (iI ((B.2.length : Int) + 0))) := ⟨_, rfl⟩
    rw [← hg12] at hR12
    refine r_return rfl dX12_readSheet_127 ?_
    exact ⟨rfl, _, g12, hM12, hQ11, hR12, (hF1.tr (FRm hZ11)).tr (FRr F12), ⟨he, ⟨_, hT11⟩, (hRW1).same3 (g' := g12) (fun j hj => by rw [hg12]; exact upd_n hj) (by rw [hg12]; exact upd_s)⟩⟩
  have T100k : B.2.length < 6 → ∀ (h1 : xH) (r1 : MR) (g1 : Nat → Int32) (p1 : Nat) (o1 v1 : Int) (x : Int × List Int), MO G h1 m a r1 → RT r r1 → TS r1 T p1 0 o1 → AR G h1 a.2.2.2.2.2.2.1 500 gi → AR G h1 r.1 1456 g1 → SWr g1 (7 + 207 * B.2.length) (mdS x) → EQo B.2.length g g1 → FRp [m, r.1] h h1 → RR G MX12_readSheet 100 [(0, .ref m), (1, .int (iI v1))] [] h1 (xm_R MX12_readSheet).cells (xm_R MX12_readSheet).slots (SHQ G h m a r T B (match sSemi T p1 with | .inl e => .inl e | .inr a => .inr (x, a.2))) := by
    intro hn6 h1 r1 g1 p1 o1 v1 x hM1 hK1 hT1 hA1 hR1 hw1 hE1 hF1
    cases hs : sSemi T p1 with
    | inl e =>
      obtain ⟨c, off⟩ := e
      refine r_aload_n dX12_readSheet_100 0 rfl ?_
      refine i_bipush (59) (by decide) dX12_readSheet_101 ?_
      have hbn := t_X12_expect_bad hM1 hT1 hA1 hl5 hg hb hs
      refine p_callV (As := [.int (iI 59)]) (b := m) (rest := []) (w := none) (st' := []) kv_X12_readSheet_365 dX12_readSheet_103 rfl rfl (Nat.le_of_ble_eq_true rfl) (Nat.le_of_ble_eq_true rfl) (x_rv hM1.1 hM1.2 rfl) rfl rfl (hbn.2) rfl (fun h41 e41 => ?_)
      obtain ⟨r41, hM41, hK41, hT41, F41⟩ := e41
      have hA41 := hA1.obj hM1 F41
      have hQ41 := hK1.tr hK41
      have hZ41 := F41
      have hR41 := hR1.obj hM1 F41
      refine r_aload_n dX12_readSheet_106 0 rfl ?_
      refine m_g_rr (v := r.1) hM41 hQ41.1.1 kf_X12_25 dX12_readSheet_107 ?_
      refine i_const (3) dX12_readSheet_110 ?_
      refine r_dup2 dX12_readSheet_111 rfl rfl ?_
      refine m_ld (v := iI ((B.2.length : Int))) 3 rfl ((hE1 3 (by omega)).trans hRW.1.1.2.2.2.1) hR41 dX12_readSheet_112 (by omega) (by decide) ?_
      refine r_aload_n dX12_readSheet_113 0 rfl ?_
      refine m_g_er (v := c) hM41 hT41.2.2.2.2.2.1 kf_X12_303 dX12_readSheet_114 ?_
      have hq117 := hbn.1
      refine i_ifne dX12_readSheet_117 (tgt := 124) (by decide) (by first | exact i13 hbn.1 | (unfold in32; omega)) (fun _ => ?_) (fun c => absurd c (by omega))
      refine i_const (0) dX12_readSheet_124 ?_
      refine i_add dX12_readSheet_125 ?_
      refine m_st 3 rfl hR41 dX12_readSheet_126 (by omega) (by decide) (fun h42 hR42 F42 => ?_)
      have hM42 := hM41.row hR41 F42
      obtain ⟨g42, hg42⟩ : ∃ y, y = (upd g1 3 (iI ((B.2.length : Int) + 0))) := ⟨_, rfl⟩
      rw [← hg42] at hR42
      refine r_return rfl dX12_readSheet_127 ?_
      exact ⟨rfl, _, g42, hM42, hQ41, hR42, (hF1.tr (FRm hZ41)).tr (FRr F42), ⟨hbn.1, ⟨_, hT41⟩, (hRW.far hn6 hE1).same3 (g' := g42) (fun j hj => by rw [hg42]; exact upd_n hj) (by rw [hg42]; exact upd_s)⟩⟩
    | inr a9 =>
      obtain ⟨u9, q1⟩ := a9
      refine r_aload_n dX12_readSheet_100 0 rfl ?_
      refine i_bipush (59) (by decide) dX12_readSheet_101 ?_
      refine p_callV (As := [.int (iI 59)]) (b := m) (rest := []) (w := none) (st' := []) kv_X12_readSheet_365 dX12_readSheet_103 rfl rfl (Nat.le_of_ble_eq_true rfl) (Nat.le_of_ble_eq_true rfl) (x_rv hM1.1 hM1.2 rfl) rfl rfl (t_X12_expect_ok hM1 hT1 hA1 hl5 hg hb hs) rfl (fun h71 e71 => ?_)
      obtain ⟨r71, hM71, hK71, hT71, F71⟩ := e71
      have hA71 := hA1.obj hM1 F71
      have hQ71 := hK1.tr hK71
      have hZ71 := F71
      have hR71 := hR1.obj hM1 F71
      refine r_aload_n dX12_readSheet_106 0 rfl ?_
      refine m_g_rr (v := r.1) hM71 hQ71.1.1 kf_X12_25 dX12_readSheet_107 ?_
      refine i_const (3) dX12_readSheet_110 ?_
      refine r_dup2 dX12_readSheet_111 rfl rfl ?_
      refine m_ld (v := iI ((B.2.length : Int))) 3 rfl ((hE1 3 (by omega)).trans hRW.1.1.2.2.2.1) hR71 dX12_readSheet_112 (by omega) (by decide) ?_
      refine r_aload_n dX12_readSheet_113 0 rfl ?_
      refine m_g_er (v := 0) hM71 hT71.2.2.2.2.2.1 kf_X12_303 dX12_readSheet_114 ?_
      refine i_ifne dX12_readSheet_117 (tgt := 124) (by decide) ⟨by decide, by decide⟩ (fun c => absurd c (by decide)) (fun _ => ?_)
      refine i_const (1) dX12_readSheet_120 ?_
      refine r_goto dX12_readSheet_121 (tgt := 125) (by decide) ?_
      refine i_add dX12_readSheet_125 ?_
      refine m_st 3 rfl hR71 dX12_readSheet_126 (by omega) (by decide) (fun h72 hR72 F72 => ?_)
      have hM72 := hM71.row hR71 F72
      obtain ⟨g72, hg72⟩ : ∃ y, y = (upd g1 3 (iI ((B.2.length : Int) + 1))) := ⟨_, rfl⟩
      rw [← hg72] at hR72
      refine r_return rfl dX12_readSheet_127 ?_
      exact ⟨rfl, _, g72, hM72, hQ71, hR72, (hF1.tr (FRm hZ71)).tr (FRr F72), ⟨⟨_, hT71⟩, hRW.snoc (g2 := g72) hn6 hw1 hE1 (fun j hj => by rw [hg72]; exact upd_n hj) (by rw [hg72]; exact upd_s)⟩⟩
  have L80e : ∀ (h1 : xH) (r1 : MR) (g1 : Nat → Int32) (p1 : Nat) (e o1 v1 : Int), (1 ≤ e ∧ e ≤ 3) → MO G h1 m a r1 → RT r r1 → TS r1 T p1 e o1 → AR G h1 a.2.2.2.2.2.2.1 500 gi → AR G h1 r.1 1456 g1 → RWf g1 0 B → FRp [m, r.1] h h1 → RR G MX12_readSheet 80 [(0, .ref m), (1, .int (iI v1))] [] h1 (xm_R MX12_readSheet).cells (xm_R MX12_readSheet).slots (SHQ G h m a r T B (.inl (e, o1))) := by
    intro h1 r1 g1 p1 e o1 v1 he hM1 hK1 hT1 hA1 hR1 hRW1 hF1
    refine r_aload_n dX12_readSheet_80 0 rfl ?_
    refine p_callV (As := []) (b := m) (rest := []) (w := (some (.int (iI (b2 false))))) (st' := [.int (iI (b2 false))]) kv_X12_readSheet_353 dX12_readSheet_81 rfl rfl (Nat.le_of_ble_eq_true rfl) (Nat.le_of_ble_eq_true rfl) (x_rv hM1.1 hM1.2 rfl) rfl rfl (c_X12_isLayerHere_e hM1 hT1 hGT he) rfl (fun h101 e101 => ?_)
    rw [show h101 = h1 from e101]
    refine i_ifeqb dX12_readSheet_84 (tgt := 100) (by decide) (fun _ => ?_) (fun c => absurd c (by decide))
    exact T100e h1 r1 g1 p1 e o1 v1 he hM1 hK1 hT1 hA1 hR1 hRW1 hF1
  have L80 : B.2.length < 6 → ∀ (t9 : Int) (f : Nat) (l : List Int) (p1 : Nat) (o1 : Int) (h1 : xH) (r1 : MR) (g1 : Nat → Int32) (v1 : Int), l.length + f = 9 → MO G h1 m a r1 → RT r r1 → TS r1 T p1 0 o1 → AR G h1 a.2.2.2.2.2.2.1 500 gi → AR G h1 r.1 1456 g1 → SWr g1 (7 + 207 * B.2.length) (mdS (t9, l)) → EQo B.2.length g g1 → FRp [m, r.1] h h1 → RR G MX12_readSheet 80 [(0, .ref m), (1, .int (iI v1))] [] h1 (xm_R MX12_readSheet).cells (xm_R MX12_readSheet).slots (SHQ G h m a r T B (match sRest T f p1 with | .inl e => .inl e | .inr b => .inr ((t9, l ++ b.1), b.2))) := by
    intro hn6 t9 f
    induction f with
    | zero =>
      intro l p1 o1 h1 r1 g1 v1 hlf hM1 hK1 hT1 hA1 hR1 hw1 hE1 hF1
      cases hlw : isLW T p1
      · skip
        refine r_aload_n dX12_readSheet_80 0 rfl ?_
        refine p_callV (As := []) (b := m) (rest := []) (w := (some (.int (iI (b2 false))))) (st' := [.int (iI (b2 false))]) kv_X12_readSheet_353 dX12_readSheet_81 rfl rfl (Nat.le_of_ble_eq_true rfl) (Nat.le_of_ble_eq_true rfl) (x_rv hM1.1 hM1.2 rfl) rfl rfl (c_X12_isLayerHere_b hM1 hT1 hA1 hl5 hg hb hGT hlw) rfl (fun h121 e121 => ?_)
        rw [show h121 = h1 from e121]
        refine i_ifeqb dX12_readSheet_84 (tgt := 100) (by decide) (fun _ => ?_) (fun c => absurd c (by decide))
        have q9 := T100k hn6 h1 r1 g1 p1 o1 v1 (t9, l) hM1 hK1 hT1 hA1 hR1 hw1 hE1 hF1
        rw [sRest_nl _ hlw]
        cases hs : sSemi T p1 with
        | inl e => rw [hs] at q9; exact q9
        | inr a9 => rw [hs] at q9; dsimp only; rw [List.append_nil]; exact q9
      · have es : sRest T 0 p1 = .inl (3, ((tokAt T p1).2.1 : Int)) := by show sEnd T p1 = _; unfold sEnd; rw [if_pos hlw] <;> rfl
        rw [es]
        refine r_aload_n dX12_readSheet_80 0 rfl ?_
        refine p_callV (As := []) (b := m) (rest := []) (w := (some (.int (iI (b2 true))))) (st' := [.int (iI (b2 true))]) kv_X12_readSheet_353 dX12_readSheet_81 rfl rfl (Nat.le_of_ble_eq_true rfl) (Nat.le_of_ble_eq_true rfl) (x_rv hM1.1 hM1.2 rfl) rfl rfl (c_X12_isLayerHere_b hM1 hT1 hA1 hl5 hg hb hGT hlw) rfl (fun h141 e141 => ?_)
        rw [show h141 = h1 from e141]
        refine i_ifeqb dX12_readSheet_84 (tgt := 100) (by decide) (fun c => absurd c (by decide)) (fun _ => ?_)
        refine r_aload_n dX12_readSheet_87 0 rfl ?_
        refine r_aload_n dX12_readSheet_88 0 rfl ?_
        refine m_g_rr (v := r.1) hM1 hK1.1.1 kf_X12_25 dX12_readSheet_89 ?_
        refine i_const (3) dX12_readSheet_92 ?_
        refine m_ld (v := iI ((B.2.length : Int))) 3 rfl ((hE1 3 (by omega)).trans hRW.1.1.2.2.2.1) hR1 dX12_readSheet_93 (by omega) (by decide) ?_
        refine p_callV (As := [.int (iI ((B.2.length : Int)))]) (b := m) (rest := []) (w := none) (st' := []) kv_X12_readSheet_362 dX12_readSheet_94 rfl rfl (Nat.le_of_ble_eq_true rfl) (Nat.le_of_ble_eq_true rfl) (x_rv hM1.1 hM1.2 rfl) rfl rfl (c_X12_readLayer_full hM1 (AR.rk hR1 hK1) hT1 hA1 hl5 hg hb hGT (i := B.2.length) hn6 hw1 hlw (by show 9 ≤ l.length; omega)) rfl (fun h142 e142 => ?_)
        obtain ⟨r142, hM142, hK142, hT142, F142⟩ := e142
        have hA142 := hA1.obj hM1 F142
        have hQ142 := hK1.tr hK142
        have hZ142 := F142
        have hR142 := hR1.obj hM1 F142
        refine r_goto dX12_readSheet_97 (tgt := 80) (by decide) ?_
        exact L80e h142 r142 g1 _ 3 _ v1 ⟨by decide, by decide⟩ hM142 hQ142 hT142 hA142 hR142 (hRW.far hn6 hE1) (hF1.tr (FRm hZ142))
    | succ f ih =>
      intro l p1 o1 h1 r1 g1 v1 hlf hM1 hK1 hT1 hA1 hR1 hw1 hE1 hF1
      cases hlw : isLW T p1
      · skip
        refine r_aload_n dX12_readSheet_80 0 rfl ?_
        refine p_callV (As := []) (b := m) (rest := []) (w := (some (.int (iI (b2 false))))) (st' := [.int (iI (b2 false))]) kv_X12_readSheet_353 dX12_readSheet_81 rfl rfl (Nat.le_of_ble_eq_true rfl) (Nat.le_of_ble_eq_true rfl) (x_rv hM1.1 hM1.2 rfl) rfl rfl (c_X12_isLayerHere_b hM1 hT1 hA1 hl5 hg hb hGT hlw) rfl (fun h161 e161 => ?_)
        rw [show h161 = h1 from e161]
        refine i_ifeqb dX12_readSheet_84 (tgt := 100) (by decide) (fun _ => ?_) (fun c => absurd c (by decide))
        have q9 := T100k hn6 h1 r1 g1 p1 o1 v1 (t9, l) hM1 hK1 hT1 hA1 hR1 hw1 hE1 hF1
        rw [sRest_nl _ hlw]
        cases hs : sSemi T p1 with
        | inl e => rw [hs] at q9; exact q9
        | inr a9 => rw [hs] at q9; dsimp only; rw [List.append_nil]; exact q9
      · cases hsl : sLayer T p1 with
        | inl e =>
          obtain ⟨c, off⟩ := e
          rcases sLay_bad hsl with ⟨z, _⟩ | ⟨_, hsn⟩
          · rw [hlw] at z; cases z
          · have hcb : 1 ≤ c ∧ c ≤ 3 := sNum_c hsn
            rw [sRest_l _ hlw, hsl]
            refine r_aload_n dX12_readSheet_80 0 rfl ?_
            refine p_callV (As := []) (b := m) (rest := []) (w := (some (.int (iI (b2 true))))) (st' := [.int (iI (b2 true))]) kv_X12_readSheet_353 dX12_readSheet_81 rfl rfl (Nat.le_of_ble_eq_true rfl) (Nat.le_of_ble_eq_true rfl) (x_rv hM1.1 hM1.2 rfl) rfl rfl (c_X12_isLayerHere_b hM1 hT1 hA1 hl5 hg hb hGT hlw) rfl (fun h181 e181 => ?_)
            rw [show h181 = h1 from e181]
            refine i_ifeqb dX12_readSheet_84 (tgt := 100) (by decide) (fun c => absurd c (by decide)) (fun _ => ?_)
            refine r_aload_n dX12_readSheet_87 0 rfl ?_
            refine r_aload_n dX12_readSheet_88 0 rfl ?_
            refine m_g_rr (v := r.1) hM1 hK1.1.1 kf_X12_25 dX12_readSheet_89 ?_
            refine i_const (3) dX12_readSheet_92 ?_
            refine m_ld (v := iI ((B.2.length : Int))) 3 rfl ((hE1 3 (by omega)).trans hRW.1.1.2.2.2.1) hR1 dX12_readSheet_93 (by omega) (by decide) ?_
            refine p_callV (As := [.int (iI ((B.2.length : Int)))]) (b := m) (rest := []) (w := none) (st' := []) kv_X12_readSheet_362 dX12_readSheet_94 rfl rfl (Nat.le_of_ble_eq_true rfl) (Nat.le_of_ble_eq_true rfl) (x_rv hM1.1 hM1.2 rfl) rfl rfl (c_X12_readLayer_b2 hM1 (AR.rk hR1 hK1) hT1 hA1 hl5 hg hb hGT (i := B.2.length) hn6 hw1 hlw hsn (by show l.length < 9; omega)) rfl (fun h182 e182 => ?_)
            obtain ⟨r182, hM182, hK182, hT182, F182⟩ := e182
            have hA182 := hA1.obj hM1 F182
            have hQ182 := hK1.tr hK182
            have hZ182 := F182
            have hR182 := hR1.obj hM1 F182
            refine r_goto dX12_readSheet_97 (tgt := 80) (by decide) ?_
            exact L80e h182 r182 g1 _ c off v1 hcb hM182 hQ182 hT182 hA182 hR182 (hRW.far hn6 hE1) (hF1.tr (FRm hZ182))
        | inr a9 =>
          obtain ⟨x9, q9⟩ := a9
          refine r_aload_n dX12_readSheet_80 0 rfl ?_
          refine p_callV (As := []) (b := m) (rest := []) (w := (some (.int (iI (b2 true))))) (st' := [.int (iI (b2 true))]) kv_X12_readSheet_353 dX12_readSheet_81 rfl rfl (Nat.le_of_ble_eq_true rfl) (Nat.le_of_ble_eq_true rfl) (x_rv hM1.1 hM1.2 rfl) rfl rfl (c_X12_isLayerHere_b hM1 hT1 hA1 hl5 hg hb hGT hlw) rfl (fun h201 e201 => ?_)
          rw [show h201 = h1 from e201]
          refine i_ifeqb dX12_readSheet_84 (tgt := 100) (by decide) (fun c => absurd c (by decide)) (fun _ => ?_)
          refine r_aload_n dX12_readSheet_87 0 rfl ?_
          refine r_aload_n dX12_readSheet_88 0 rfl ?_
          refine m_g_rr (v := r.1) hM1 hK1.1.1 kf_X12_25 dX12_readSheet_89 ?_
          refine i_const (3) dX12_readSheet_92 ?_
          refine m_ld (v := iI ((B.2.length : Int))) 3 rfl ((hE1 3 (by omega)).trans hRW.1.1.2.2.2.1) hR1 dX12_readSheet_93 (by omega) (by decide) ?_
          refine p_callV (As := [.int (iI ((B.2.length : Int)))]) (b := m) (rest := []) (w := none) (st' := []) kv_X12_readSheet_362 dX12_readSheet_94 rfl rfl (Nat.le_of_ble_eq_true rfl) (Nat.le_of_ble_eq_true rfl) (x_rv hM1.1 hM1.2 rfl) rfl rfl (c_X12_readLayer_ok hM1 (AR.rk hR1 hK1) hT1 hA1 hl5 hg hb hGT (i := B.2.length) hn6 hw1 hsl (by show l.length < 9; omega)) rfl (fun h202 e202 => ?_)
          obtain ⟨r202, g202, hM202, hK202, hT202, hR202, hw202, E202, F202⟩ := e202
          rw [hK1.1.1] at hR202 F202
          have hQ202 := hK1.tr hK202
          have hA202 := hA1.fr F202 (nm2 (hM1.ne hA1).symm (ne_sz hA1.2 hR1.2 (by decide)))
          refine r_goto dX12_readSheet_97 (tgt := 80) (by decide) ?_
          have q8 := ih (l ++ [x9]) q9 _ h202 r202 g202 v1 (by simp; omega) hM202 hQ202 hT202 hA202 hR202 hw202 (hE1.tr E202) (hF1.tr F202)
          rw [sRest_l _ hlw, hsl]
          dsimp only
          cases hs9 : sRest T f q9 with
          | inl e => rw [hs9] at q8; exact q8
          | inr b9 => rw [hs9] at q8; dsimp only at q8 ⊢; rw [List.append_assoc] at q8; exact q8
  have hn := hRW.1.2.1
  show RR G MX12_readSheet 0 [(0, .ref m)] [] h (xm_R MX12_readSheet).cells (xm_R MX12_readSheet).slots (SHQ G h m a r T B (sSheet T p))
  cases hw0 : isW T (tokAt T p) (txS 0)
  · have es : sSheet T p = .inl (1, ((tokAt T p).2.1 : Int)) := by unfold sSheet sWord; rw [if_neg (by rw [hw0]; decide)]; rfl
    rw [es]
    refine r_aload_n dX12_readSheet_0 0 rfl ?_
    refine r_aload_n dX12_readSheet_1 0 rfl ?_
    refine r_ldcSW (hGT.2.2 ("PastryBenchModel", 360, "sheet", 0) (List.mem_of_getElem? (i := 15) rfl)) rfl dX12_readSheet_2 ?_
    refine p_callV (As := [.ref (sa 0)]) (b := m) (rest := [.ref m]) (w := (some (.int (iI (b2 false))))) (st' := [.int (iI (b2 false)), .ref m]) kv_X12_readSheet_322 dX12_readSheet_5 rfl rfl (Nat.le_of_ble_eq_true rfl) (Nat.le_of_ble_eq_true rfl) (x_rv hM.1 hM.2 rfl) rfl rfl (c_X12_isWord_b hM hT hA hl5 hg hb hGT.1 (hGT.2.1 0 (by decide)) hw0) rfl (fun h301 e301 => ?_)
    rw [show h301 = h from e301]
    refine i_const (1) dX12_readSheet_8 ?_
    refine p_callV (As := [.int (iI (b2 false)), .int (iI 1)]) (b := m) (rest := []) (w := none) (st' := []) kv_X12_readSheet_329 dX12_readSheet_9 rfl rfl (Nat.le_of_ble_eq_true rfl) (Nat.le_of_ble_eq_true rfl) (x_rv hM.1 hM.2 rfl) rfl rfl (c_X12_check_f hM hT (c := 1) (by decide)) rfl (fun h302 e302 => ?_)
    obtain ⟨r302, hM302, hK302, hT302, F302⟩ := e302
    have hA302 := hA.obj hM F302
    have hQ302 := hK302
    have hZ302 := F302
    have hR302 := hR.obj hM F302
    refine r_aload_n dX12_readSheet_12 0 rfl ?_
    refine r_aload_n dX12_readSheet_13 0 rfl ?_
    refine m_g_er (v := 1) hM302 hT302.2.2.2.2.2.1 kf_X12_303 dX12_readSheet_14 ?_
    refine i_ifne dX12_readSheet_17 (tgt := 31) (by decide) ⟨by decide, by decide⟩ (fun _ => ?_) (fun c => absurd c (by decide))
    refine i_const (1) dX12_readSheet_31 ?_
    refine r_goto dX12_readSheet_32 (tgt := 36) (by decide) ?_
    refine i_const (3) dX12_readSheet_36 ?_
    refine p_callV (As := [.int (iI 1), .int (iI 3)]) (b := m) (rest := []) (w := none) (st' := []) kv_X12_readSheet_329 dX12_readSheet_37 rfl rfl (Nat.le_of_ble_eq_true rfl) (Nat.le_of_ble_eq_true rfl) (x_rv hM302.1 hM302.2 rfl) rfl rfl (c_X12_check_e hM302 hT302 (b := true) (e13 ⟨by decide, by decide⟩) (i13 ⟨by decide, by decide⟩)) rfl (fun h303 e303 => ?_)
    obtain ⟨r303, hM303, hK303, hT303, F303⟩ := e303
    have hA303 := hA302.obj hM302 F303
    have hQ303 := hQ302.tr hK303
    have hZ303 := hZ302.tr F303
    have hR303 := hR302.obj hM302 F303
    refine r_aload_n dX12_readSheet_40 0 rfl ?_
    refine p_callV (As := []) (b := m) (rest := []) (w := none) (st' := []) kv_X12_readSheet_333 dX12_readSheet_41 rfl rfl (Nat.le_of_ble_eq_true rfl) (Nat.le_of_ble_eq_true rfl) (x_rv hM303.1 hM303.2 rfl) rfl rfl (c_X12_advance_e hM303 hT303 hA303 hl5 hg hb (e13 ⟨by decide, by decide⟩) (i13 ⟨by decide, by decide⟩)) rfl (fun h304 e304 => ?_)
    obtain ⟨r304, hM304, hK304, hT304, F304⟩ := e304
    have hA304 := hA303.obj hM303 F304
    have hQ304 := hQ303.tr hK304
    have hZ304 := hZ303.tr F304
    have hR304 := hR303.obj hM303 F304
    refine r_aload_n dX12_readSheet_44 0 rfl ?_
    refine i_const (0) dX12_readSheet_45 ?_
    refine i_bipush (40) (by decide) dX12_readSheet_46 ?_
    refine p_callV (As := [.int (iI 0), .int (iI 40)]) (b := m) (rest := []) (w := (some (.int (iI 0)))) (st' := [.int (iI 0)]) kv_X12_readSheet_357 dX12_readSheet_48 rfl rfl (Nat.le_of_ble_eq_true rfl) (Nat.le_of_ble_eq_true rfl) (x_rv hM304.1 hM304.2 rfl) rfl rfl (c_X12_readNumber_e hM304 hT304 hA304 hl5 hg hb ⟨by decide, by decide⟩ ⟨by decide, by decide⟩ ⟨by decide, by decide⟩) rfl (fun h305 e305 => ?_)
    obtain ⟨r305, hM305, hK305, hT305, F305⟩ := e305
    have hA305 := hA304.obj hM304 F305
    have hQ305 := hQ304.tr hK305
    have hZ305 := hZ304.tr F305
    have hR305 := hR304.obj hM304 F305
    refine r_istore_n (ls' := [(0, .ref m), (1, .int (iI 0))]) dX12_readSheet_51 (by decide) rfl ?_
    refine r_aload_n dX12_readSheet_52 0 rfl ?_
    refine m_g_er (v := 1) hM305 hT305.2.2.2.2.2.1 kf_X12_303 dX12_readSheet_53 ?_
    refine i_ifne dX12_readSheet_56 (tgt := 100) (by decide) ⟨by decide, by decide⟩ (fun _ => ?_) (fun c => absurd c (by decide))
    exact T100e h305 r305 g _ 1 ((tokAt T p).2.1 : Int) 0 ⟨by decide, by decide⟩ hM305 hQ305 hT305 hA305 hR305 hRW (FRm hZ305)
  · have esw : sWord T p (txS 0) = .inr ((), (tokAt T p).2.2) := by unfold sWord; rw [if_pos hw0]
    cases hsn : sNum T (tokAt T p).2.2 0 40 with
    | inl e =>
      obtain ⟨c, off⟩ := e
      have es : sSheet T p = .inl (c, off) := by unfold sSheet; rw [esw]; show (match sNum T (tokAt T p).2.2 0 40 with | .inl e => _ | .inr b => _) = _; rw [hsn] <;> rfl
      rw [es]
      refine r_aload_n dX12_readSheet_0 0 rfl ?_
      refine r_aload_n dX12_readSheet_1 0 rfl ?_
      refine r_ldcSW (hGT.2.2 ("PastryBenchModel", 360, "sheet", 0) (List.mem_of_getElem? (i := 15) rfl)) rfl dX12_readSheet_2 ?_
      refine p_callV (As := [.ref (sa 0)]) (b := m) (rest := [.ref m]) (w := (some (.int (iI (b2 true))))) (st' := [.int (iI (b2 true)), .ref m]) kv_X12_readSheet_322 dX12_readSheet_5 rfl rfl (Nat.le_of_ble_eq_true rfl) (Nat.le_of_ble_eq_true rfl) (x_rv hM.1 hM.2 rfl) rfl rfl (c_X12_isWord_b hM hT hA hl5 hg hb hGT.1 (hGT.2.1 0 (by decide)) hw0) rfl (fun h341 e341 => ?_)
      rw [show h341 = h from e341]
      refine i_const (1) dX12_readSheet_8 ?_
      refine p_callV (As := [.int (iI (b2 true)), .int (iI 1)]) (b := m) (rest := []) (w := none) (st' := []) kv_X12_readSheet_329 dX12_readSheet_9 rfl rfl (Nat.le_of_ble_eq_true rfl) (Nat.le_of_ble_eq_true rfl) (x_rv hM.1 hM.2 rfl) rfl rfl (c_X12_check_t hM hT) rfl (fun h342 e342 => ?_)
      obtain ⟨r342, hM342, hK342, hT342, F342⟩ := e342
      have hA342 := hA.obj hM F342
      have hQ342 := hK342
      have hZ342 := F342
      have hR342 := hR.obj hM F342
      refine r_aload_n dX12_readSheet_12 0 rfl ?_
      refine r_aload_n dX12_readSheet_13 0 rfl ?_
      refine m_g_er (v := 0) hM342 hT342.2.2.2.2.2.1 kf_X12_303 dX12_readSheet_14 ?_
      refine i_ifne dX12_readSheet_17 (tgt := 31) (by decide) ⟨by decide, by decide⟩ (fun c => absurd c (by decide)) (fun _ => ?_)
      refine r_aload_n dX12_readSheet_20 0 rfl ?_
      refine m_g_rr (v := r.1) hM342 hQ342.1.1 kf_X12_25 dX12_readSheet_21 ?_
      refine i_const (3) dX12_readSheet_24 ?_
      refine m_ld (v := iI ((B.2.length : Int))) 3 rfl hRW.1.1.2.2.2.1 hR342 dX12_readSheet_25 (by omega) (by decide) ?_
      refine i_bipush (6) (by decide) dX12_readSheet_26 ?_
      refine i_icmpge dX12_readSheet_28 (tgt := 35) (by decide) (by first | exact i13 hbn.1 | (unfold in32; omega)) ⟨by decide, by decide⟩ (fun c => absurd c (by omega)) (fun _ => ?_)
      refine i_const (1) dX12_readSheet_31 ?_
      refine r_goto dX12_readSheet_32 (tgt := 36) (by decide) ?_
      refine i_const (3) dX12_readSheet_36 ?_
      refine p_callV (As := [.int (iI 1), .int (iI 3)]) (b := m) (rest := []) (w := none) (st' := []) kv_X12_readSheet_329 dX12_readSheet_37 rfl rfl (Nat.le_of_ble_eq_true rfl) (Nat.le_of_ble_eq_true rfl) (x_rv hM342.1 hM342.2 rfl) rfl rfl (c_X12_check_t hM342 hT342) rfl (fun h343 e343 => ?_)
      obtain ⟨r343, hM343, hK343, hT343, F343⟩ := e343
      have hA343 := hA342.obj hM342 F343
      have hQ343 := hQ342.tr hK343
      have hZ343 := hZ342.tr F343
      have hR343 := hR342.obj hM342 F343
      refine r_aload_n dX12_readSheet_40 0 rfl ?_
      refine p_callV (As := []) (b := m) (rest := []) (w := none) (st' := []) kv_X12_readSheet_333 dX12_readSheet_41 rfl rfl (Nat.le_of_ble_eq_true rfl) (Nat.le_of_ble_eq_true rfl) (x_rv hM343.1 hM343.2 rfl) rfl rfl (c_X12_advance_k hM343 hT343 hA343 hl5 hg hb) rfl (fun h344 e344 => ?_)
      obtain ⟨r344, hM344, hK344, hT344, F344⟩ := e344
      have hA344 := hA343.obj hM343 F344
      have hQ344 := hQ343.tr hK344
      have hZ344 := hZ343.tr F344
      have hR344 := hR343.obj hM343 F344
      refine r_aload_n dX12_readSheet_44 0 rfl ?_
      refine i_const (0) dX12_readSheet_45 ?_
      refine i_bipush (40) (by decide) dX12_readSheet_46 ?_
      have hbn := t_X12_readNumber_bad hM344 hT344 hA344 hl5 hg hb ⟨by decide, by decide⟩ ⟨by decide, by decide⟩ hsn
      refine p_callV (As := [.int (iI 0), .int (iI 40)]) (b := m) (rest := []) (w := (some (.int (iI 0)))) (st' := [.int (iI 0)]) kv_X12_readSheet_357 dX12_readSheet_48 rfl rfl (Nat.le_of_ble_eq_true rfl) (Nat.le_of_ble_eq_true rfl) (x_rv hM344.1 hM344.2 rfl) rfl rfl (hbn.2) rfl (fun h345 e345 => ?_)
      obtain ⟨r345, hM345, hK345, hT345, F345⟩ := e345
      have hA345 := hA344.obj hM344 F345
      have hQ345 := hQ344.tr hK345
      have hZ345 := hZ344.tr F345
      have hR345 := hR344.obj hM344 F345
      refine r_istore_n (ls' := [(0, .ref m), (1, .int (iI 0))]) dX12_readSheet_51 (by decide) rfl ?_
      refine r_aload_n dX12_readSheet_52 0 rfl ?_
      refine m_g_er (v := c) hM345 hT345.2.2.2.2.2.1 kf_X12_303 dX12_readSheet_53 ?_
      have hcb := hbn.1
      refine i_ifne dX12_readSheet_56 (tgt := 100) (by decide) (by first | exact i13 hbn.1 | (unfold in32; omega)) (fun _ => ?_) (fun c => absurd c (by omega))
      exact T100e h345 r345 g _ c off 0 hbn.1 hM345 hQ345 hT345 hA345 hR345 hRW (FRm hZ345)
    | inr b9 =>
      obtain ⟨t9, q2⟩ := b9
      have hvb := sNum_t hsn
      have es : sSheet T p = (match sLayer T q2 with | .inl e => .inl e | .inr c => (match sRest T 8 c.2 with | .inl e => .inl e | .inr d => .inr ((t9, c.1 :: d.1), d.2))) := by unfold sSheet; rw [esw]; show (match sNum T (tokAt T p).2.2 0 40 with | .inl e => _ | .inr b => _) = _; rw [hsn] <;> rfl
      rw [es]
      cases hsl : sLayer T q2 with
      | inl e =>
        obtain ⟨c, off⟩ := e
        rcases sLay_bad hsl with ⟨hlw, hc1, hoff⟩ | ⟨hlw, hsn2⟩
        · rw [hc1, hoff]
          refine r_aload_n dX12_readSheet_0 0 rfl ?_
          refine r_aload_n dX12_readSheet_1 0 rfl ?_
          refine r_ldcSW (hGT.2.2 ("PastryBenchModel", 360, "sheet", 0) (List.mem_of_getElem? (i := 15) rfl)) rfl dX12_readSheet_2 ?_
          refine p_callV (As := [.ref (sa 0)]) (b := m) (rest := [.ref m]) (w := (some (.int (iI (b2 true))))) (st' := [.int (iI (b2 true)), .ref m]) kv_X12_readSheet_322 dX12_readSheet_5 rfl rfl (Nat.le_of_ble_eq_true rfl) (Nat.le_of_ble_eq_true rfl) (x_rv hM.1 hM.2 rfl) rfl rfl (c_X12_isWord_b hM hT hA hl5 hg hb hGT.1 (hGT.2.1 0 (by decide)) hw0) rfl (fun h381 e381 => ?_)
          rw [show h381 = h from e381]
          refine i_const (1) dX12_readSheet_8 ?_
          refine p_callV (As := [.int (iI (b2 true)), .int (iI 1)]) (b := m) (rest := []) (w := none) (st' := []) kv_X12_readSheet_329 dX12_readSheet_9 rfl rfl (Nat.le_of_ble_eq_true rfl) (Nat.le_of_ble_eq_true rfl) (x_rv hM.1 hM.2 rfl) rfl rfl (c_X12_check_t hM hT) rfl (fun h382 e382 => ?_)
          obtain ⟨r382, hM382, hK382, hT382, F382⟩ := e382
          have hA382 := hA.obj hM F382
          have hQ382 := hK382
          have hZ382 := F382
          have hR382 := hR.obj hM F382
          refine r_aload_n dX12_readSheet_12 0 rfl ?_
          refine r_aload_n dX12_readSheet_13 0 rfl ?_
          refine m_g_er (v := 0) hM382 hT382.2.2.2.2.2.1 kf_X12_303 dX12_readSheet_14 ?_
          refine i_ifne dX12_readSheet_17 (tgt := 31) (by decide) ⟨by decide, by decide⟩ (fun c => absurd c (by decide)) (fun _ => ?_)
          refine r_aload_n dX12_readSheet_20 0 rfl ?_
          refine m_g_rr (v := r.1) hM382 hQ382.1.1 kf_X12_25 dX12_readSheet_21 ?_
          refine i_const (3) dX12_readSheet_24 ?_
          refine m_ld (v := iI ((B.2.length : Int))) 3 rfl hRW.1.1.2.2.2.1 hR382 dX12_readSheet_25 (by omega) (by decide) ?_
          refine i_bipush (6) (by decide) dX12_readSheet_26 ?_
          refine i_icmpge dX12_readSheet_28 (tgt := 35) (by decide) (by unfold in32; omega) ⟨by decide, by decide⟩ (fun c => absurd c (by omega)) (fun _ => ?_)
          refine i_const (1) dX12_readSheet_31 ?_
          refine r_goto dX12_readSheet_32 (tgt := 36) (by decide) ?_
          refine i_const (3) dX12_readSheet_36 ?_
          refine p_callV (As := [.int (iI 1), .int (iI 3)]) (b := m) (rest := []) (w := none) (st' := []) kv_X12_readSheet_329 dX12_readSheet_37 rfl rfl (Nat.le_of_ble_eq_true rfl) (Nat.le_of_ble_eq_true rfl) (x_rv hM382.1 hM382.2 rfl) rfl rfl (c_X12_check_t hM382 hT382) rfl (fun h383 e383 => ?_)
          obtain ⟨r383, hM383, hK383, hT383, F383⟩ := e383
          have hA383 := hA382.obj hM382 F383
          have hQ383 := hQ382.tr hK383
          have hZ383 := hZ382.tr F383
          have hR383 := hR382.obj hM382 F383
          refine r_aload_n dX12_readSheet_40 0 rfl ?_
          refine p_callV (As := []) (b := m) (rest := []) (w := none) (st' := []) kv_X12_readSheet_333 dX12_readSheet_41 rfl rfl (Nat.le_of_ble_eq_true rfl) (Nat.le_of_ble_eq_true rfl) (x_rv hM383.1 hM383.2 rfl) rfl rfl (c_X12_advance_k hM383 hT383 hA383 hl5 hg hb) rfl (fun h384 e384 => ?_)
          obtain ⟨r384, hM384, hK384, hT384, F384⟩ := e384
          have hA384 := hA383.obj hM383 F384
          have hQ384 := hQ383.tr hK384
          have hZ384 := hZ383.tr F384
          have hR384 := hR383.obj hM383 F384
          refine r_aload_n dX12_readSheet_44 0 rfl ?_
          refine i_const (0) dX12_readSheet_45 ?_
          refine i_bipush (40) (by decide) dX12_readSheet_46 ?_
          refine p_callV (As := [.int (iI 0), .int (iI 40)]) (b := m) (rest := []) (w := (some (.int (iI t9)))) (st' := [.int (iI t9)]) kv_X12_readSheet_357 dX12_readSheet_48 rfl rfl (Nat.le_of_ble_eq_true rfl) (Nat.le_of_ble_eq_true rfl) (x_rv hM384.1 hM384.2 rfl) rfl rfl (t_X12_readNumber_ok hM384 hT384 hA384 hl5 hg hb ⟨by decide, by decide⟩ ⟨by decide, by decide⟩ hsn) rfl (fun h385 e385 => ?_)
          obtain ⟨r385, hM385, hK385, hT385, F385⟩ := e385
          have hA385 := hA384.obj hM384 F385
          have hQ385 := hQ384.tr hK385
          have hZ385 := hZ384.tr F385
          have hR385 := hR384.obj hM384 F385
          refine r_istore_n (ls' := [(0, .ref m), (1, .int (iI t9))]) dX12_readSheet_51 (by decide) rfl ?_
          refine r_aload_n dX12_readSheet_52 0 rfl ?_
          refine m_g_er (v := 0) hM385 hT385.2.2.2.2.2.1 kf_X12_303 dX12_readSheet_53 ?_
          refine i_ifne dX12_readSheet_56 (tgt := 100) (by decide) ⟨by decide, by decide⟩ (fun c => absurd c (by decide)) (fun _ => ?_)
          refine r_aload_n dX12_readSheet_59 0 rfl ?_
          refine r_aload_n dX12_readSheet_60 0 rfl ?_
          refine m_g_rr (v := r.1) hM385 hQ385.1.1 kf_X12_25 dX12_readSheet_61 ?_
          refine i_const (3) dX12_readSheet_64 ?_
          refine m_ld (v := iI ((B.2.length : Int))) 3 rfl hRW.1.1.2.2.2.1 hR385 dX12_readSheet_65 (by omega) (by decide) ?_
          refine r_iload_n dX12_readSheet_66 1 rfl ?_
          refine p_callV (As := [.int (iI ((B.2.length : Int))), .int (iI t9)]) (b := m) (rest := []) (w := none) (st' := []) kv_X12_readSheet_69 dX12_readSheet_67 rfl rfl (Nat.le_of_ble_eq_true rfl) (Nat.le_of_ble_eq_true rfl) (x_rv hM385.1 hM385.2 rfl) rfl rfl (c_X12_startSheet hM385 (AR.rk hR385 hQ385) (i := B.2.length) (by omega) (T := t9)) rfl (fun h386 e386 => ?_)
          obtain ⟨g386, hR386, hw386, E386, F386⟩ := e386
          have hM386 := hM385.row (AR.rk hR385 hQ385) F386
          rw [hQ385.1.1] at hR386 F386
          have hA386 := hA385.fr F386 (nm1 (ne_sz hA385.2 hR385.2 (by decide)))
          refine r_aload_n dX12_readSheet_70 0 rfl ?_
          refine r_aload_n dX12_readSheet_71 0 rfl ?_
          refine m_g_rr (v := r.1) hM386 hQ385.1.1 kf_X12_25 dX12_readSheet_72 ?_
          refine i_const (3) dX12_readSheet_75 ?_
          refine m_ld (v := iI ((B.2.length : Int))) 3 rfl ((E386 3 (by omega)).trans hRW.1.1.2.2.2.1) hR386 dX12_readSheet_76 (by omega) (by decide) ?_
          refine p_callV (As := [.int (iI ((B.2.length : Int)))]) (b := m) (rest := []) (w := none) (st' := []) kv_X12_readSheet_362 dX12_readSheet_77 rfl rfl (Nat.le_of_ble_eq_true rfl) (Nat.le_of_ble_eq_true rfl) (x_rv hM386.1 hM386.2 rfl) rfl rfl (c_X12_readLayer_b1 hM386 (AR.rk hR386 hQ385) hT385 hA386 hl5 hg hb hGT (i := B.2.length) hn6 hw386 hlw) rfl (fun h387 e387 => ?_)
          obtain ⟨r387, hM387, hK387, hT387, F387⟩ := e387
          have hA387 := hA386.obj hM386 F387
          have hQ387 := hQ385.tr hK387
          have hZ387 := F387
          have hR387 := hR386.obj hM386 F387
          exact L80e h387 r387 g386 _ 1 ((tokAt T q2).2.1 : Int) t9 ⟨by decide, by decide⟩ hM387 hQ387 hT387 hA387 hR387 (hRW.far hn6 E386) (((FRm hZ385).tr (FRr F386)).tr (FRm hZ387))
        · have hcb : 1 ≤ c ∧ c ≤ 3 := sNum_c hsn2
          refine r_aload_n dX12_readSheet_0 0 rfl ?_
          refine r_aload_n dX12_readSheet_1 0 rfl ?_
          refine r_ldcSW (hGT.2.2 ("PastryBenchModel", 360, "sheet", 0) (List.mem_of_getElem? (i := 15) rfl)) rfl dX12_readSheet_2 ?_
          refine p_callV (As := [.ref (sa 0)]) (b := m) (rest := [.ref m]) (w := (some (.int (iI (b2 true))))) (st' := [.int (iI (b2 true)), .ref m]) kv_X12_readSheet_322 dX12_readSheet_5 rfl rfl (Nat.le_of_ble_eq_true rfl) (Nat.le_of_ble_eq_true rfl) (x_rv hM.1 hM.2 rfl) rfl rfl (c_X12_isWord_b hM hT hA hl5 hg hb hGT.1 (hGT.2.1 0 (by decide)) hw0) rfl (fun h421 e421 => ?_)
          rw [show h421 = h from e421]
          refine i_const (1) dX12_readSheet_8 ?_
          refine p_callV (As := [.int (iI (b2 true)), .int (iI 1)]) (b := m) (rest := []) (w := none) (st' := []) kv_X12_readSheet_329 dX12_readSheet_9 rfl rfl (Nat.le_of_ble_eq_true rfl) (Nat.le_of_ble_eq_true rfl) (x_rv hM.1 hM.2 rfl) rfl rfl (c_X12_check_t hM hT) rfl (fun h422 e422 => ?_)
          obtain ⟨r422, hM422, hK422, hT422, F422⟩ := e422
          have hA422 := hA.obj hM F422
          have hQ422 := hK422
          have hZ422 := F422
          have hR422 := hR.obj hM F422
          refine r_aload_n dX12_readSheet_12 0 rfl ?_
          refine r_aload_n dX12_readSheet_13 0 rfl ?_
          refine m_g_er (v := 0) hM422 hT422.2.2.2.2.2.1 kf_X12_303 dX12_readSheet_14 ?_
          refine i_ifne dX12_readSheet_17 (tgt := 31) (by decide) ⟨by decide, by decide⟩ (fun c => absurd c (by decide)) (fun _ => ?_)
          refine r_aload_n dX12_readSheet_20 0 rfl ?_
          refine m_g_rr (v := r.1) hM422 hQ422.1.1 kf_X12_25 dX12_readSheet_21 ?_
          refine i_const (3) dX12_readSheet_24 ?_
          refine m_ld (v := iI ((B.2.length : Int))) 3 rfl hRW.1.1.2.2.2.1 hR422 dX12_readSheet_25 (by omega) (by decide) ?_
          refine i_bipush (6) (by decide) dX12_readSheet_26 ?_
          refine i_icmpge dX12_readSheet_28 (tgt := 35) (by decide) (by unfold in32; omega) ⟨by decide, by decide⟩ (fun c => absurd c (by omega)) (fun _ => ?_)
          refine i_const (1) dX12_readSheet_31 ?_
          refine r_goto dX12_readSheet_32 (tgt := 36) (by decide) ?_
          refine i_const (3) dX12_readSheet_36 ?_
          refine p_callV (As := [.int (iI 1), .int (iI 3)]) (b := m) (rest := []) (w := none) (st' := []) kv_X12_readSheet_329 dX12_readSheet_37 rfl rfl (Nat.le_of_ble_eq_true rfl) (Nat.le_of_ble_eq_true rfl) (x_rv hM422.1 hM422.2 rfl) rfl rfl (c_X12_check_t hM422 hT422) rfl (fun h423 e423 => ?_)
          obtain ⟨r423, hM423, hK423, hT423, F423⟩ := e423
          have hA423 := hA422.obj hM422 F423
          have hQ423 := hQ422.tr hK423
          have hZ423 := hZ422.tr F423
          have hR423 := hR422.obj hM422 F423
          refine r_aload_n dX12_readSheet_40 0 rfl ?_
          refine p_callV (As := []) (b := m) (rest := []) (w := none) (st' := []) kv_X12_readSheet_333 dX12_readSheet_41 rfl rfl (Nat.le_of_ble_eq_true rfl) (Nat.le_of_ble_eq_true rfl) (x_rv hM423.1 hM423.2 rfl) rfl rfl (c_X12_advance_k hM423 hT423 hA423 hl5 hg hb) rfl (fun h424 e424 => ?_)
          obtain ⟨r424, hM424, hK424, hT424, F424⟩ := e424
          have hA424 := hA423.obj hM423 F424
          have hQ424 := hQ423.tr hK424
          have hZ424 := hZ423.tr F424
          have hR424 := hR423.obj hM423 F424
          refine r_aload_n dX12_readSheet_44 0 rfl ?_
          refine i_const (0) dX12_readSheet_45 ?_
          refine i_bipush (40) (by decide) dX12_readSheet_46 ?_
          refine p_callV (As := [.int (iI 0), .int (iI 40)]) (b := m) (rest := []) (w := (some (.int (iI t9)))) (st' := [.int (iI t9)]) kv_X12_readSheet_357 dX12_readSheet_48 rfl rfl (Nat.le_of_ble_eq_true rfl) (Nat.le_of_ble_eq_true rfl) (x_rv hM424.1 hM424.2 rfl) rfl rfl (t_X12_readNumber_ok hM424 hT424 hA424 hl5 hg hb ⟨by decide, by decide⟩ ⟨by decide, by decide⟩ hsn) rfl (fun h425 e425 => ?_)
          obtain ⟨r425, hM425, hK425, hT425, F425⟩ := e425
          have hA425 := hA424.obj hM424 F425
          have hQ425 := hQ424.tr hK425
          have hZ425 := hZ424.tr F425
          have hR425 := hR424.obj hM424 F425
          refine r_istore_n (ls' := [(0, .ref m), (1, .int (iI t9))]) dX12_readSheet_51 (by decide) rfl ?_
          refine r_aload_n dX12_readSheet_52 0 rfl ?_
          refine m_g_er (v := 0) hM425 hT425.2.2.2.2.2.1 kf_X12_303 dX12_readSheet_53 ?_
          refine i_ifne dX12_readSheet_56 (tgt := 100) (by decide) ⟨by decide, by decide⟩ (fun c => absurd c (by decide)) (fun _ => ?_)
          refine r_aload_n dX12_readSheet_59 0 rfl ?_
          refine r_aload_n dX12_readSheet_60 0 rfl ?_
          refine m_g_rr (v := r.1) hM425 hQ425.1.1 kf_X12_25 dX12_readSheet_61 ?_
          refine i_const (3) dX12_readSheet_64 ?_
          refine m_ld (v := iI ((B.2.length : Int))) 3 rfl hRW.1.1.2.2.2.1 hR425 dX12_readSheet_65 (by omega) (by decide) ?_
          refine r_iload_n dX12_readSheet_66 1 rfl ?_
          refine p_callV (As := [.int (iI ((B.2.length : Int))), .int (iI t9)]) (b := m) (rest := []) (w := none) (st' := []) kv_X12_readSheet_69 dX12_readSheet_67 rfl rfl (Nat.le_of_ble_eq_true rfl) (Nat.le_of_ble_eq_true rfl) (x_rv hM425.1 hM425.2 rfl) rfl rfl (c_X12_startSheet hM425 (AR.rk hR425 hQ425) (i := B.2.length) (by omega) (T := t9)) rfl (fun h426 e426 => ?_)
          obtain ⟨g426, hR426, hw426, E426, F426⟩ := e426
          have hM426 := hM425.row (AR.rk hR425 hQ425) F426
          rw [hQ425.1.1] at hR426 F426
          have hA426 := hA425.fr F426 (nm1 (ne_sz hA425.2 hR425.2 (by decide)))
          refine r_aload_n dX12_readSheet_70 0 rfl ?_
          refine r_aload_n dX12_readSheet_71 0 rfl ?_
          refine m_g_rr (v := r.1) hM426 hQ425.1.1 kf_X12_25 dX12_readSheet_72 ?_
          refine i_const (3) dX12_readSheet_75 ?_
          refine m_ld (v := iI ((B.2.length : Int))) 3 rfl ((E426 3 (by omega)).trans hRW.1.1.2.2.2.1) hR426 dX12_readSheet_76 (by omega) (by decide) ?_
          refine p_callV (As := [.int (iI ((B.2.length : Int)))]) (b := m) (rest := []) (w := none) (st' := []) kv_X12_readSheet_362 dX12_readSheet_77 rfl rfl (Nat.le_of_ble_eq_true rfl) (Nat.le_of_ble_eq_true rfl) (x_rv hM426.1 hM426.2 rfl) rfl rfl (c_X12_readLayer_b2 hM426 (AR.rk hR426 hQ425) hT425 hA426 hl5 hg hb hGT (i := B.2.length) hn6 hw426 hlw hsn2 (by show (0 : Nat) < 9; decide)) rfl (fun h427 e427 => ?_)
          obtain ⟨r427, hM427, hK427, hT427, F427⟩ := e427
          have hA427 := hA426.obj hM426 F427
          have hQ427 := hQ425.tr hK427
          have hZ427 := F427
          have hR427 := hR426.obj hM426 F427
          exact L80e h427 r427 g426 _ c off t9 hcb hM427 hQ427 hT427 hA427 hR427 (hRW.far hn6 E426) (((FRm hZ425).tr (FRr F426)).tr (FRm hZ427))
      | inr a9 =>
        obtain ⟨x9, q9⟩ := a9
        refine r_aload_n dX12_readSheet_0 0 rfl ?_
        refine r_aload_n dX12_readSheet_1 0 rfl ?_
        refine r_ldcSW (hGT.2.2 ("PastryBenchModel", 360, "sheet", 0) (List.mem_of_getElem? (i := 15) rfl)) rfl dX12_readSheet_2 ?_
        refine p_callV (As := [.ref (sa 0)]) (b := m) (rest := [.ref m]) (w := (some (.int (iI (b2 true))))) (st' := [.int (iI (b2 true)), .ref m]) kv_X12_readSheet_322 dX12_readSheet_5 rfl rfl (Nat.le_of_ble_eq_true rfl) (Nat.le_of_ble_eq_true rfl) (x_rv hM.1 hM.2 rfl) rfl rfl (c_X12_isWord_b hM hT hA hl5 hg hb hGT.1 (hGT.2.1 0 (by decide)) hw0) rfl (fun h461 e461 => ?_)
        rw [show h461 = h from e461]
        refine i_const (1) dX12_readSheet_8 ?_
        refine p_callV (As := [.int (iI (b2 true)), .int (iI 1)]) (b := m) (rest := []) (w := none) (st' := []) kv_X12_readSheet_329 dX12_readSheet_9 rfl rfl (Nat.le_of_ble_eq_true rfl) (Nat.le_of_ble_eq_true rfl) (x_rv hM.1 hM.2 rfl) rfl rfl (c_X12_check_t hM hT) rfl (fun h462 e462 => ?_)
        obtain ⟨r462, hM462, hK462, hT462, F462⟩ := e462
        have hA462 := hA.obj hM F462
        have hQ462 := hK462
        have hZ462 := F462
        have hR462 := hR.obj hM F462
        refine r_aload_n dX12_readSheet_12 0 rfl ?_
        refine r_aload_n dX12_readSheet_13 0 rfl ?_
        refine m_g_er (v := 0) hM462 hT462.2.2.2.2.2.1 kf_X12_303 dX12_readSheet_14 ?_
        refine i_ifne dX12_readSheet_17 (tgt := 31) (by decide) ⟨by decide, by decide⟩ (fun c => absurd c (by decide)) (fun _ => ?_)
        refine r_aload_n dX12_readSheet_20 0 rfl ?_
        refine m_g_rr (v := r.1) hM462 hQ462.1.1 kf_X12_25 dX12_readSheet_21 ?_
        refine i_const (3) dX12_readSheet_24 ?_
        refine m_ld (v := iI ((B.2.length : Int))) 3 rfl hRW.1.1.2.2.2.1 hR462 dX12_readSheet_25 (by omega) (by decide) ?_
        refine i_bipush (6) (by decide) dX12_readSheet_26 ?_
        refine i_icmpge dX12_readSheet_28 (tgt := 35) (by decide) (by unfold in32; omega) ⟨by decide, by decide⟩ (fun c => absurd c (by omega)) (fun _ => ?_)
        refine i_const (1) dX12_readSheet_31 ?_
        refine r_goto dX12_readSheet_32 (tgt := 36) (by decide) ?_
        refine i_const (3) dX12_readSheet_36 ?_
        refine p_callV (As := [.int (iI 1), .int (iI 3)]) (b := m) (rest := []) (w := none) (st' := []) kv_X12_readSheet_329 dX12_readSheet_37 rfl rfl (Nat.le_of_ble_eq_true rfl) (Nat.le_of_ble_eq_true rfl) (x_rv hM462.1 hM462.2 rfl) rfl rfl (c_X12_check_t hM462 hT462) rfl (fun h463 e463 => ?_)
        obtain ⟨r463, hM463, hK463, hT463, F463⟩ := e463
        have hA463 := hA462.obj hM462 F463
        have hQ463 := hQ462.tr hK463
        have hZ463 := hZ462.tr F463
        have hR463 := hR462.obj hM462 F463
        refine r_aload_n dX12_readSheet_40 0 rfl ?_
        refine p_callV (As := []) (b := m) (rest := []) (w := none) (st' := []) kv_X12_readSheet_333 dX12_readSheet_41 rfl rfl (Nat.le_of_ble_eq_true rfl) (Nat.le_of_ble_eq_true rfl) (x_rv hM463.1 hM463.2 rfl) rfl rfl (c_X12_advance_k hM463 hT463 hA463 hl5 hg hb) rfl (fun h464 e464 => ?_)
        obtain ⟨r464, hM464, hK464, hT464, F464⟩ := e464
        have hA464 := hA463.obj hM463 F464
        have hQ464 := hQ463.tr hK464
        have hZ464 := hZ463.tr F464
        have hR464 := hR463.obj hM463 F464
        refine r_aload_n dX12_readSheet_44 0 rfl ?_
        refine i_const (0) dX12_readSheet_45 ?_
        refine i_bipush (40) (by decide) dX12_readSheet_46 ?_
        refine p_callV (As := [.int (iI 0), .int (iI 40)]) (b := m) (rest := []) (w := (some (.int (iI t9)))) (st' := [.int (iI t9)]) kv_X12_readSheet_357 dX12_readSheet_48 rfl rfl (Nat.le_of_ble_eq_true rfl) (Nat.le_of_ble_eq_true rfl) (x_rv hM464.1 hM464.2 rfl) rfl rfl (t_X12_readNumber_ok hM464 hT464 hA464 hl5 hg hb ⟨by decide, by decide⟩ ⟨by decide, by decide⟩ hsn) rfl (fun h465 e465 => ?_)
        obtain ⟨r465, hM465, hK465, hT465, F465⟩ := e465
        have hA465 := hA464.obj hM464 F465
        have hQ465 := hQ464.tr hK465
        have hZ465 := hZ464.tr F465
        have hR465 := hR464.obj hM464 F465
        refine r_istore_n (ls' := [(0, .ref m), (1, .int (iI t9))]) dX12_readSheet_51 (by decide) rfl ?_
        refine r_aload_n dX12_readSheet_52 0 rfl ?_
        refine m_g_er (v := 0) hM465 hT465.2.2.2.2.2.1 kf_X12_303 dX12_readSheet_53 ?_
        refine i_ifne dX12_readSheet_56 (tgt := 100) (by decide) ⟨by decide, by decide⟩ (fun c => absurd c (by decide)) (fun _ => ?_)
        refine r_aload_n dX12_readSheet_59 0 rfl ?_
        refine r_aload_n dX12_readSheet_60 0 rfl ?_
        refine m_g_rr (v := r.1) hM465 hQ465.1.1 kf_X12_25 dX12_readSheet_61 ?_
        refine i_const (3) dX12_readSheet_64 ?_
        refine m_ld (v := iI ((B.2.length : Int))) 3 rfl hRW.1.1.2.2.2.1 hR465 dX12_readSheet_65 (by omega) (by decide) ?_
        refine r_iload_n dX12_readSheet_66 1 rfl ?_
        refine p_callV (As := [.int (iI ((B.2.length : Int))), .int (iI t9)]) (b := m) (rest := []) (w := none) (st' := []) kv_X12_readSheet_69 dX12_readSheet_67 rfl rfl (Nat.le_of_ble_eq_true rfl) (Nat.le_of_ble_eq_true rfl) (x_rv hM465.1 hM465.2 rfl) rfl rfl (c_X12_startSheet hM465 (AR.rk hR465 hQ465) (i := B.2.length) (by omega) (T := t9)) rfl (fun h466 e466 => ?_)
        obtain ⟨g466, hR466, hw466, E466, F466⟩ := e466
        have hM466 := hM465.row (AR.rk hR465 hQ465) F466
        rw [hQ465.1.1] at hR466 F466
        have hA466 := hA465.fr F466 (nm1 (ne_sz hA465.2 hR465.2 (by decide)))
        refine r_aload_n dX12_readSheet_70 0 rfl ?_
        refine r_aload_n dX12_readSheet_71 0 rfl ?_
        refine m_g_rr (v := r.1) hM466 hQ465.1.1 kf_X12_25 dX12_readSheet_72 ?_
        refine i_const (3) dX12_readSheet_75 ?_
        refine m_ld (v := iI ((B.2.length : Int))) 3 rfl ((E466 3 (by omega)).trans hRW.1.1.2.2.2.1) hR466 dX12_readSheet_76 (by omega) (by decide) ?_
        refine p_callV (As := [.int (iI ((B.2.length : Int)))]) (b := m) (rest := []) (w := none) (st' := []) kv_X12_readSheet_362 dX12_readSheet_77 rfl rfl (Nat.le_of_ble_eq_true rfl) (Nat.le_of_ble_eq_true rfl) (x_rv hM466.1 hM466.2 rfl) rfl rfl (c_X12_readLayer_ok hM466 (AR.rk hR466 hQ465) hT465 hA466 hl5 hg hb hGT (i := B.2.length) hn6 hw466 hsl (by show (0 : Nat) < 9; decide)) rfl (fun h467 e467 => ?_)
        obtain ⟨r467, g467, hM467, hK467, hT467, hR467, hw467, E467, F467⟩ := e467
        rw [hQ465.1.1] at hR467 F467
        have hQ467 := hQ465.tr hK467
        have hA467 := hA466.fr F467 (nm2 (hM466.ne hA466).symm (ne_sz hA466.2 hR466.2 (by decide)))
        have q8 := L80 hn6 t9 8 [x9] q9 _ h467 r467 g467 t9 rfl hM467 hQ467 hT467 hA467 hR467 hw467 (E466.tr E467) (((FRm hZ465).tr (FRr F466)).tr F467)
        dsimp only
        cases hs9 : sRest T 8 q9 with
        | inl e => rw [hs9] at q8; exact q8
        | inr b9 => rw [hs9] at q8; exact q8
set_option maxRecDepth 20000 in
set_option maxHeartbeats 1000000 in
theorem c_X12_readSheet_6f {G : xG} {h : xH} {m : Nat} {a : MA} {r : MR} (hM : MO G h m a r) {g : Nat → Int32} (hR : AR G h r.1 1456 g) {T : List Int} {p : Nat} {o : Int} (hT : TS r T p 0 o) {gi : Nat → Int32} (hA : AR G h a.2.2.2.2.2.2.1 500 gi) (hl5 : T.length ≤ 500) (hg : ∀ k, k < T.length → gi k = iI (T.getD k 0)) (hb : BYT T) {sa : Nat → Nat} (hGT : GT G sa) {B : AB} (hRW : RWf g 0 B) (hn6 : B.2.length = 6) (hw0 : isW T (tokAt T p) (txS 0) = false) : CC G MX12_readSheet [.ref m] h (SHQ G h m a r T B (.inl (1, ((tokAt T p).2.1 : Int)))) := by
  have T100e : ∀ (h1 : xH) (r1 : MR) (g1 : Nat → Int32) (p1 : Nat) (e o1 v1 : Int), (1 ≤ e ∧ e ≤ 3) → MO G h1 m a r1 → RT r r1 → TS r1 T p1 e o1 → AR G h1 a.2.2.2.2.2.2.1 500 gi → AR G h1 r.1 1456 g1 → RWf g1 0 B → FRp [m, r.1] h h1 → RR G MX12_readSheet 100 [(0, .ref m), (1, .int (iI v1))] [] h1 (xm_R MX12_readSheet).cells (xm_R MX12_readSheet).slots (SHQ G h m a r T B (.inl (e, o1))) := by
    intro h1 r1 g1 p1 e o1 v1 he hM1 hK1 hT1 hA1 hR1 hRW1 hF1
    refine r_aload_n dX12_readSheet_100 0 rfl ?_
    refine i_bipush (59) (by decide) dX12_readSheet_101 ?_
    refine p_callV (As := [.int (iI 59)]) (b := m) (rest := []) (w := none) (st' := []) kv_X12_readSheet_365 dX12_readSheet_103 rfl rfl (Nat.le_of_ble_eq_true rfl) (Nat.le_of_ble_eq_true rfl) (x_rv hM1.1 hM1.2 rfl) rfl rfl (c_X12_expect_e hM1 hT1 hA1 hl5 hg hb he) rfl (fun h11 e11 => ?_)
    obtain ⟨r11, hM11, hK11, hT11, F11⟩ := e11
    have hA11 := hA1.obj hM1 F11
    have hQ11 := hK1.tr hK11
    have hZ11 := F11
    have hR11 := hR1.obj hM1 F11
    refine r_aload_n dX12_readSheet_106 0 rfl ?_
    refine m_g_rr (v := r.1) hM11 hQ11.1.1 kf_X12_25 dX12_readSheet_107 ?_
    refine i_const (3) dX12_readSheet_110 ?_
    refine r_dup2 dX12_readSheet_111 rfl rfl ?_
    refine m_ld (v := iI ((B.2.length : Int))) 3 rfl hRW1.1.1.2.2.2.1 hR11 dX12_readSheet_112 (by omega) (by decide) ?_
    refine r_aload_n dX12_readSheet_113 0 rfl ?_
    refine m_g_er (v := e) hM11 hT11.2.2.2.2.2.1 kf_X12_303 dX12_readSheet_114 ?_
    have hq117 := he
    refine i_ifne dX12_readSheet_117 (tgt := 124) (by decide) (by first | exact i13 he | (unfold in32; omega)) (fun _ => ?_) (fun c => absurd c (by omega))
    refine i_const (0) dX12_readSheet_124 ?_
    refine i_add dX12_readSheet_125 ?_
    refine m_st 3 rfl hR11 dX12_readSheet_126 (by omega) (by decide) (fun h12 hR12 F12 => ?_)
    have hM12 := hM11.row hR11 F12
    obtain ⟨g12, hg12⟩ : ∃ y, y = (upd g1 3 (iI ((B.2.length : Int) + 0))) := ⟨_, rfl⟩
    rw [← hg12] at hR12
    refine r_return rfl dX12_readSheet_127 ?_
    exact ⟨rfl, _, g12, hM12, hQ11, hR12, (hF1.tr (FRm hZ11)).tr (FRr F12), ⟨he, ⟨_, hT11⟩, (hRW1).same3 (g' := g12) (fun j hj => by rw [hg12]; exact upd_n hj) (by rw [hg12]; exact upd_s)⟩⟩
  have hn := hRW.1.2.1
  show RR G MX12_readSheet 0 [(0, .ref m)] [] h (xm_R MX12_readSheet).cells (xm_R MX12_readSheet).slots (SHQ G h m a r T B (.inl (1, ((tokAt T p).2.1 : Int))))
  refine r_aload_n dX12_readSheet_0 0 rfl ?_
  refine r_aload_n dX12_readSheet_1 0 rfl ?_
  refine r_ldcSW (hGT.2.2 ("PastryBenchModel", 360, "sheet", 0) (List.mem_of_getElem? (i := 15) rfl)) rfl dX12_readSheet_2 ?_
  refine p_callV (As := [.ref (sa 0)]) (b := m) (rest := [.ref m]) (w := (some (.int (iI (b2 false))))) (st' := [.int (iI (b2 false)), .ref m]) kv_X12_readSheet_322 dX12_readSheet_5 rfl rfl (Nat.le_of_ble_eq_true rfl) (Nat.le_of_ble_eq_true rfl) (x_rv hM.1 hM.2 rfl) rfl rfl (c_X12_isWord_b hM hT hA hl5 hg hb hGT.1 (hGT.2.1 0 (by decide)) hw0) rfl (fun h501 e501 => ?_)
  rw [show h501 = h from e501]
  refine i_const (1) dX12_readSheet_8 ?_
  refine p_callV (As := [.int (iI (b2 false)), .int (iI 1)]) (b := m) (rest := []) (w := none) (st' := []) kv_X12_readSheet_329 dX12_readSheet_9 rfl rfl (Nat.le_of_ble_eq_true rfl) (Nat.le_of_ble_eq_true rfl) (x_rv hM.1 hM.2 rfl) rfl rfl (c_X12_check_f hM hT (c := 1) (by decide)) rfl (fun h502 e502 => ?_)
  obtain ⟨r502, hM502, hK502, hT502, F502⟩ := e502
  have hA502 := hA.obj hM F502
  have hQ502 := hK502
  have hZ502 := F502
  have hR502 := hR.obj hM F502
  refine r_aload_n dX12_readSheet_12 0 rfl ?_
  refine r_aload_n dX12_readSheet_13 0 rfl ?_
  refine m_g_er (v := 1) hM502 hT502.2.2.2.2.2.1 kf_X12_303 dX12_readSheet_14 ?_
  refine i_ifne dX12_readSheet_17 (tgt := 31) (by decide) ⟨by decide, by decide⟩ (fun _ => ?_) (fun c => absurd c (by decide))
  refine i_const (1) dX12_readSheet_31 ?_
  refine r_goto dX12_readSheet_32 (tgt := 36) (by decide) ?_
  refine i_const (3) dX12_readSheet_36 ?_
  refine p_callV (As := [.int (iI 1), .int (iI 3)]) (b := m) (rest := []) (w := none) (st' := []) kv_X12_readSheet_329 dX12_readSheet_37 rfl rfl (Nat.le_of_ble_eq_true rfl) (Nat.le_of_ble_eq_true rfl) (x_rv hM502.1 hM502.2 rfl) rfl rfl (c_X12_check_e hM502 hT502 (b := true) (e13 ⟨by decide, by decide⟩) (i13 ⟨by decide, by decide⟩)) rfl (fun h503 e503 => ?_)
  obtain ⟨r503, hM503, hK503, hT503, F503⟩ := e503
  have hA503 := hA502.obj hM502 F503
  have hQ503 := hQ502.tr hK503
  have hZ503 := hZ502.tr F503
  have hR503 := hR502.obj hM502 F503
  refine r_aload_n dX12_readSheet_40 0 rfl ?_
  refine p_callV (As := []) (b := m) (rest := []) (w := none) (st' := []) kv_X12_readSheet_333 dX12_readSheet_41 rfl rfl (Nat.le_of_ble_eq_true rfl) (Nat.le_of_ble_eq_true rfl) (x_rv hM503.1 hM503.2 rfl) rfl rfl (c_X12_advance_e hM503 hT503 hA503 hl5 hg hb (e13 ⟨by decide, by decide⟩) (i13 ⟨by decide, by decide⟩)) rfl (fun h504 e504 => ?_)
  obtain ⟨r504, hM504, hK504, hT504, F504⟩ := e504
  have hA504 := hA503.obj hM503 F504
  have hQ504 := hQ503.tr hK504
  have hZ504 := hZ503.tr F504
  have hR504 := hR503.obj hM503 F504
  refine r_aload_n dX12_readSheet_44 0 rfl ?_
  refine i_const (0) dX12_readSheet_45 ?_
  refine i_bipush (40) (by decide) dX12_readSheet_46 ?_
  refine p_callV (As := [.int (iI 0), .int (iI 40)]) (b := m) (rest := []) (w := (some (.int (iI 0)))) (st' := [.int (iI 0)]) kv_X12_readSheet_357 dX12_readSheet_48 rfl rfl (Nat.le_of_ble_eq_true rfl) (Nat.le_of_ble_eq_true rfl) (x_rv hM504.1 hM504.2 rfl) rfl rfl (c_X12_readNumber_e hM504 hT504 hA504 hl5 hg hb ⟨by decide, by decide⟩ ⟨by decide, by decide⟩ ⟨by decide, by decide⟩) rfl (fun h505 e505 => ?_)
  obtain ⟨r505, hM505, hK505, hT505, F505⟩ := e505
  have hA505 := hA504.obj hM504 F505
  have hQ505 := hQ504.tr hK505
  have hZ505 := hZ504.tr F505
  have hR505 := hR504.obj hM504 F505
  refine r_istore_n (ls' := [(0, .ref m), (1, .int (iI 0))]) dX12_readSheet_51 (by decide) rfl ?_
  refine r_aload_n dX12_readSheet_52 0 rfl ?_
  refine m_g_er (v := 1) hM505 hT505.2.2.2.2.2.1 kf_X12_303 dX12_readSheet_53 ?_
  refine i_ifne dX12_readSheet_56 (tgt := 100) (by decide) ⟨by decide, by decide⟩ (fun _ => ?_) (fun c => absurd c (by decide))
  exact T100e h505 r505 g _ 1 ((tokAt T p).2.1 : Int) 0 ⟨by decide, by decide⟩ hM505 hQ505 hT505 hA505 hR505 hRW (FRm hZ505)
set_option maxRecDepth 20000 in
set_option maxHeartbeats 1000000 in
theorem c_X12_readSheet_6t {G : xG} {h : xH} {m : Nat} {a : MA} {r : MR} (hM : MO G h m a r) {g : Nat → Int32} (hR : AR G h r.1 1456 g) {T : List Int} {p : Nat} {o : Int} (hT : TS r T p 0 o) {gi : Nat → Int32} (hA : AR G h a.2.2.2.2.2.2.1 500 gi) (hl5 : T.length ≤ 500) (hg : ∀ k, k < T.length → gi k = iI (T.getD k 0)) (hb : BYT T) {sa : Nat → Nat} (hGT : GT G sa) {B : AB} (hRW : RWf g 0 B) (hn6 : B.2.length = 6) (hw0 : isW T (tokAt T p) (txS 0) = true) : CC G MX12_readSheet [.ref m] h (SHQ G h m a r T B (.inl (3, ((tokAt T p).2.1 : Int)))) := by
  have T100e : ∀ (h1 : xH) (r1 : MR) (g1 : Nat → Int32) (p1 : Nat) (e o1 v1 : Int), (1 ≤ e ∧ e ≤ 3) → MO G h1 m a r1 → RT r r1 → TS r1 T p1 e o1 → AR G h1 a.2.2.2.2.2.2.1 500 gi → AR G h1 r.1 1456 g1 → RWf g1 0 B → FRp [m, r.1] h h1 → RR G MX12_readSheet 100 [(0, .ref m), (1, .int (iI v1))] [] h1 (xm_R MX12_readSheet).cells (xm_R MX12_readSheet).slots (SHQ G h m a r T B (.inl (e, o1))) := by
    intro h1 r1 g1 p1 e o1 v1 he hM1 hK1 hT1 hA1 hR1 hRW1 hF1
    refine r_aload_n dX12_readSheet_100 0 rfl ?_
    refine i_bipush (59) (by decide) dX12_readSheet_101 ?_
    refine p_callV (As := [.int (iI 59)]) (b := m) (rest := []) (w := none) (st' := []) kv_X12_readSheet_365 dX12_readSheet_103 rfl rfl (Nat.le_of_ble_eq_true rfl) (Nat.le_of_ble_eq_true rfl) (x_rv hM1.1 hM1.2 rfl) rfl rfl (c_X12_expect_e hM1 hT1 hA1 hl5 hg hb he) rfl (fun h11 e11 => ?_)
    obtain ⟨r11, hM11, hK11, hT11, F11⟩ := e11
    have hA11 := hA1.obj hM1 F11
    have hQ11 := hK1.tr hK11
    have hZ11 := F11
    have hR11 := hR1.obj hM1 F11
    refine r_aload_n dX12_readSheet_106 0 rfl ?_
    refine m_g_rr (v := r.1) hM11 hQ11.1.1 kf_X12_25 dX12_readSheet_107 ?_
    refine i_const (3) dX12_readSheet_110 ?_
    refine r_dup2 dX12_readSheet_111 rfl rfl ?_
    refine m_ld (v := iI ((B.2.length : Int))) 3 rfl hRW1.1.1.2.2.2.1 hR11 dX12_readSheet_112 (by omega) (by decide) ?_
    refine r_aload_n dX12_readSheet_113 0 rfl ?_
    refine m_g_er (v := e) hM11 hT11.2.2.2.2.2.1 kf_X12_303 dX12_readSheet_114 ?_
    have hq117 := he
    refine i_ifne dX12_readSheet_117 (tgt := 124) (by decide) (by first | exact i13 he | (unfold in32; omega)) (fun _ => ?_) (fun c => absurd c (by omega))
    refine i_const (0) dX12_readSheet_124 ?_
    refine i_add dX12_readSheet_125 ?_
    refine m_st 3 rfl hR11 dX12_readSheet_126 (by omega) (by decide) (fun h12 hR12 F12 => ?_)
    have hM12 := hM11.row hR11 F12
    obtain ⟨g12, hg12⟩ : ∃ y, y = (upd g1 3 (iI ((B.2.length : Int) + 0))) := ⟨_, rfl⟩
    rw [← hg12] at hR12
    refine r_return rfl dX12_readSheet_127 ?_
    exact ⟨rfl, _, g12, hM12, hQ11, hR12, (hF1.tr (FRm hZ11)).tr (FRr F12), ⟨he, ⟨_, hT11⟩, (hRW1).same3 (g' := g12) (fun j hj => by rw [hg12]; exact upd_n hj) (by rw [hg12]; exact upd_s)⟩⟩
  have hn := hRW.1.2.1
  show RR G MX12_readSheet 0 [(0, .ref m)] [] h (xm_R MX12_readSheet).cells (xm_R MX12_readSheet).slots (SHQ G h m a r T B (.inl (3, ((tokAt T p).2.1 : Int))))
  refine r_aload_n dX12_readSheet_0 0 rfl ?_
  refine r_aload_n dX12_readSheet_1 0 rfl ?_
  refine r_ldcSW (hGT.2.2 ("PastryBenchModel", 360, "sheet", 0) (List.mem_of_getElem? (i := 15) rfl)) rfl dX12_readSheet_2 ?_
  refine p_callV (As := [.ref (sa 0)]) (b := m) (rest := [.ref m]) (w := (some (.int (iI (b2 true))))) (st' := [.int (iI (b2 true)), .ref m]) kv_X12_readSheet_322 dX12_readSheet_5 rfl rfl (Nat.le_of_ble_eq_true rfl) (Nat.le_of_ble_eq_true rfl) (x_rv hM.1 hM.2 rfl) rfl rfl (c_X12_isWord_b hM hT hA hl5 hg hb hGT.1 (hGT.2.1 0 (by decide)) hw0) rfl (fun h501 e501 => ?_)
  rw [show h501 = h from e501]
  refine i_const (1) dX12_readSheet_8 ?_
  refine p_callV (As := [.int (iI (b2 true)), .int (iI 1)]) (b := m) (rest := []) (w := none) (st' := []) kv_X12_readSheet_329 dX12_readSheet_9 rfl rfl (Nat.le_of_ble_eq_true rfl) (Nat.le_of_ble_eq_true rfl) (x_rv hM.1 hM.2 rfl) rfl rfl (c_X12_check_t hM hT) rfl (fun h502 e502 => ?_)
  obtain ⟨r502, hM502, hK502, hT502, F502⟩ := e502
  have hA502 := hA.obj hM F502
  have hQ502 := hK502
  have hZ502 := F502
  have hR502 := hR.obj hM F502
  refine r_aload_n dX12_readSheet_12 0 rfl ?_
  refine r_aload_n dX12_readSheet_13 0 rfl ?_
  refine m_g_er (v := 0) hM502 hT502.2.2.2.2.2.1 kf_X12_303 dX12_readSheet_14 ?_
  refine i_ifne dX12_readSheet_17 (tgt := 31) (by decide) ⟨by decide, by decide⟩ (fun c => absurd c (by decide)) (fun _ => ?_)
  refine r_aload_n dX12_readSheet_20 0 rfl ?_
  refine m_g_rr (v := r.1) hM502 hQ502.1.1 kf_X12_25 dX12_readSheet_21 ?_
  refine i_const (3) dX12_readSheet_24 ?_
  refine m_ld (v := iI ((B.2.length : Int))) 3 rfl hRW.1.1.2.2.2.1 hR502 dX12_readSheet_25 (by omega) (by decide) ?_
  refine i_bipush (6) (by decide) dX12_readSheet_26 ?_
  refine i_icmpge dX12_readSheet_28 (tgt := 35) (by decide) (by unfold in32; omega) ⟨by decide, by decide⟩ (fun _ => ?_) (fun c => absurd c (by omega))
  refine i_const (0) dX12_readSheet_35 ?_
  refine i_const (3) dX12_readSheet_36 ?_
  refine p_callV (As := [.int (iI 0), .int (iI 3)]) (b := m) (rest := []) (w := none) (st' := []) kv_X12_readSheet_329 dX12_readSheet_37 rfl rfl (Nat.le_of_ble_eq_true rfl) (Nat.le_of_ble_eq_true rfl) (x_rv hM502.1 hM502.2 rfl) rfl rfl (c_X12_check_f hM502 hT502 (c := 3) (by decide)) rfl (fun h503 e503 => ?_)
  obtain ⟨r503, hM503, hK503, hT503, F503⟩ := e503
  have hA503 := hA502.obj hM502 F503
  have hQ503 := hQ502.tr hK503
  have hZ503 := hZ502.tr F503
  have hR503 := hR502.obj hM502 F503
  refine r_aload_n dX12_readSheet_40 0 rfl ?_
  refine p_callV (As := []) (b := m) (rest := []) (w := none) (st' := []) kv_X12_readSheet_333 dX12_readSheet_41 rfl rfl (Nat.le_of_ble_eq_true rfl) (Nat.le_of_ble_eq_true rfl) (x_rv hM503.1 hM503.2 rfl) rfl rfl (c_X12_advance_e hM503 hT503 hA503 hl5 hg hb (e13 ⟨by decide, by decide⟩) (i13 ⟨by decide, by decide⟩)) rfl (fun h504 e504 => ?_)
  obtain ⟨r504, hM504, hK504, hT504, F504⟩ := e504
  have hA504 := hA503.obj hM503 F504
  have hQ504 := hQ503.tr hK504
  have hZ504 := hZ503.tr F504
  have hR504 := hR503.obj hM503 F504
  refine r_aload_n dX12_readSheet_44 0 rfl ?_
  refine i_const (0) dX12_readSheet_45 ?_
  refine i_bipush (40) (by decide) dX12_readSheet_46 ?_
  refine p_callV (As := [.int (iI 0), .int (iI 40)]) (b := m) (rest := []) (w := (some (.int (iI 0)))) (st' := [.int (iI 0)]) kv_X12_readSheet_357 dX12_readSheet_48 rfl rfl (Nat.le_of_ble_eq_true rfl) (Nat.le_of_ble_eq_true rfl) (x_rv hM504.1 hM504.2 rfl) rfl rfl (c_X12_readNumber_e hM504 hT504 hA504 hl5 hg hb ⟨by decide, by decide⟩ ⟨by decide, by decide⟩ ⟨by decide, by decide⟩) rfl (fun h505 e505 => ?_)
  obtain ⟨r505, hM505, hK505, hT505, F505⟩ := e505
  have hA505 := hA504.obj hM504 F505
  have hQ505 := hQ504.tr hK505
  have hZ505 := hZ504.tr F505
  have hR505 := hR504.obj hM504 F505
  refine r_istore_n (ls' := [(0, .ref m), (1, .int (iI 0))]) dX12_readSheet_51 (by decide) rfl ?_
  refine r_aload_n dX12_readSheet_52 0 rfl ?_
  refine m_g_er (v := 3) hM505 hT505.2.2.2.2.2.1 kf_X12_303 dX12_readSheet_53 ?_
  refine i_ifne dX12_readSheet_56 (tgt := 100) (by decide) ⟨by decide, by decide⟩ (fun _ => ?_) (fun c => absurd c (by decide))
  exact T100e h505 r505 g _ 3 ((tokAt T p).2.1 : Int) 0 ⟨by decide, by decide⟩ hM505 hQ505 hT505 hA505 hR505 hRW (FRm hZ505)
