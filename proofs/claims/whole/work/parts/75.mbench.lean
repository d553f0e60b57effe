/-! ===== the reference: a bench that is read ===== -/
def hd6 (x : Int × Int × Int) : Int × Int × Int × Int × Int × Int := (x.1, x.2.1, x.2.2, 0, 0, 0)
def BRR (r' : MR) (g' : Nat → Int32) (T : List Int) (res : PR ((Int × Int × Int) × List (Int × List Int))) : Prop := match res with
  | .inr a => (∃ p' o, TS r' T p' 0 o) ∧ RWf g' 0 (hd6 a.1.1, (a.1.2.map mdS).map exS)
  | .inl e => (1 ≤ e.1 ∧ e.1 ≤ 3) ∧ (∃ p', TS r' T p' e.1 e.2) ∧ ∃ B', RWf g' 0 B'
abbrev BRQ (G : xG) (h : xH) (m : Nat) (a : MA) (r : MR) (T : List Int) (res : PR ((Int × Int × Int) × List (Int × List Int))) : xR → xH → Prop := fun o9 h' => o9 = .inl none ∧ ∃ r' g', MO G h' m a r' ∧ RT r r' ∧ AR G h' r.1 1456 g' ∧ FRp [m, r.1] h h' ∧ BRR r' g' T res
set_option maxRecDepth 20000 in
set_option maxHeartbeats 1000000 in
theorem c_X12_readBench {G : xG} {h : xH} {m : Nat} {a : MA} {r : MR} (hM : MO G h m a r) {g : Nat → Int32} (hR : AR G h r.1 1456 g) {T : List Int} {p : Nat} {o : Int} (hT : TS r T p 0 o) {gi : Nat → Int32} (hA : AR G h a.2.2.2.2.2.2.1 500 gi) (hl5 : T.length ≤ 500) (hg : ∀ k, k < T.length → gi k = iI (T.getD k 0)) (hb : BYT T) {sa : Nat → Nat} (hGT : GT G sa) : CC G MX12_readBench [.ref m] h (BRQ G h m a r T (match sHead T p with | .inl e => .inl e | .inr a => (match sSheets T 6 a.2 with | .inl e => .inl e | .inr b => .inr ((a.1, b.1), b.2)))) := by
  have L53e : ∀ (h1 : xH) (r1 : MR) (g1 : Nat → Int32) (p1 : Nat) (e o1 v1 v2 v3 : Int) (B : AB), (1 ≤ e ∧ e ≤ 3) → MO G h1 m a r1 → RT r r1 → TS r1 T p1 e o1 → AR G h1 a.2.2.2.2.2.2.1 500 gi → AR G h1 r.1 1456 g1 → RWf g1 0 B → FRp [m, r.1] h h1 → RR G MX12_readBench 53 [(0, .ref m), (1, .int (iI v1)), (2, .int (iI v2)), (3, .int (iI v3))] [] h1 (xm_R MX12_readBench).cells (xm_R MX12_readBench).slots (BRQ G h m a r T (.inl (e, o1))) := by
    intro h1 r1 g1 p1 e o1 v1 v2 v3 B he hM1 hK1 hT1 hA1 hR1 hRW1 hF1
    refine r_aload_n dX12_readBench_53 0 rfl ?_
    refine m_g_er (v := e) hM1 hT1.2.2.2.2.2.1 kf_X12_303 dX12_readBench_54 ?_
    refine i_ifne dX12_readBench_57 (tgt := 74) (by decide) (by first | exact i13 he | (unfold in32; omega)) (fun _ => ?_) (fun c => absurd c (by omega))
    refine r_aload_n dX12_readBench_74 0 rfl ?_
    refine p_callV (As := []) (b := m) (rest := []) (w := none) (st' := []) kv_X12_readBench_76 dX12_readBench_75 rfl rfl (Nat.le_of_ble_eq_true rfl) (Nat.le_of_ble_eq_true rfl) (x_rv hM1.1 hM1.2 rfl) rfl rfl (c_X12_expectLayers hM1 (AR.rk hR1 hK1) hRW1) rfl (fun h11 e11 => ?_)
    obtain ⟨g11, hR11, hW11, F11⟩ := e11
    have hM11 := hM1.row (AR.rk hR1 hK1) F11
    rw [hK1.1.1] at hR11 F11
    refine r_return rfl dX12_readBench_78 ?_
    exact ⟨rfl, r1, g11, hM11, hK1, hR11, hF1.tr (FRr F11), he, ⟨_, hT1⟩, ⟨_, hW11⟩⟩
  have L53 : ∀ (hd9 : Int × Int × Int) (f : Nat) (sh : List (Int × List Int)) (p1 : Nat) (o1 : Int) (h1 : xH) (r1 : MR) (g1 : Nat → Int32) (v1 v2 v3 : Int), sh.length + f = 6 → MO G h1 m a r1 → RT r r1 → TS r1 T p1 0 o1 → AR G h1 a.2.2.2.2.2.2.1 500 gi → AR G h1 r.1 1456 g1 → RWf g1 0 (hd6 hd9, sh.map mdS) → FRp [m, r.1] h h1 → RR G MX12_readBench 53 [(0, .ref m), (1, .int (iI v1)), (2, .int (iI v2)), (3, .int (iI v3))] [] h1 (xm_R MX12_readBench).cells (xm_R MX12_readBench).slots (BRQ G h m a r T (match sSheets T f p1 with | .inl e => .inl e | .inr b => .inr ((hd9, sh ++ b.1), b.2))) := by
    intro hd9 f
    induction f with
    | zero =>
      intro sh p1 o1 h1 r1 g1 v1 v2 v3 hlf hM1 hK1 hT1 hA1 hR1 hRW1 hF1
      have tkin := tkM_b T hT1.2.1
      have tkin : in32 (tkM (tokAt T p1).1) := by unfold in32; omega
      by_cases hk4 : (tokAt T p1).1 = 4
      · have es : sSheets T 0 p1 = .inr ([], p1) := by show sFin T p1 = _; unfold sFin; rw [if_pos hk4]
        rw [es]
        dsimp only
        rw [List.append_nil]
        refine r_aload_n dX12_readBench_53 0 rfl ?_
        refine m_g_er (v := 0) hM1 hT1.2.2.2.2.2.1 kf_X12_303 dX12_readBench_54 ?_
        refine i_ifne dX12_readBench_57 (tgt := 74) (by decide) ⟨by decide, by decide⟩ (fun c => absurd c (by decide)) (fun _ => ?_)
        refine r_aload_n dX12_readBench_60 0 rfl ?_
        refine m_g_tk (v := tkM (tokAt T p1).1) hM1 hT1.2.2.2.2.1 kf_X12_294 dX12_readBench_61 ?_
        refine i_ifeq dX12_readBench_64 (tgt := 74) (by decide) (by first | exact tkin | (unfold in32; omega)) (fun _ => ?_) (fun c => absurd (show tkM (tokAt T p1).1 = 0 by rw [hk4]; rfl) c)
        refine r_aload_n dX12_readBench_74 0 rfl ?_
        refine p_callV (As := []) (b := m) (rest := []) (w := none) (st' := []) kv_X12_readBench_76 dX12_readBench_75 rfl rfl (Nat.le_of_ble_eq_true rfl) (Nat.le_of_ble_eq_true rfl) (x_rv hM1.1 hM1.2 rfl) rfl rfl (c_X12_expectLayers hM1 (AR.rk hR1 hK1) hRW1) rfl (fun h41 e41 => ?_)
        obtain ⟨g41, hR41, hW41, F41⟩ := e41
        have hM41 := hM1.row (AR.rk hR1 hK1) F41
        rw [hK1.1.1] at hR41 F41
        refine r_return rfl dX12_readBench_78 ?_
        exact ⟨rfl, r1, g41, hM41, hK1, hR41, hF1.tr (FRr F41), ⟨_, _, hT1⟩, hW41⟩
      · have es : sSheets T 0 p1 = sErr T p1 (if isW T (tokAt T p1) (txS 0) then 3 else 1) := by show sFin T p1 = _; unfold sFin; rw [if_neg hk4]
        rw [es]
        cases hw0 : isW T (tokAt T p1) (txS 0)
        · have cS := c_X12_readSheet_6f hM1 (AR.rk hR1 hK1) hT1 hA1 hl5 hg hb hGT hRW1 (by show (sh.map mdS).length = 6; rw [List.length_map]; omega) hw0
          refine r_aload_n dX12_readBench_53 0 rfl ?_
          refine m_g_er (v := 0) hM1 hT1.2.2.2.2.2.1 kf_X12_303 dX12_readBench_54 ?_
          refine i_ifne dX12_readBench_57 (tgt := 74) (by decide) ⟨by decide, by decide⟩ (fun c => absurd c (by decide)) (fun _ => ?_)
          refine r_aload_n dX12_readBench_60 0 rfl ?_
          refine m_g_tk (v := tkM (tokAt T p1).1) hM1 hT1.2.2.2.2.1 kf_X12_294 dX12_readBench_61 ?_
          refine i_ifeq dX12_readBench_64 (tgt := 74) (by decide) (by first | exact tkin | (unfold in32; omega)) (fun c => absurd (tkM_0 hT1.b.1 c) hk4) (fun _ => ?_)
          refine r_aload_n dX12_readBench_67 0 rfl ?_
          refine p_callV (As := []) (b := m) (rest := []) (w := none) (st' := []) kv_X12_readBench_370 dX12_readBench_68 rfl rfl (Nat.le_of_ble_eq_true rfl) (Nat.le_of_ble_eq_true rfl) (x_rv hM1.1 hM1.2 rfl) rfl rfl (cS) rfl (fun h61 e61 => ?_)
          obtain ⟨r61, g61, hM61, hK61, hR61, F61, hS61⟩ := e61
          rw [hK1.1.1] at hR61 F61
          have hQ61 := hK1.tr hK61
          have hA61 := hA1.fr F61 (nm2 (hM1.ne hA1).symm (ne_sz hA1.2 hR1.2 (by decide)))
          refine r_goto dX12_readBench_71 (tgt := 53) (by decide) ?_
          obtain ⟨hcb, ⟨p8, hT8⟩, hW8⟩ := hS61
          exact L53e h61 r61 g61 p8 1 ((tokAt T p1).2.1 : Int) v1 v2 v3 _ hcb hM61 hQ61 hT8 hA61 hR61 hW8 (hF1.tr F61)
        · have cS := c_X12_readSheet_6t hM1 (AR.rk hR1 hK1) hT1 hA1 hl5 hg hb hGT hRW1 (by show (sh.map mdS).length = 6; rw [List.length_map]; omega) hw0
          refine r_aload_n dX12_readBench_53 0 rfl ?_
          refine m_g_er (v := 0) hM1 hT1.2.2.2.2.2.1 kf_X12_303 dX12_readBench_54 ?_
          refine i_ifne dX12_readBench_57 (tgt := 74) (by decide) ⟨by decide, by decide⟩ (fun c => absurd c (by decide)) (fun _ => ?_)
          refine r_aload_n dX12_readBench_60 0 rfl ?_
          refine m_g_tk (v := tkM (tokAt T p1).1) hM1 hT1.2.2.2.2.1 kf_X12_294 dX12_readBench_61 ?_
          refine i_ifeq dX12_readBench_64 (tgt := 74) (by decide) (by first | exact tkin | (unfold in32; omega)) (fun c => absurd (tkM_0 hT1.b.1 c) hk4) (fun _ => ?_)
          refine r_aload_n dX12_readBench_67 0 rfl ?_
          refine p_callV (As := []) (b := m) (rest := []) (w := none) (st' := []) kv_X12_readBench_370 dX12_readBench_68 rfl rfl (Nat.le_of_ble_eq_true rfl) (Nat.le_of_ble_eq_true rfl) (x_rv hM1.1 hM1.2 rfl) rfl rfl (cS) rfl (fun h61 e61 => ?_)
          obtain ⟨r61, g61, hM61, hK61, hR61, F61, hS61⟩ := e61
          rw [hK1.1.1] at hR61 F61
          have hQ61 := hK1.tr hK61
          have hA61 := hA1.fr F61 (nm2 (hM1.ne hA1).symm (ne_sz hA1.2 hR1.2 (by decide)))
          refine r_goto dX12_readBench_71 (tgt := 53) (by decide) ?_
          obtain ⟨hcb, ⟨p8, hT8⟩, hW8⟩ := hS61
          exact L53e h61 r61 g61 p8 3 ((tokAt T p1).2.1 : Int) v1 v2 v3 _ hcb hM61 hQ61 hT8 hA61 hR61 hW8 (hF1.tr F61)
    | succ f ih =>
      intro sh p1 o1 h1 r1 g1 v1 v2 v3 hlf hM1 hK1 hT1 hA1 hR1 hRW1 hF1
      have tkin := tkM_b T hT1.2.1
      have tkin : in32 (tkM (tokAt T p1).1) := by unfold in32; omega
      by_cases hk4 : (tokAt T p1).1 = 4
      · have es : sSheets T (f + 1) p1 = .inr ([], p1) := by show (if (tokAt T p1).1 = 4 then sFin T p1 else _) = _; rw [if_pos hk4]; unfold sFin; rw [if_pos hk4]
        rw [es]
        dsimp only
        rw [List.append_nil]
        refine r_aload_n dX12_readBench_53 0 rfl ?_
        refine m_g_er (v := 0) hM1 hT1.2.2.2.2.2.1 kf_X12_303 dX12_readBench_54 ?_
        refine i_ifne dX12_readBench_57 (tgt := 74) (by decide) ⟨by decide, by decide⟩ (fun c => absurd c (by decide)) (fun _ => ?_)
        refine r_aload_n dX12_readBench_60 0 rfl ?_
        refine m_g_tk (v := tkM (tokAt T p1).1) hM1 hT1.2.2.2.2.1 kf_X12_294 dX12_readBench_61 ?_
        refine i_ifeq dX12_readBench_64 (tgt := 74) (by decide) (by first | exact tkin | (unfold in32; omega)) (fun _ => ?_) (fun c => absurd (show tkM (tokAt T p1).1 = 0 by rw [hk4]; rfl) c)
        refine r_aload_n dX12_readBench_74 0 rfl ?_
        refine p_callV (As := []) (b := m) (rest := []) (w := none) (st' := []) kv_X12_readBench_76 dX12_readBench_75 rfl rfl (Nat.le_of_ble_eq_true rfl) (Nat.le_of_ble_eq_true rfl) (x_rv hM1.1 hM1.2 rfl) rfl rfl (c_X12_expectLayers hM1 (AR.rk hR1 hK1) hRW1) rfl (fun h101 e101 => ?_)
        obtain ⟨g101, hR101, hW101, F101⟩ := e101
        have hM101 := hM1.row (AR.rk hR1 hK1) F101
        rw [hK1.1.1] at hR101 F101
        refine r_return rfl dX12_readBench_78 ?_
        exact ⟨rfl, r1, g101, hM101, hK1, hR101, hF1.tr (FRr F101), ⟨_, _, hT1⟩, hW101⟩
      · have es : sSheets T (f + 1) p1 = (match sSheet T p1 with | .inl e => .inl e | .inr a => (match sSheets T f a.2 with | .inl e => .inl e | .inr b => .inr (a.1 :: b.1, b.2))) := by show (if (tokAt T p1).1 = 4 then sFin T p1 else _) = _; rw [if_neg hk4] <;> rfl
        rw [es]
        have cS := c_X12_readSheet_k hM1 (AR.rk hR1 hK1) hT1 hA1 hl5 hg hb hGT hRW1 (by show (sh.map mdS).length < 6; rw [List.length_map]; omega)
        cases hss : sSheet T p1 with
        | inl e =>
          rw [hss] at cS
          obtain ⟨c, off⟩ := e
          refine r_aload_n dX12_readBench_53 0 rfl ?_
          refine m_g_er (v := 0) hM1 hT1.2.2.2.2.2.1 kf_X12_303 dX12_readBench_54 ?_
          refine i_ifne dX12_readBench_57 (tgt := 74) (by decide) ⟨by decide, by decide⟩ (fun c => absurd c (by decide)) (fun _ => ?_)
          refine r_aload_n dX12_readBench_60 0 rfl ?_
          refine m_g_tk (v := tkM (tokAt T p1).1) hM1 hT1.2.2.2.2.1 kf_X12_294 dX12_readBench_61 ?_
          refine i_ifeq dX12_readBench_64 (tgt := 74) (by decide) (by first | exact tkin | (unfold in32; omega)) (fun c => absurd (tkM_0 hT1.b.1 c) hk4) (fun _ => ?_)
          refine r_aload_n dX12_readBench_67 0 rfl ?_
          refine p_callV (As := []) (b := m) (rest := []) (w := none) (st' := []) kv_X12_readBench_370 dX12_readBench_68 rfl rfl (Nat.le_of_ble_eq_true rfl) (Nat.le_of_ble_eq_true rfl) (x_rv hM1.1 hM1.2 rfl) rfl rfl (cS) rfl (fun h131 e131 => ?_)
          obtain ⟨r131, g131, hM131, hK131, hR131, F131, hS131⟩ := e131
          rw [hK1.1.1] at hR131 F131
          have hQ131 := hK1.tr hK131
          have hA131 := hA1.fr F131 (nm2 (hM1.ne hA1).symm (ne_sz hA1.2 hR1.2 (by decide)))
          refine r_goto dX12_readBench_71 (tgt := 53) (by decide) ?_
          obtain ⟨hcb, ⟨p8, hT8⟩, hW8⟩ := hS131
          exact L53e h131 r131 g131 p8 c off v1 v2 v3 _ hcb hM131 hQ131 hT8 hA131 hR131 hW8 (hF1.tr F131)
        | inr a9 =>
          rw [hss] at cS
          obtain ⟨x9, q9⟩ := a9
          refine r_aload_n dX12_readBench_53 0 rfl ?_
          refine m_g_er (v := 0) hM1 hT1.2.2.2.2.2.1 kf_X12_303 dX12_readBench_54 ?_
          refine i_ifne dX12_readBench_57 (tgt := 74) (by decide) ⟨by decide, by decide⟩ (fun c => absurd c (by decide)) (fun _ => ?_)
          refine r_aload_n dX12_readBench_60 0 rfl ?_
          refine m_g_tk (v := tkM (tokAt T p1).1) hM1 hT1.2.2.2.2.1 kf_X12_294 dX12_readBench_61 ?_
          refine i_ifeq dX12_readBench_64 (tgt := 74) (by decide) (by first | exact tkin | (unfold in32; omega)) (fun c => absurd (tkM_0 hT1.b.1 c) hk4) (fun _ => ?_)
          refine r_aload_n dX12_readBench_67 0 rfl ?_
          refine p_callV (As := []) (b := m) (rest := []) (w := none) (st' := []) kv_X12_readBench_370 dX12_readBench_68 rfl rfl (Nat.le_of_ble_eq_true rfl) (Nat.le_of_ble_eq_true rfl) (x_rv hM1.1 hM1.2 rfl) rfl rfl (cS) rfl (fun h161 e161 => ?_)
          obtain ⟨r161, g161, hM161, hK161, hR161, F161, hS161⟩ := e161
          rw [hK1.1.1] at hR161 F161
          have hQ161 := hK1.tr hK161
          have hA161 := hA1.fr F161 (nm2 (hM1.ne hA1).symm (ne_sz hA1.2 hR1.2 (by decide)))
          refine r_goto dX12_readBench_71 (tgt := 53) (by decide) ?_
          obtain ⟨⟨o8, hT8⟩, hW8⟩ := hS161
          have q8 := ih (sh ++ [x9]) q9 o8 h161 r161 g161 v1 v2 v3 (by simp; omega) hM161 hQ161 hT8 hA161 hR161 (by rw [List.map_append]; exact hW8) (hF1.tr F161)
          dsimp only
          cases hs9 : sSheets T f q9 with
          | inl e => rw [hs9] at q8; exact q8
          | inr b9 => rw [hs9] at q8; dsimp only at q8 ⊢; rw [List.append_assoc] at q8; exact q8
  show RR G MX12_readBench 0 [(0, .ref m)] [] h (xm_R MX12_readBench).cells (xm_R MX12_readBench).slots (BRQ G h m a r T (match sHead T p with | .inl e => .inl e | .inr a => (match sSheets T 6 a.2 with | .inl e => .inl e | .inr b => .inr ((a.1, b.1), b.2))))
  cases hw0 : isW T (tokAt T p) (txS 1)
  · have es : sHead T p = .inl (1, ((tokAt T p).2.1 : Int)) := by unfold sHead sWord; rw [if_neg (by rw [hw0]; decide)]; rfl
    rw [es]
    refine r_aload_n dX12_readBench_0 0 rfl ?_
    refine r_aload_n dX12_readBench_1 0 rfl ?_
    refine r_ldcSW (hGT.2.2 ("PastryBenchModel", 368, "bench", 1) (List.mem_of_getElem? (i := 16) rfl)) rfl dX12_readBench_2 ?_
    refine p_callV (As := [.ref (sa 1)]) (b := m) (rest := [.ref m]) (w := (some (.int (iI (b2 false))))) (st' := [.int (iI (b2 false)), .ref m]) kv_X12_readBench_322 dX12_readBench_5 rfl rfl (Nat.le_of_ble_eq_true rfl) (Nat.le_of_ble_eq_true rfl) (x_rv hM.1 hM.2 rfl) rfl rfl (c_X12_isWord_b hM hT hA hl5 hg hb hGT.1 (hGT.2.1 1 (by decide)) hw0) rfl (fun h301 e301 => ?_)
    rw [show h301 = h from e301]
    refine i_const (1) dX12_readBench_8 ?_
    refine p_callV (As := [.int (iI (b2 false)), .int (iI 1)]) (b := m) (rest := []) (w := none) (st' := []) kv_X12_readBench_329 dX12_readBench_9 rfl rfl (Nat.le_of_ble_eq_true rfl) (Nat.le_of_ble_eq_true rfl) (x_rv hM.1 hM.2 rfl) rfl rfl (c_X12_check_f hM hT (c := 1) (by decide)) rfl (fun h302 e302 => ?_)
    obtain ⟨r302, hM302, hK302, hT302, F302⟩ := e302
    have hA302 := hA.obj hM F302
    have hQ302 := hK302
    have hZ302 := F302
    have hR302 := hR.obj hM F302
    refine r_aload_n dX12_readBench_12 0 rfl ?_
    refine p_callV (As := []) (b := m) (rest := []) (w := none) (st' := []) kv_X12_readBench_333 dX12_readBench_13 rfl rfl (Nat.le_of_ble_eq_true rfl) (Nat.le_of_ble_eq_true rfl) (x_rv hM302.1 hM302.2 rfl) rfl rfl (c_X12_advance_e hM302 hT302 hA302 hl5 hg hb (e13 ⟨by decide, by decide⟩) (i13 ⟨by decide, by decide⟩)) rfl (fun h303 e303 => ?_)
    obtain ⟨r303, hM303, hK303, hT303, F303⟩ := e303
    have hA303 := hA302.obj hM302 F303
    have hQ303 := hQ302.tr hK303
    have hZ303 := hZ302.tr F303
    have hR303 := hR302.obj hM302 F303
    refine r_aload_n dX12_readBench_16 0 rfl ?_
    refine i_const (0) dX12_readBench_17 ?_
    refine i_bipush (40) (by decide) dX12_readBench_18 ?_
    refine p_callV (As := [.int (iI 0), .int (iI 40)]) (b := m) (rest := []) (w := (some (.int (iI 0)))) (st' := [.int (iI 0)]) kv_X12_readBench_357 dX12_readBench_20 rfl rfl (Nat.le_of_ble_eq_true rfl) (Nat.le_of_ble_eq_true rfl) (x_rv hM303.1 hM303.2 rfl) rfl rfl (c_X12_readNumber_e hM303 hT303 hA303 hl5 hg hb ⟨by decide, by decide⟩ ⟨by decide, by decide⟩ ⟨by decide, by decide⟩) rfl (fun h304 e304 => ?_)
    obtain ⟨r304, hM304, hK304, hT304, F304⟩ := e304
    have hA304 := hA303.obj hM303 F304
    have hQ304 := hQ303.tr hK304
    have hZ304 := hZ303.tr F304
    have hR304 := hR303.obj hM303 F304
    refine r_istore_n (ls' := [(0, .ref m), (1, .int (iI 0))]) dX12_readBench_23 (by decide) rfl ?_
    refine r_aload_n dX12_readBench_24 0 rfl ?_
    refine i_const (5) dX12_readBench_25 ?_
    refine i_bipush (35) (by decide) dX12_readBench_26 ?_
    refine p_callV (As := [.int (iI 5), .int (iI 35)]) (b := m) (rest := []) (w := (some (.int (iI 5)))) (st' := [.int (iI 5)]) kv_X12_readBench_357 dX12_readBench_28 rfl rfl (Nat.le_of_ble_eq_true rfl) (Nat.le_of_ble_eq_true rfl) (x_rv hM304.1 hM304.2 rfl) rfl rfl (c_X12_readNumber_e hM304 hT304 hA304 hl5 hg hb ⟨by decide, by decide⟩ ⟨by decide, by decide⟩ ⟨by decide, by decide⟩) rfl (fun h305 e305 => ?_)
    obtain ⟨r305, hM305, hK305, hT305, F305⟩ := e305
    have hA305 := hA304.obj hM304 F305
    have hQ305 := hQ304.tr hK305
    have hZ305 := hZ304.tr F305
    have hR305 := hR304.obj hM304 F305
    refine r_istore_n (ls' := [(0, .ref m), (1, .int (iI 0)), (2, .int (iI 5))]) dX12_readBench_31 (by decide) rfl ?_
    refine r_aload_n dX12_readBench_32 0 rfl ?_
    refine i_const (0) dX12_readBench_33 ?_
    refine i_bipush (50) (by decide) dX12_readBench_34 ?_
    refine p_callV (As := [.int (iI 0), .int (iI 50)]) (b := m) (rest := []) (w := (some (.int (iI 0)))) (st' := [.int (iI 0)]) kv_X12_readBench_357 dX12_readBench_36 rfl rfl (Nat.le_of_ble_eq_true rfl) (Nat.le_of_ble_eq_true rfl) (x_rv hM305.1 hM305.2 rfl) rfl rfl (c_X12_readNumber_e hM305 hT305 hA305 hl5 hg hb ⟨by decide, by decide⟩ ⟨by decide, by decide⟩ ⟨by decide, by decide⟩) rfl (fun h306 e306 => ?_)
    obtain ⟨r306, hM306, hK306, hT306, F306⟩ := e306
    have hA306 := hA305.obj hM305 F306
    have hQ306 := hQ305.tr hK306
    have hZ306 := hZ305.tr F306
    have hR306 := hR305.obj hM305 F306
    refine r_istore_n (ls' := [(0, .ref m), (1, .int (iI 0)), (2, .int (iI 5)), (3, .int (iI 0))]) dX12_readBench_39 (by decide) rfl ?_
    refine r_aload_n dX12_readBench_40 0 rfl ?_
    refine i_bipush (59) (by decide) dX12_readBench_41 ?_
    refine p_callV (As := [.int (iI 59)]) (b := m) (rest := []) (w := none) (st' := []) kv_X12_readBench_365 dX12_readBench_43 rfl rfl (Nat.le_of_ble_eq_true rfl) (Nat.le_of_ble_eq_true rfl) (x_rv hM306.1 hM306.2 rfl) rfl rfl (c_X12_expect_e hM306 hT306 hA306 hl5 hg hb ⟨by decide, by decide⟩) rfl (fun h307 e307 => ?_)
    obtain ⟨r307, hM307, hK307, hT307, F307⟩ := e307
    have hA307 := hA306.obj hM306 F307
    have hQ307 := hQ306.tr hK307
    have hZ307 := hZ306.tr F307
    have hR307 := hR306.obj hM306 F307
    refine r_aload_n dX12_readBench_46 0 rfl ?_
    refine r_iload_n dX12_readBench_47 1 rfl ?_
    refine r_iload_n dX12_readBench_48 2 rfl ?_
    refine r_iload_n dX12_readBench_49 3 rfl ?_
    refine p_callV (As := [.int (iI 0), .int (iI 5), .int (iI 0)]) (b := m) (rest := []) (w := none) (st' := []) kv_X12_readBench_65 dX12_readBench_50 rfl rfl (Nat.le_of_ble_eq_true rfl) (Nat.le_of_ble_eq_true rfl) (x_rv hM307.1 hM307.2 rfl) rfl rfl (c_X12_begin hM307 (AR.rk hR307 hQ307)) rfl (fun h308 e308 => ?_)
    obtain ⟨g308, hR308, hW308, F308⟩ := e308
    have hM308 := hM307.row (AR.rk hR307 hQ307) F308
    rw [hQ307.1.1] at hR308 F308
    have hA308 := hA307.fr F308 (nm1 (ne_sz hA307.2 hR307.2 (by decide)))
    exact L53e h308 r307 g308 _ 1 ((tokAt T p).2.1 : Int) 0 5 0 _ ⟨by decide, by decide⟩ hM308 hQ307 hT307 hA308 hR308 hW308 ((FRm hZ307).tr (FRr F308))
  · have esw : sWord T p (txS 1) = .inr ((), (tokAt T p).2.2) := by unfold sWord; rw [if_pos hw0]
    cases hsn1 : sNum T ((tokAt T p).2.2) 0 40 with
    | inl e =>
      obtain ⟨c, off⟩ := e
      have es : sHead T p = .inl (c, off) := by unfold sHead; simp only [esw, hsn1]
      rw [es]
      refine r_aload_n dX12_readBench_0 0 rfl ?_
      refine r_aload_n dX12_readBench_1 0 rfl ?_
      refine r_ldcSW (hGT.2.2 ("PastryBenchModel", 368, "bench", 1) (List.mem_of_getElem? (i := 16) rfl)) rfl dX12_readBench_2 ?_
      refine p_callV (As := [.ref (sa 1)]) (b := m) (rest := [.ref m]) (w := (some (.int (iI (b2 true))))) (st' := [.int (iI (b2 true)), .ref m]) kv_X12_readBench_322 dX12_readBench_5 rfl rfl (Nat.le_of_ble_eq_true rfl) (Nat.le_of_ble_eq_true rfl) (x_rv hM.1 hM.2 rfl) rfl rfl (c_X12_isWord_b hM hT hA hl5 hg hb hGT.1 (hGT.2.1 1 (by decide)) hw0) rfl (fun h381 e381 => ?_)
      rw [show h381 = h from e381]
      refine i_const (1) dX12_readBench_8 ?_
      refine p_callV (As := [.int (iI (b2 true)), .int (iI 1)]) (b := m) (rest := []) (w := none) (st' := []) kv_X12_readBench_329 dX12_readBench_9 rfl rfl (Nat.le_of_ble_eq_true rfl) (Nat.le_of_ble_eq_true rfl) (x_rv hM.1 hM.2 rfl) rfl rfl (c_X12_check_t hM hT) rfl (fun h382 e382 => ?_)
      obtain ⟨r382, hM382, hK382, hT382, F382⟩ := e382
      have hA382 := hA.obj hM F382
      have hQ382 := hK382
      have hZ382 := F382
      have hR382 := hR.obj hM F382
      refine r_aload_n dX12_readBench_12 0 rfl ?_
      refine p_callV (As := []) (b := m) (rest := []) (w := none) (st' := []) kv_X12_readBench_333 dX12_readBench_13 rfl rfl (Nat.le_of_ble_eq_true rfl) (Nat.le_of_ble_eq_true rfl) (x_rv hM382.1 hM382.2 rfl) rfl rfl (c_X12_advance_k hM382 hT382 hA382 hl5 hg hb) rfl (fun h383 e383 => ?_)
      obtain ⟨r383, hM383, hK383, hT383, F383⟩ := e383
      have hA383 := hA382.obj hM382 F383
      have hQ383 := hQ382.tr hK383
      have hZ383 := hZ382.tr F383
      have hR383 := hR382.obj hM382 F383
      refine r_aload_n dX12_readBench_16 0 rfl ?_
      refine i_const (0) dX12_readBench_17 ?_
      refine i_bipush (40) (by decide) dX12_readBench_18 ?_
      have hbn := t_X12_readNumber_bad hM383 hT383 hA383 hl5 hg hb ⟨by decide, by decide⟩ ⟨by decide, by decide⟩ hsn1
      refine p_callV (As := [.int (iI 0), .int (iI 40)]) (b := m) (rest := []) (w := (some (.int (iI 0)))) (st' := [.int (iI 0)]) kv_X12_readBench_357 dX12_readBench_20 rfl rfl (Nat.le_of_ble_eq_true rfl) (Nat.le_of_ble_eq_true rfl) (x_rv hM383.1 hM383.2 rfl) rfl rfl (hbn.2) rfl (fun h384 e384 => ?_)
      obtain ⟨r384, hM384, hK384, hT384, F384⟩ := e384
      have hA384 := hA383.obj hM383 F384
      have hQ384 := hQ383.tr hK384
      have hZ384 := hZ383.tr F384
      have hR384 := hR383.obj hM383 F384
      refine r_istore_n (ls' := [(0, .ref m), (1, .int (iI 0))]) dX12_readBench_23 (by decide) rfl ?_
      refine r_aload_n dX12_readBench_24 0 rfl ?_
      refine i_const (5) dX12_readBench_25 ?_
      refine i_bipush (35) (by decide) dX12_readBench_26 ?_
      refine p_callV (As := [.int (iI 5), .int (iI 35)]) (b := m) (rest := []) (w := (some (.int (iI 5)))) (st' := [.int (iI 5)]) kv_X12_readBench_357 dX12_readBench_28 rfl rfl (Nat.le_of_ble_eq_true rfl) (Nat.le_of_ble_eq_true rfl) (x_rv hM384.1 hM384.2 rfl) rfl rfl (c_X12_readNumber_e hM384 hT384 hA384 hl5 hg hb ⟨by decide, by decide⟩ ⟨by decide, by decide⟩ hbn.1) rfl (fun h385 e385 => ?_)
      obtain ⟨r385, hM385, hK385, hT385, F385⟩ := e385
      have hA385 := hA384.obj hM384 F385
      have hQ385 := hQ384.tr hK385
      have hZ385 := hZ384.tr F385
      have hR385 := hR384.obj hM384 F385
      refine r_istore_n (ls' := [(0, .ref m), (1, .int (iI 0)), (2, .int (iI 5))]) dX12_readBench_31 (by decide) rfl ?_
      refine r_aload_n dX12_readBench_32 0 rfl ?_
      refine i_const (0) dX12_readBench_33 ?_
      refine i_bipush (50) (by decide) dX12_readBench_34 ?_
      refine p_callV (As := [.int (iI 0), .int (iI 50)]) (b := m) (rest := []) (w := (some (.int (iI 0)))) (st' := [.int (iI 0)]) kv_X12_readBench_357 dX12_readBench_36 rfl rfl (Nat.le_of_ble_eq_true rfl) (Nat.le_of_ble_eq_true rfl) (x_rv hM385.1 hM385.2 rfl) rfl rfl (c_X12_readNumber_e hM385 hT385 hA385 hl5 hg hb ⟨by decide, by decide⟩ ⟨by decide, by decide⟩ hbn.1) rfl (fun h386 e386 => ?_)
      obtain ⟨r386, hM386, hK386, hT386, F386⟩ := e386
      have hA386 := hA385.obj hM385 F386
      have hQ386 := hQ385.tr hK386
      have hZ386 := hZ385.tr F386
      have hR386 := hR385.obj hM385 F386
      refine r_istore_n (ls' := [(0, .ref m), (1, .int (iI 0)), (2, .int (iI 5)), (3, .int (iI 0))]) dX12_readBench_39 (by decide) rfl ?_
      refine r_aload_n dX12_readBench_40 0 rfl ?_
      refine i_bipush (59) (by decide) dX12_readBench_41 ?_
      refine p_callV (As := [.int (iI 59)]) (b := m) (rest := []) (w := none) (st' := []) kv_X12_readBench_365 dX12_readBench_43 rfl rfl (Nat.le_of_ble_eq_true rfl) (Nat.le_of_ble_eq_true rfl) (x_rv hM386.1 hM386.2 rfl) rfl rfl (c_X12_expect_e hM386 hT386 hA386 hl5 hg hb hbn.1) rfl (fun h387 e387 => ?_)
      obtain ⟨r387, hM387, hK387, hT387, F387⟩ := e387
      have hA387 := hA386.obj hM386 F387
      have hQ387 := hQ386.tr hK387
      have hZ387 := hZ386.tr F387
      have hR387 := hR386.obj hM386 F387
      refine r_aload_n dX12_readBench_46 0 rfl ?_
      refine r_iload_n dX12_readBench_47 1 rfl ?_
      refine r_iload_n dX12_readBench_48 2 rfl ?_
      refine r_iload_n dX12_readBench_49 3 rfl ?_
      refine p_callV (As := [.int (iI 0), .int (iI 5), .int (iI 0)]) (b := m) (rest := []) (w := none) (st' := []) kv_X12_readBench_65 dX12_readBench_50 rfl rfl (Nat.le_of_ble_eq_true rfl) (Nat.le_of_ble_eq_true rfl) (x_rv hM387.1 hM387.2 rfl) rfl rfl (c_X12_begin hM387 (AR.rk hR387 hQ387)) rfl (fun h388 e388 => ?_)
      obtain ⟨g388, hR388, hW388, F388⟩ := e388
      have hM388 := hM387.row (AR.rk hR387 hQ387) F388
      rw [hQ387.1.1] at hR388 F388
      have hA388 := hA387.fr F388 (nm1 (ne_sz hA387.2 hR387.2 (by decide)))
      exact L53e h388 r387 g388 _ c off 0 5 0 _ hbn.1 hM388 hQ387 hT387 hA388 hR388 hW388 ((FRm hZ387).tr (FRr F388))
    | inr b1 =>
      obtain ⟨x1, q1⟩ := b1
      have hv1 := sNum_t hsn1
      cases hsn2 : sNum T q1 5 35 with
      | inl e =>
        obtain ⟨c, off⟩ := e
        have es : sHead T p = .inl (c, off) := by unfold sHead; simp only [esw, hsn1, hsn2]
        rw [es]
        refine r_aload_n dX12_readBench_0 0 rfl ?_
        refine r_aload_n dX12_readBench_1 0 rfl ?_
        refine r_ldcSW (hGT.2.2 ("PastryBenchModel", 368, "bench", 1) (List.mem_of_getElem? (i := 16) rfl)) rfl dX12_readBench_2 ?_
        refine p_callV (As := [.ref (sa 1)]) (b := m) (rest := [.ref m]) (w := (some (.int (iI (b2 true))))) (st' := [.int (iI (b2 true)), .ref m]) kv_X12_readBench_322 dX12_readBench_5 rfl rfl (Nat.le_of_ble_eq_true rfl) (Nat.le_of_ble_eq_true rfl) (x_rv hM.1 hM.2 rfl) rfl rfl (c_X12_isWord_b hM hT hA hl5 hg hb hGT.1 (hGT.2.1 1 (by decide)) hw0) rfl (fun h421 e421 => ?_)
        rw [show h421 = h from e421]
        refine i_const (1) dX12_readBench_8 ?_
        refine p_callV (As := [.int (iI (b2 true)), .int (iI 1)]) (b := m) (rest := []) (w := none) (st' := []) kv_X12_readBench_329 dX12_readBench_9 rfl rfl (Nat.le_of_ble_eq_true rfl) (Nat.le_of_ble_eq_true rfl) (x_rv hM.1 hM.2 rfl) rfl rfl (c_X12_check_t hM hT) rfl (fun h422 e422 => ?_)
        obtain ⟨r422, hM422, hK422, hT422, F422⟩ := e422
        have hA422 := hA.obj hM F422
        have hQ422 := hK422
        have hZ422 := F422
        have hR422 := hR.obj hM F422
        refine r_aload_n dX12_readBench_12 0 rfl ?_
        refine p_callV (As := []) (b := m) (rest := []) (w := none) (st' := []) kv_X12_readBench_333 dX12_readBench_13 rfl rfl (Nat.le_of_ble_eq_true rfl) (Nat.le_of_ble_eq_true rfl) (x_rv hM422.1 hM422.2 rfl) rfl rfl (c_X12_advance_k hM422 hT422 hA422 hl5 hg hb) rfl (fun h423 e423 => ?_)
        obtain ⟨r423, hM423, hK423, hT423, F423⟩ := e423
        have hA423 := hA422.obj hM422 F423
        have hQ423 := hQ422.tr hK423
        have hZ423 := hZ422.tr F423
        have hR423 := hR422.obj hM422 F423
        refine r_aload_n dX12_readBench_16 0 rfl ?_
        refine i_const (0) dX12_readBench_17 ?_
        refine i_bipush (40) (by decide) dX12_readBench_18 ?_
        refine p_callV (As := [.int (iI 0), .int (iI 40)]) (b := m) (rest := []) (w := (some (.int (iI x1)))) (st' := [.int (iI x1)]) kv_X12_readBench_357 dX12_readBench_20 rfl rfl (Nat.le_of_ble_eq_true rfl) (Nat.le_of_ble_eq_true rfl) (x_rv hM423.1 hM423.2 rfl) rfl rfl (t_X12_readNumber_ok hM423 hT423 hA423 hl5 hg hb ⟨by decide, by decide⟩ ⟨by decide, by decide⟩ hsn1) rfl (fun h424 e424 => ?_)
        obtain ⟨r424, hM424, hK424, hT424, F424⟩ := e424
        have hA424 := hA423.obj hM423 F424
        have hQ424 := hQ423.tr hK424
        have hZ424 := hZ423.tr F424
        have hR424 := hR423.obj hM423 F424
        refine r_istore_n (ls' := [(0, .ref m), (1, .int (iI x1))]) dX12_readBench_23 (by decide) rfl ?_
        refine r_aload_n dX12_readBench_24 0 rfl ?_
        refine i_const (5) dX12_readBench_25 ?_
        refine i_bipush (35) (by decide) dX12_readBench_26 ?_
        have hbn := t_X12_readNumber_bad hM424 hT424 hA424 hl5 hg hb ⟨by decide, by decide⟩ ⟨by decide, by decide⟩ hsn2
        refine p_callV (As := [.int (iI 5), .int (iI 35)]) (b := m) (rest := []) (w := (some (.int (iI 5)))) (st' := [.int (iI 5)]) kv_X12_readBench_357 dX12_readBench_28 rfl rfl (Nat.le_of_ble_eq_true rfl) (Nat.le_of_ble_eq_true rfl) (x_rv hM424.1 hM424.2 rfl) rfl rfl (hbn.2) rfl (fun h425 e425 => ?_)
        obtain ⟨r425, hM425, hK425, hT425, F425⟩ := e425
        have hA425 := hA424.obj hM424 F425
        have hQ425 := hQ424.tr hK425
        have hZ425 := hZ424.tr F425
        have hR425 := hR424.obj hM424 F425
        refine r_istore_n (ls' := [(0, .ref m), (1, .int (iI x1)), (2, .int (iI 5))]) dX12_readBench_31 (by decide) rfl ?_
        refine r_aload_n dX12_readBench_32 0 rfl ?_
        refine i_const (0) dX12_readBench_33 ?_
        refine i_bipush (50) (by decide) dX12_readBench_34 ?_
        refine p_callV (As := [.int (iI 0), .int (iI 50)]) (b := m) (rest := []) (w := (some (.int (iI 0)))) (st' := [.int (iI 0)]) kv_X12_readBench_357 dX12_readBench_36 rfl rfl (Nat.le_of_ble_eq_true rfl) (Nat.le_of_ble_eq_true rfl) (x_rv hM425.1 hM425.2 rfl) rfl rfl (c_X12_readNumber_e hM425 hT425 hA425 hl5 hg hb ⟨by decide, by decide⟩ ⟨by decide, by decide⟩ hbn.1) rfl (fun h426 e426 => ?_)
        obtain ⟨r426, hM426, hK426, hT426, F426⟩ := e426
        have hA426 := hA425.obj hM425 F426
        have hQ426 := hQ425.tr hK426
        have hZ426 := hZ425.tr F426
        have hR426 := hR425.obj hM425 F426
        refine r_istore_n (ls' := [(0, .ref m), (1, .int (iI x1)), (2, .int (iI 5)), (3, .int (iI 0))]) dX12_readBench_39 (by decide) rfl ?_
        refine r_aload_n dX12_readBench_40 0 rfl ?_
        refine i_bipush (59) (by decide) dX12_readBench_41 ?_
        refine p_callV (As := [.int (iI 59)]) (b := m) (rest := []) (w := none) (st' := []) kv_X12_readBench_365 dX12_readBench_43 rfl rfl (Nat.le_of_ble_eq_true rfl) (Nat.le_of_ble_eq_true rfl) (x_rv hM426.1 hM426.2 rfl) rfl rfl (c_X12_expect_e hM426 hT426 hA426 hl5 hg hb hbn.1) rfl (fun h427 e427 => ?_)
        obtain ⟨r427, hM427, hK427, hT427, F427⟩ := e427
        have hA427 := hA426.obj hM426 F427
        have hQ427 := hQ426.tr hK427
        have hZ427 := hZ426.tr F427
        have hR427 := hR426.obj hM426 F427
        refine r_aload_n dX12_readBench_46 0 rfl ?_
        refine r_iload_n dX12_readBench_47 1 rfl ?_
        refine r_iload_n dX12_readBench_48 2 rfl ?_
        refine r_iload_n dX12_readBench_49 3 rfl ?_
        refine p_callV (As := [.int (iI x1), .int (iI 5), .int (iI 0)]) (b := m) (rest := []) (w := none) (st' := []) kv_X12_readBench_65 dX12_readBench_50 rfl rfl (Nat.le_of_ble_eq_true rfl) (Nat.le_of_ble_eq_true rfl) (x_rv hM427.1 hM427.2 rfl) rfl rfl (c_X12_begin hM427 (AR.rk hR427 hQ427)) rfl (fun h428 e428 => ?_)
        obtain ⟨g428, hR428, hW428, F428⟩ := e428
        have hM428 := hM427.row (AR.rk hR427 hQ427) F428
        rw [hQ427.1.1] at hR428 F428
        have hA428 := hA427.fr F428 (nm1 (ne_sz hA427.2 hR427.2 (by decide)))
        exact L53e h428 r427 g428 _ c off x1 5 0 _ hbn.1 hM428 hQ427 hT427 hA428 hR428 hW428 ((FRm hZ427).tr (FRr F428))
      | inr b2 =>
        obtain ⟨x2, q2⟩ := b2
        have hv2 := sNum_t hsn2
        cases hsn3 : sNum T q2 0 50 with
        | inl e =>
          obtain ⟨c, off⟩ := e
          have es : sHead T p = .inl (c, off) := by unfold sHead; simp only [esw, hsn1, hsn2, hsn3]
          rw [es]
          refine r_aload_n dX12_readBench_0 0 rfl ?_
          refine r_aload_n dX12_readBench_1 0 rfl ?_
          refine r_ldcSW (hGT.2.2 ("PastryBenchModel", 368, "bench", 1) (List.mem_of_getElem? (i := 16) rfl)) rfl dX12_readBench_2 ?_
          refine p_callV (As := [.ref (sa 1)]) (b := m) (rest := [.ref m]) (w := (some (.int (iI (b2 true))))) (st' := [.int (iI (b2 true)), .ref m]) kv_X12_readBench_322 dX12_readBench_5 rfl rfl (Nat.le_of_ble_eq_true rfl) (Nat.le_of_ble_eq_true rfl) (x_rv hM.1 hM.2 rfl) rfl rfl (c_X12_isWord_b hM hT hA hl5 hg hb hGT.1 (hGT.2.1 1 (by decide)) hw0) rfl (fun h461 e461 => ?_)
          rw [show h461 = h from e461]
          refine i_const (1) dX12_readBench_8 ?_
          refine p_callV (As := [.int (iI (b2 true)), .int (iI 1)]) (b := m) (rest := []) (w := none) (st' := []) kv_X12_readBench_329 dX12_readBench_9 rfl rfl (Nat.le_of_ble_eq_true rfl) (Nat.le_of_ble_eq_true rfl) (x_rv hM.1 hM.2 rfl) rfl rfl (c_X12_check_t hM hT) rfl (fun h462 e462 => ?_)
          obtain ⟨r462, hM462, hK462, hT462, F462⟩ := e462
          have hA462 := hA.obj hM F462
          have hQ462 := hK462
          have hZ462 := F462
          have hR462 := hR.obj hM F462
          refine r_aload_n dX12_readBench_12 0 rfl ?_
          refine p_callV (As := []) (b := m) (rest := []) (w := none) (st' := []) kv_X12_readBench_333 dX12_readBench_13 rfl rfl (Nat.le_of_ble_eq_true rfl) (Nat.le_of_ble_eq_true rfl) (x_rv hM462.1 hM462.2 rfl) rfl rfl (c_X12_advance_k hM462 hT462 hA462 hl5 hg hb) rfl (fun h463 e463 => ?_)
          obtain ⟨r463, hM463, hK463, hT463, F463⟩ := e463
          have hA463 := hA462.obj hM462 F463
          have hQ463 := hQ462.tr hK463
          have hZ463 := hZ462.tr F463
          have hR463 := hR462.obj hM462 F463
          refine r_aload_n dX12_readBench_16 0 rfl ?_
          refine i_const (0) dX12_readBench_17 ?_
          refine i_bipush (40) (by decide) dX12_readBench_18 ?_
          refine p_callV (As := [.int (iI 0), .int (iI 40)]) (b := m) (rest := []) (w := (some (.int (iI x1)))) (st' := [.int (iI x1)]) kv_X12_readBench_357 dX12_readBench_20 rfl rfl (Nat.le_of_ble_eq_true rfl) (Nat.le_of_ble_eq_true rfl) (x_rv hM463.1 hM463.2 rfl) rfl rfl (t_X12_readNumber_ok hM463 hT463 hA463 hl5 hg hb ⟨by decide, by decide⟩ ⟨by decide, by decide⟩ hsn1) rfl (fun h464 e464 => ?_)
          obtain ⟨r464, hM464, hK464, hT464, F464⟩ := e464
          have hA464 := hA463.obj hM463 F464
          have hQ464 := hQ463.tr hK464
          have hZ464 := hZ463.tr F464
          have hR464 := hR463.obj hM463 F464
          refine r_istore_n (ls' := [(0, .ref m), (1, .int (iI x1))]) dX12_readBench_23 (by decide) rfl ?_
          refine r_aload_n dX12_readBench_24 0 rfl ?_
          refine i_const (5) dX12_readBench_25 ?_
          refine i_bipush (35) (by decide) dX12_readBench_26 ?_
          refine p_callV (As := [.int (iI 5), .int (iI 35)]) (b := m) (rest := []) (w := (some (.int (iI x2)))) (st' := [.int (iI x2)]) kv_X12_readBench_357 dX12_readBench_28 rfl rfl (Nat.le_of_ble_eq_true rfl) (Nat.le_of_ble_eq_true rfl) (x_rv hM464.1 hM464.2 rfl) rfl rfl (t_X12_readNumber_ok hM464 hT464 hA464 hl5 hg hb ⟨by decide, by decide⟩ ⟨by decide, by decide⟩ hsn2) rfl (fun h465 e465 => ?_)
          obtain ⟨r465, hM465, hK465, hT465, F465⟩ := e465
          have hA465 := hA464.obj hM464 F465
          have hQ465 := hQ464.tr hK465
          have hZ465 := hZ464.tr F465
          have hR465 := hR464.obj hM464 F465
          refine r_istore_n (ls' := [(0, .ref m), (1, .int (iI x1)), (2, .int (iI x2))]) dX12_readBench_31 (by decide) rfl ?_
          refine r_aload_n dX12_readBench_32 0 rfl ?_
          refine i_const (0) dX12_readBench_33 ?_
          refine i_bipush (50) (by decide) dX12_readBench_34 ?_
          have hbn := t_X12_readNumber_bad hM465 hT465 hA465 hl5 hg hb ⟨by decide, by decide⟩ ⟨by decide, by decide⟩ hsn3
          refine p_callV (As := [.int (iI 0), .int (iI 50)]) (b := m) (rest := []) (w := (some (.int (iI 0)))) (st' := [.int (iI 0)]) kv_X12_readBench_357 dX12_readBench_36 rfl rfl (Nat.le_of_ble_eq_true rfl) (Nat.le_of_ble_eq_true rfl) (x_rv hM465.1 hM465.2 rfl) rfl rfl (hbn.2) rfl (fun h466 e466 => ?_)
          obtain ⟨r466, hM466, hK466, hT466, F466⟩ := e466
          have hA466 := hA465.obj hM465 F466
          have hQ466 := hQ465.tr hK466
          have hZ466 := hZ465.tr F466
          have hR466 := hR465.obj hM465 F466
          refine r_istore_n (ls' := [(0, .ref m), (1, .int (iI x1)), (2, .int (iI x2)), (3, .int (iI 0))]) dX12_readBench_39 (by decide) rfl ?_
          refine r_aload_n dX12_readBench_40 0 rfl ?_
          refine i_bipush (59) (by decide) dX12_readBench_41 ?_
          refine p_callV (As := [.int (iI 59)]) (b := m) (rest := []) (w := none) (st' := []) kv_X12_readBench_365 dX12_readBench_43 rfl rfl (Nat.le_of_ble_eq_true rfl) (Nat.le_of_ble_eq_true rfl) (x_rv hM466.1 hM466.2 rfl) rfl rfl (c_X12_expect_e hM466 hT466 hA466 hl5 hg hb hbn.1) rfl (fun h467 e467 => ?_)
          obtain ⟨r467, hM467, hK467, hT467, F467⟩ := e467
          have hA467 := hA466.obj hM466 F467
          have hQ467 := hQ466.tr hK467
          have hZ467 := hZ466.tr F467
          have hR467 := hR466.obj hM466 F467
          refine r_aload_n dX12_readBench_46 0 rfl ?_
          refine r_iload_n dX12_readBench_47 1 rfl ?_
          refine r_iload_n dX12_readBench_48 2 rfl ?_
          refine r_iload_n dX12_readBench_49 3 rfl ?_
          refine p_callV (As := [.int (iI x1), .int (iI x2), .int (iI 0)]) (b := m) (rest := []) (w := none) (st' := []) kv_X12_readBench_65 dX12_readBench_50 rfl rfl (Nat.le_of_ble_eq_true rfl) (Nat.le_of_ble_eq_true rfl) (x_rv hM467.1 hM467.2 rfl) rfl rfl (c_X12_begin hM467 (AR.rk hR467 hQ467)) rfl (fun h468 e468 => ?_)
          obtain ⟨g468, hR468, hW468, F468⟩ := e468
          have hM468 := hM467.row (AR.rk hR467 hQ467) F468
          rw [hQ467.1.1] at hR468 F468
          have hA468 := hA467.fr F468 (nm1 (ne_sz hA467.2 hR467.2 (by decide)))
          exact L53e h468 r467 g468 _ c off x1 x2 0 _ hbn.1 hM468 hQ467 hT467 hA468 hR468 hW468 ((FRm hZ467).tr (FRr F468))
        | inr b3 =>
          obtain ⟨x3, q3⟩ := b3
          have hv3 := sNum_t hsn3
          cases hsm : sSemi T q3 with
          | inl e =>
            obtain ⟨c, off⟩ := e
            have es : sHead T p = .inl (c, off) := by unfold sHead; simp only [esw, hsn1, hsn2, hsn3, hsm]
            rw [es]
            refine r_aload_n dX12_readBench_0 0 rfl ?_
            refine r_aload_n dX12_readBench_1 0 rfl ?_
            refine r_ldcSW (hGT.2.2 ("PastryBenchModel", 368, "bench", 1) (List.mem_of_getElem? (i := 16) rfl)) rfl dX12_readBench_2 ?_
            refine p_callV (As := [.ref (sa 1)]) (b := m) (rest := [.ref m]) (w := (some (.int (iI (b2 true))))) (st' := [.int (iI (b2 true)), .ref m]) kv_X12_readBench_322 dX12_readBench_5 rfl rfl (Nat.le_of_ble_eq_true rfl) (Nat.le_of_ble_eq_true rfl) (x_rv hM.1 hM.2 rfl) rfl rfl (c_X12_isWord_b hM hT hA hl5 hg hb hGT.1 (hGT.2.1 1 (by decide)) hw0) rfl (fun h501 e501 => ?_)
            rw [show h501 = h from e501]
            refine i_const (1) dX12_readBench_8 ?_
            refine p_callV (As := [.int (iI (b2 true)), .int (iI 1)]) (b := m) (rest := []) (w := none) (st' := []) kv_X12_readBench_329 dX12_readBench_9 rfl rfl (Nat.le_of_ble_eq_true rfl) (Nat.le_of_ble_eq_true rfl) (x_rv hM.1 hM.2 rfl) rfl rfl (c_X12_check_t hM hT) rfl (fun h502 e502 => ?_)
            obtain ⟨r502, hM502, hK502, hT502, F502⟩ := e502
            have hA502 := hA.obj hM F502
            have hQ502 := hK502
            have hZ502 := F502
            have hR502 := hR.obj hM F502
            refine r_aload_n dX12_readBench_12 0 rfl ?_
            refine p_callV (As := []) (b := m) (rest := []) (w := none) (st' := []) kv_X12_readBench_333 dX12_readBench_13 rfl rfl (Nat.le_of_ble_eq_true rfl) (Nat.le_of_ble_eq_true rfl) (x_rv hM502.1 hM502.2 rfl) rfl rfl (c_X12_advance_k hM502 hT502 hA502 hl5 hg hb) rfl (fun h503 e503 => ?_)
            obtain ⟨r503, hM503, hK503, hT503, F503⟩ := e503
            have hA503 := hA502.obj hM502 F503
            have hQ503 := hQ502.tr hK503
            have hZ503 := hZ502.tr F503
            have hR503 := hR502.obj hM502 F503
            refine r_aload_n dX12_readBench_16 0 rfl ?_
            refine i_const (0) dX12_readBench_17 ?_
            refine i_bipush (40) (by decide) dX12_readBench_18 ?_
            refine p_callV (As := [.int (iI 0), .int (iI 40)]) (b := m) (rest := []) (w := (some (.int (iI x1)))) (st' := [.int (iI x1)]) kv_X12_readBench_357 dX12_readBench_20 rfl rfl (Nat.le_of_ble_eq_true rfl) (Nat.le_of_ble_eq_true rfl) (x_rv hM503.1 hM503.2 rfl) rfl rfl (t_X12_readNumber_ok hM503 hT503 hA503 hl5 hg hb ⟨by decide, by decide⟩ ⟨by decide, by decide⟩ hsn1) rfl (fun h504 e504 => ?_)
            obtain ⟨r504, hM504, hK504, hT504, F504⟩ := e504
            have hA504 := hA503.obj hM503 F504
            have hQ504 := hQ503.tr hK504
            have hZ504 := hZ503.tr F504
            have hR504 := hR503.obj hM503 F504
            refine r_istore_n (ls' := [(0, .ref m), (1, .int (iI x1))]) dX12_readBench_23 (by decide) rfl ?_
            refine r_aload_n dX12_readBench_24 0 rfl ?_
            refine i_const (5) dX12_readBench_25 ?_
            refine i_bipush (35) (by decide) dX12_readBench_26 ?_
            refine p_callV (As := [.int (iI 5), .int (iI 35)]) (b := m) (rest := []) (w := (some (.int (iI x2)))) (st' := [.int (iI x2)]) kv_X12_readBench_357 dX12_readBench_28 rfl rfl (Nat.le_of_ble_eq_true rfl) (Nat.le_of_ble_eq_true rfl) (x_rv hM504.1 hM504.2 rfl) rfl rfl (t_X12_readNumber_ok hM504 hT504 hA504 hl5 hg hb ⟨by decide, by decide⟩ ⟨by decide, by decide⟩ hsn2) rfl (fun h505 e505 => ?_)
            obtain ⟨r505, hM505, hK505, hT505, F505⟩ := e505
            have hA505 := hA504.obj hM504 F505
            have hQ505 := hQ504.tr hK505
            have hZ505 := hZ504.tr F505
            have hR505 := hR504.obj hM504 F505
            refine r_istore_n (ls' := [(0, .ref m), (1, .int (iI x1)), (2, .int (iI x2))]) dX12_readBench_31 (by decide) rfl ?_
            refine r_aload_n dX12_readBench_32 0 rfl ?_
            refine i_const (0) dX12_readBench_33 ?_
            refine i_bipush (50) (by decide) dX12_readBench_34 ?_
            refine p_callV (As := [.int (iI 0), .int (iI 50)]) (b := m) (rest := []) (w := (some (.int (iI x3)))) (st' := [.int (iI x3)]) kv_X12_readBench_357 dX12_readBench_36 rfl rfl (Nat.le_of_ble_eq_true rfl) (Nat.le_of_ble_eq_true rfl) (x_rv hM505.1 hM505.2 rfl) rfl rfl (t_X12_readNumber_ok hM505 hT505 hA505 hl5 hg hb ⟨by decide, by decide⟩ ⟨by decide, by decide⟩ hsn3) rfl (fun h506 e506 => ?_)
            obtain ⟨r506, hM506, hK506, hT506, F506⟩ := e506
            have hA506 := hA505.obj hM505 F506
            have hQ506 := hQ505.tr hK506
            have hZ506 := hZ505.tr F506
            have hR506 := hR505.obj hM505 F506
            refine r_istore_n (ls' := [(0, .ref m), (1, .int (iI x1)), (2, .int (iI x2)), (3, .int (iI x3))]) dX12_readBench_39 (by decide) rfl ?_
            refine r_aload_n dX12_readBench_40 0 rfl ?_
            refine i_bipush (59) (by decide) dX12_readBench_41 ?_
            have hbn := t_X12_expect_bad hM506 hT506 hA506 hl5 hg hb hsm
            refine p_callV (As := [.int (iI 59)]) (b := m) (rest := []) (w := none) (st' := []) kv_X12_readBench_365 dX12_readBench_43 rfl rfl (Nat.le_of_ble_eq_true rfl) (Nat.le_of_ble_eq_true rfl) (x_rv hM506.1 hM506.2 rfl) rfl rfl (hbn.2) rfl (fun h507 e507 => ?_)
            obtain ⟨r507, hM507, hK507, hT507, F507⟩ := e507
            have hA507 := hA506.obj hM506 F507
            have hQ507 := hQ506.tr hK507
            have hZ507 := hZ506.tr F507
            have hR507 := hR506.obj hM506 F507
            refine r_aload_n dX12_readBench_46 0 rfl ?_
            refine r_iload_n dX12_readBench_47 1 rfl ?_
            refine r_iload_n dX12_readBench_48 2 rfl ?_
            refine r_iload_n dX12_readBench_49 3 rfl ?_
            refine p_callV (As := [.int (iI x1), .int (iI x2), .int (iI x3)]) (b := m) (rest := []) (w := none) (st' := []) kv_X12_readBench_65 dX12_readBench_50 rfl rfl (Nat.le_of_ble_eq_true rfl) (Nat.le_of_ble_eq_true rfl) (x_rv hM507.1 hM507.2 rfl) rfl rfl (c_X12_begin hM507 (AR.rk hR507 hQ507)) rfl (fun h508 e508 => ?_)
            obtain ⟨g508, hR508, hW508, F508⟩ := e508
            have hM508 := hM507.row (AR.rk hR507 hQ507) F508
            rw [hQ507.1.1] at hR508 F508
            have hA508 := hA507.fr F508 (nm1 (ne_sz hA507.2 hR507.2 (by decide)))
            exact L53e h508 r507 g508 _ c off x1 x2 x3 _ hbn.1 hM508 hQ507 hT507 hA508 hR508 hW508 ((FRm hZ507).tr (FRr F508))
          | inr a9 =>
            obtain ⟨u9, q4⟩ := a9
            have es : sHead T p = .inr ((x1, x2, x3), q4) := by unfold sHead; simp only [esw, hsn1, hsn2, hsn3, hsm]
            rw [es]
            refine r_aload_n dX12_readBench_0 0 rfl ?_
            refine r_aload_n dX12_readBench_1 0 rfl ?_
            refine r_ldcSW (hGT.2.2 ("PastryBenchModel", 368, "bench", 1) (List.mem_of_getElem? (i := 16) rfl)) rfl dX12_readBench_2 ?_
            refine p_callV (As := [.ref (sa 1)]) (b := m) (rest := [.ref m]) (w := (some (.int (iI (b2 true))))) (st' := [.int (iI (b2 true)), .ref m]) kv_X12_readBench_322 dX12_readBench_5 rfl rfl (Nat.le_of_ble_eq_true rfl) (Nat.le_of_ble_eq_true rfl) (x_rv hM.1 hM.2 rfl) rfl rfl (c_X12_isWord_b hM hT hA hl5 hg hb hGT.1 (hGT.2.1 1 (by decide)) hw0) rfl (fun h541 e541 => ?_)
            rw [show h541 = h from e541]
            refine i_const (1) dX12_readBench_8 ?_
            refine p_callV (As := [.int (iI (b2 true)), .int (iI 1)]) (b := m) (rest := []) (w := none) (st' := []) kv_X12_readBench_329 dX12_readBench_9 rfl rfl (Nat.le_of_ble_eq_true rfl) (Nat.le_of_ble_eq_true rfl) (x_rv hM.1 hM.2 rfl) rfl rfl (c_X12_check_t hM hT) rfl (fun h542 e542 => ?_)
            obtain ⟨r542, hM542, hK542, hT542, F542⟩ := e542
            have hA542 := hA.obj hM F542
            have hQ542 := hK542
            have hZ542 := F542
            have hR542 := hR.obj hM F542
            refine r_aload_n dX12_readBench_12 0 rfl ?_
            refine p_callV (As := []) (b := m) (rest := []) (w := none) (st' := []) kv_X12_readBench_333 dX12_readBench_13 rfl rfl (Nat.le_of_ble_eq_true rfl) (Nat.le_of_ble_eq_true rfl) (x_rv hM542.1 hM542.2 rfl) rfl rfl (c_X12_advance_k hM542 hT542 hA542 hl5 hg hb) rfl (fun h543 e543 => ?_)
            obtain ⟨r543, hM543, hK543, hT543, F543⟩ := e543
            have hA543 := hA542.obj hM542 F543
            have hQ543 := hQ542.tr hK543
            have hZ543 := hZ542.tr F543
            have hR543 := hR542.obj hM542 F543
            refine r_aload_n dX12_readBench_16 0 rfl ?_
            refine i_const (0) dX12_readBench_17 ?_
            refine i_bipush (40) (by decide) dX12_readBench_18 ?_
            refine p_callV (As := [.int (iI 0), .int (iI 40)]) (b := m) (rest := []) (w := (some (.int (iI x1)))) (st' := [.int (iI x1)]) kv_X12_readBench_357 dX12_readBench_20 rfl rfl (Nat.le_of_ble_eq_true rfl) (Nat.le_of_ble_eq_true rfl) (x_rv hM543.1 hM543.2 rfl) rfl rfl (t_X12_readNumber_ok hM543 hT543 hA543 hl5 hg hb ⟨by decide, by decide⟩ ⟨by decide, by decide⟩ hsn1) rfl (fun h544 e544 => ?_)
            obtain ⟨r544, hM544, hK544, hT544, F544⟩ := e544
            have hA544 := hA543.obj hM543 F544
            have hQ544 := hQ543.tr hK544
            have hZ544 := hZ543.tr F544
            have hR544 := hR543.obj hM543 F544
            refine r_istore_n (ls' := [(0, .ref m), (1, .int (iI x1))]) dX12_readBench_23 (by decide) rfl ?_
            refine r_aload_n dX12_readBench_24 0 rfl ?_
            refine i_const (5) dX12_readBench_25 ?_
            refine i_bipush (35) (by decide) dX12_readBench_26 ?_
            refine p_callV (As := [.int (iI 5), .int (iI 35)]) (b := m) (rest := []) (w := (some (.int (iI x2)))) (st' := [.int (iI x2)]) kv_X12_readBench_357 dX12_readBench_28 rfl rfl (Nat.le_of_ble_eq_true rfl) (Nat.le_of_ble_eq_true rfl) (x_rv hM544.1 hM544.2 rfl) rfl rfl (t_X12_readNumber_ok hM544 hT544 hA544 hl5 hg hb ⟨by decide, by decide⟩ ⟨by decide, by decide⟩ hsn2) rfl (fun h545 e545 => ?_)
            obtain ⟨r545, hM545, hK545, hT545, F545⟩ := e545
            have hA545 := hA544.obj hM544 F545
            have hQ545 := hQ544.tr hK545
            have hZ545 := hZ544.tr F545
            have hR545 := hR544.obj hM544 F545
            refine r_istore_n (ls' := [(0, .ref m), (1, .int (iI x1)), (2, .int (iI x2))]) dX12_readBench_31 (by decide) rfl ?_
            refine r_aload_n dX12_readBench_32 0 rfl ?_
            refine i_const (0) dX12_readBench_33 ?_
            refine i_bipush (50) (by decide) dX12_readBench_34 ?_
            refine p_callV (As := [.int (iI 0), .int (iI 50)]) (b := m) (rest := []) (w := (some (.int (iI x3)))) (st' := [.int (iI x3)]) kv_X12_readBench_357 dX12_readBench_36 rfl rfl (Nat.le_of_ble_eq_true rfl) (Nat.le_of_ble_eq_true rfl) (x_rv hM545.1 hM545.2 rfl) rfl rfl (t_X12_readNumber_ok hM545 hT545 hA545 hl5 hg hb ⟨by decide, by decide⟩ ⟨by decide, by decide⟩ hsn3) rfl (fun h546 e546 => ?_)
            obtain ⟨r546, hM546, hK546, hT546, F546⟩ := e546
            have hA546 := hA545.obj hM545 F546
            have hQ546 := hQ545.tr hK546
            have hZ546 := hZ545.tr F546
            have hR546 := hR545.obj hM545 F546
            refine r_istore_n (ls' := [(0, .ref m), (1, .int (iI x1)), (2, .int (iI x2)), (3, .int (iI x3))]) dX12_readBench_39 (by decide) rfl ?_
            refine r_aload_n dX12_readBench_40 0 rfl ?_
            refine i_bipush (59) (by decide) dX12_readBench_41 ?_
            refine p_callV (As := [.int (iI 59)]) (b := m) (rest := []) (w := none) (st' := []) kv_X12_readBench_365 dX12_readBench_43 rfl rfl (Nat.le_of_ble_eq_true rfl) (Nat.le_of_ble_eq_true rfl) (x_rv hM546.1 hM546.2 rfl) rfl rfl (t_X12_expect_ok hM546 hT546 hA546 hl5 hg hb hsm) rfl (fun h547 e547 => ?_)
            obtain ⟨r547, hM547, hK547, hT547, F547⟩ := e547
            have hA547 := hA546.obj hM546 F547
            have hQ547 := hQ546.tr hK547
            have hZ547 := hZ546.tr F547
            have hR547 := hR546.obj hM546 F547
            refine r_aload_n dX12_readBench_46 0 rfl ?_
            refine r_iload_n dX12_readBench_47 1 rfl ?_
            refine r_iload_n dX12_readBench_48 2 rfl ?_
            refine r_iload_n dX12_readBench_49 3 rfl ?_
            refine p_callV (As := [.int (iI x1), .int (iI x2), .int (iI x3)]) (b := m) (rest := []) (w := none) (st' := []) kv_X12_readBench_65 dX12_readBench_50 rfl rfl (Nat.le_of_ble_eq_true rfl) (Nat.le_of_ble_eq_true rfl) (x_rv hM547.1 hM547.2 rfl) rfl rfl (c_X12_begin hM547 (AR.rk hR547 hQ547)) rfl (fun h548 e548 => ?_)
            obtain ⟨g548, hR548, hW548, F548⟩ := e548
            have hM548 := hM547.row (AR.rk hR547 hQ547) F548
            rw [hQ547.1.1] at hR548 F548
            have hA548 := hA547.fr F548 (nm1 (ne_sz hA547.2 hR547.2 (by decide)))
            have q8 := L53 (x1, x2, x3) 6 [] q4 _ h548 r547 g548 x1 x2 x3 rfl hM548 hQ547 hT547 hA548 hR548 hW548 ((FRm hZ547).tr (FRr F548))
            dsimp only
            cases hs9 : sSheets T 6 q4 with
            | inl e => rw [hs9] at q8; exact q8
            | inr b9 => rw [hs9] at q8; exact q8
