/-! ===== the parser: a bench ===== -/
def sLayer (T : List Int) (p : Nat) : PR Int := if isLW T p then (match sNum T (tokAt T p).2.2 1 400 with | .inl e => .inl e | .inr a => .inr ((if isW T (tokAt T p) (txS 3) then -a.1 else a.1), a.2)) else sErr T p 1
def sEnd (T : List Int) (p : Nat) : PR (List Int) := if isLW T p then sErr T p 3 else (match sSemi T p with | .inl e => .inl e | .inr a => .inr ([], a.2))
def sRest (T : List Int) : Nat → Nat → PR (List Int)
  | 0, p => sEnd T p
  | f + 1, p => if (tokAt T p).1 = 2 then sEnd T p else (match sLayer T p with | .inl e => .inl e | .inr a => (match sRest T f a.2 with | .inl e => .inl e | .inr b => .inr (a.1 :: b.1, b.2)))
def sSheet (T : List Int) (p : Nat) : PR (Int × List Int) := match sWord T p (txS 0) with | .inl e => .inl e | .inr a => (match sNum T a.2 0 40 with | .inl e => .inl e | .inr b => (match sLayer T b.2 with | .inl e => .inl e | .inr c => (match sRest T 8 c.2 with | .inl e => .inl e | .inr d => .inr ((b.1, c.1 :: d.1), d.2))))
def sFin (T : List Int) (p : Nat) : PR (List (Int × List Int)) := if (tokAt T p).1 = 4 then .inr ([], p) else sErr T p (if isW T (tokAt T p) (txS 0) then 3 else 1)
def sSheets (T : List Int) : Nat → Nat → PR (List (Int × List Int))
  | 0, p => sFin T p
  | f + 1, p => if (tokAt T p).1 = 4 then sFin T p else (match sSheet T p with | .inl e => .inl e | .inr a => (match sSheets T f a.2 with | .inl e => .inl e | .inr b => .inr (a.1 :: b.1, b.2)))
def sHead (T : List Int) (p : Nat) : PR (Int × Int × Int) := match sWord T p (txS 1) with | .inl e => .inl e | .inr a => (match sNum T a.2 0 40 with | .inl e => .inl e | .inr b => (match sNum T b.2 5 35 with | .inl e => .inl e | .inr c => (match sNum T c.2 0 50 with | .inl e => .inl e | .inr d => (match sSemi T d.2 with | .inl e => .inl e | .inr x => .inr ((b.1, c.1, d.1), x.2)))))
def sBench (T : List Int) : PR ((Int × Int × Int) × List (Int × List Int)) := match sHead T 0 with | .inl e => .inl e | .inr a => (match sSheets T 6 a.2 with | .inl e => .inl e | .inr b => .inr ((a.1, b.1), b.2))
def bgS (t : Int) : AS := ([], 0, t, iI 0, false, false, false)
def addLs (B : AB) : List Int → AB
  | [] => B
  | x :: l => addLs (addL B x) l
def addSh (B : AB) : List (Int × List Int) → AB
  | [] => B
  | a :: l => addSh (addLs (B.1, B.2 ++ [bgS a.1]) a.2) l
theorem sNum_t {T : List Int} {p : Nat} {lo hi a : Int} {q : Nat} (h : sNum T p lo hi = .inr (a, q)) : lo ≤ a ∧ a ≤ hi ∧ q = (tokAt T p).2.2 := by
  unfold sNum sErr at h
  split at h
  · split at h
    · cases h
    · split at h
      · cases h
      · cases h; omega
  · cases h
theorem lay_sg {b : Bool} {a : Int} (h : 1 ≤ a) : isB (if b then -a else a) = b ∧ sz (if b then -a else a) = a := by
  unfold isB sz
  cases b
  · simp only [Bool.false_eq_true, if_false]; exact ⟨decide_eq_false (by omega), by rw [if_neg (by omega)]⟩
  · simp only [if_true]; exact ⟨decide_eq_true (by omega), by rw [if_pos (by omega)]; omega⟩
def lastS (B : AB) : AS := B.2.getD (B.2.length - 1) dS
theorem addL_len (B : AB) (x : Int) : (addL B x).2.length = B.2.length := by simp [addL]
theorem addL_last {B : AB} {x : Int} (h : 1 ≤ B.2.length) : lastS (addL B x) = ldS (lastS B) x := by
  unfold lastS addL
  simp only [List.length_set]
  rw [List.getD_eq_getElem?_getD, List.getElem?_set_self (by omega)]; rfl
theorem last_snoc (L : List AS) (s : AS) (hd : Int × Int × Int × Int × Int × Int) : lastS (hd, L ++ [s]) = s := by
  unfold lastS
  simp
theorem dj2 {o to : Nat} {fp : List Nat} (h1 : o ∉ fp) (h2 : to ∉ fp) : ∀ q ∈ fp, q ∉ [o, to] := by
  intro q hq z
  rcases List.mem_cons.mp z with z | z
  · exact h1 (z ▸ hq)
  · exact h2 ((List.mem_singleton.mp z) ▸ hq)
def PB (G : xG) (bo bA : Nat) (fp : List Nat) : xH → Prop := fun h => ∃ B', BN G h bo bA fp B' 
set_option maxRecDepth 20000 in
set_option maxHeartbeats 1000000 in
theorem c_X5_readLayer {G : xG} {h : xH} {K : xK} (hGK : GK G K) {sa : Nat → Nat} (hGT : GT G sa) {o to I : Nat} {T : List Int} (hI : INP G h I T) {p : Nat} (hp : p ≤ T.length) {num : Int} (hP : PAR G h K o to I T (tokAt T p) 0 (-1) num) {bo bA : Nat} {fp : List Nat} {B : AB} (hB : BN G h bo bA fp B) (hfo : o ∉ fp ∧ to ∉ fp ∧ I ∉ fp) (hc : 1 ≤ B.2.length) (hroom : (B.2.getD (B.2.length - 1) dS).1.length < 200) : CC G MX5_readLayer [.ref o, .ref bo] h (fun oo h' => oo = .inl (some (.int (iI (b2 (okP (sLayer T p)))))) ∧ PS G h h' K o to I T fp (sLayer T p) (fun x _ h' => BN G h' bo bA fp (addL B x)) (PB G bo bA fp)) := by
  have hI0 := hI
  have htb := tokAt_b T hp
  have hnt := hI.nt hP
  have hP0 := hP
  have not := hP.ne
  obtain ⟨mo, fo, v, mt, ft, hv⟩ := hP
  obtain ⟨mb, ⟨vb, fb⟩, hbf⟩ := hB.mem
  show RR G MX5_readLayer 0 [(0, .ref o), (1, .ref bo)] [] h (xm_R MX5_readLayer).cells (xm_R MX5_readLayer).slots (fun oo h' => oo = .inl (some (.int (iI (b2 (okP (sLayer T p)))))) ∧ PS G h h' K o to I T fp (sLayer T p) (fun x _ h' => BN G h' bo bA fp (addL B x)) (PB G bo bA fp))
  refine r_aload_n dX5_readLayer_0 0 rfl ?_
  refine p_callV (As := []) (b := o) (rest := []) (w := (some (.int (iI (b2 (isLW T p)))))) (st' := [.int (iI (b2 (isLW T p)))]) kv_X5_readLayer_99 dX5_readLayer_1 rfl rfl (Nat.le_of_ble_eq_true rfl) (Nat.le_of_ble_eq_true rfl) (x_rv mo fo rfl) rfl rfl (c_X5_isLayerWord hGK hGT hI0 hp hP0) rfl (fun h9 e9 => ?_)
  rw [show h9 = h from e9]
  refine i_ifneb dX5_readLayer_4 (tgt := 13) (by decide) (fun c4 => ?_) (fun c4 => ?_)
  · refine r_aload_n dX5_readLayer_13 0 rfl ?_
    refine r_get cl_X5 0 (by decide) kf_X5_12 dX5_readLayer_14 mo fo rfl ?_
    refine r_ldcS (hGT.2.2 ("PastryBench$Parser", 104, "butter", 3) (List.mem_of_getElem? (i := 3) rfl)) rfl dX5_readLayer_17 ?_
    refine p_callV (As := [.ref (sa 3)]) (b := to) (rest := []) (w := (some (.int (iI (b2 (isW T (tokAt T p) (txS 3))))))) (st' := [.int (iI (b2 (isW T (tokAt T p) (txS 3))))]) kv_X5_readLayer_32 dX5_readLayer_19 rfl rfl (Nat.le_of_ble_eq_true rfl) (Nat.le_of_ble_eq_true rfl) (x_rv mt ft rfl) rfl rfl (c_X10_isWord hGK hGT.1 hI0 hP0.2.2 (by omega) (hGT.2.1 3 (by decide))) rfl (fun h9 e9 => ?_)
    rw [show h9 = h from e9]
    refine r_istore_n (ls' := [(0, .ref o), (1, .ref bo), (2, .int (iI (b2 (isW T (tokAt T p) (txS 3)))))]) dX5_readLayer_22 (by decide) rfl ?_
    refine r_aload_n dX5_readLayer_23 0 rfl ?_
    refine r_get cl_X5 0 (by decide) kf_X5_12 dX5_readLayer_24 mo fo rfl ?_
    refine p_callV (As := []) (b := to) (rest := []) (w := none) (st' := []) kv_X5_readLayer_40 dX5_readLayer_27 rfl rfl (Nat.le_of_ble_eq_true rfl) (Nat.le_of_ble_eq_true rfl) (x_rv mt ft rfl) rfl rfl (c_X10_advance hGK hI0 (p := (tokAt T p).2.2) htb.2.2.2.1 mt ft) rfl (fun hA eA => ?_)
    have hFA := eA.2
    have hPA : PAR G hA K o to I T (tokAt T (tokAt T p).2.2) 0 (-1) num := ⟨by rw [hFA.1]; exact mo, (hFA.2 o (by simp [not])).trans fo, eA.1⟩
    have hIA := hI0.fr hFA (fun z => hnt (by simp at z ⊢; exact Or.inr z))
    have hBA := hB.fr hFA (fun q hq z => hfo.2.1 ((List.mem_singleton.mp z) ▸ hq))
    obtain ⟨vA, mtA, ftA, hvA⟩ := hPA.2.2
    obtain ⟨mbA, ⟨vbA, fbA⟩, -⟩ := hBA.mem
    refine r_aload_n dX5_readLayer_30 0 rfl ?_
    refine i_const (1) dX5_readLayer_31 ?_
    refine i_sipush (400) (by decide) dX5_readLayer_32 ?_
    refine p_callV (As := [.int (iI 1), .int (iI 400)]) (b := o) (rest := []) (w := (some (.int (iI (b2 (okP (sNum T (tokAt T p).2.2 1 400))))))) (st' := [.int (iI (b2 (okP (sNum T (tokAt T p).2.2 1 400))))]) kv_X5_readLayer_79 dX5_readLayer_35 rfl rfl (Nat.le_of_ble_eq_true rfl) (Nat.le_of_ble_eq_true rfl) (x_rv hPA.1 hPA.2.1 rfl) rfl rfl (c_X5_takeNumber hGK hIA htb.2.2.2.1 hPA (lo := 1) (hi := 400) (by decide) (by decide)) rfl (fun hC eC => ?_)
    refine i_ifneb dX5_readLayer_38 (tgt := 43) (by decide) (fun c38 => ?_) (fun c38 => ?_)
    · obtain ⟨a, p2, hr⟩ := okP_t c38
      rw [hr] at eC
      obtain ⟨hFC, num2, hn2, hPC, hpC⟩ := eC
      have hn2 : num2 = a := hn2
      subst hn2
      obtain ⟨ha1, ha2, -⟩ := sNum_t hr
      have hBC := hBA.fr hFC (dj2 hfo.1 hfo.2.1)
      obtain ⟨vC, mtC, ftC, hvC⟩ := hPC.2.2
      obtain ⟨mbC, ⟨vbC, fbC⟩, -⟩ := hBC.mem
      have hsg := lay_sg (b := isW T (tokAt T p) (txS 3)) ha1
      have cP := c_X1_addLayer hBC (x := if isW T (tokAt T p) (txS 3) then -num2 else num2) hc hroom
      rw [hsg.1, hsg.2] at cP
      refine r_aload_n dX5_readLayer_43 1 rfl ?_
      refine r_iload_n dX5_readLayer_44 2 rfl ?_
      refine r_aload_n dX5_readLayer_45 0 rfl ?_
      refine r_get cl_X5 3 (by decide) kf_X5_58 dX5_readLayer_46 hPC.1 hPC.2.1 rfl ?_
      refine p_callV (As := [.int (iI (b2 (isW T (tokAt T p) (txS 3)))), .int (iI num2)]) (b := bo) (rest := []) (w := none) (st' := []) kv_X5_readLayer_106 dX5_readLayer_49 rfl rfl (Nat.le_of_ble_eq_true rfl) (Nat.le_of_ble_eq_true rfl) (x_rv mbC fbC rfl) rfl rfl (cP) rfl (fun hD eD => ?_)
      refine i_const (1) dX5_readLayer_52 ?_
      refine r_ireturn rfl (b2_nar true) dX5_readLayer_53 ?_
      have es : sLayer T p = .inr ((if isW T (tokAt T p) (txS 3) then -num2 else num2), p2) := by unfold sLayer; rw [if_pos c4, hr]
      rw [es]
      exact ⟨rfl, FRp.tr (FRp.mono hFA (by simp)) (FRp.tr (FRp.mono hFC (by simp)) (FRp.mono eD.2 (fun q hq => List.mem_append_right _ hq))), num2, eD.1, hPC.fr eD.2 hfo.1 hfo.2.1, hpC⟩
    · refine i_const (0) dX5_readLayer_41 ?_
      refine r_ireturn rfl (b2_nar false) dX5_readLayer_42 ?_
      obtain ⟨er, hr⟩ := okP_f c38
      rw [hr] at eC
      have es : sLayer T p = .inl er := by unfold sLayer; rw [if_pos c4, hr]
      rw [es]
      obtain ⟨hFC, -, t9, n9, hP9⟩ := eC
      exact ⟨rfl, FRp.tr (FRp.mono hFA (by simp)) (FRp.mono hFC (by simp)), ⟨B, hBA.fr hFC (dj2 hfo.1 hfo.2.1)⟩, t9, n9, hP9⟩
  · refine r_aload_n dX5_readLayer_7 0 rfl ?_
    refine i_const (1) dX5_readLayer_8 ?_
    refine p_callV (As := [.int (iI 1)]) (b := o) (rest := []) (w := (some (.int (iI (b2 false))))) (st' := [.int (iI (b2 false))]) kv_X5_readLayer_36 dX5_readLayer_9 rfl rfl (Nat.le_of_ble_eq_true rfl) (Nat.le_of_ble_eq_true rfl) (x_rv mo fo rfl) rfl rfl (c_X5_fail hGK hP0 (c9 := 1)) rfl (fun h9 e9 => ?_)
    refine r_ireturn rfl (b2_nar _) dX5_readLayer_12 ?_
    have es : sLayer T p = sErr T p 1 := by unfold sLayer; rw [if_neg (by rw [c4]; decide)]
    rw [es]
    exact ⟨rfl, FRp.mono e9.2 (by simp), ⟨B, hB.fr e9.2 (dj2 hfo.1 hfo.2.1)⟩, _, _, e9.1⟩
set_option maxRecDepth 20000 in
set_option maxHeartbeats 1000000 in
theorem c_X5_readSheet {G : xG} {h : xH} {K : xK} (hGK : GK G K) {sa : Nat → Nat} (hGT : GT G sa) {o to I : Nat} {T : List Int} (hI : INP G h I T) {p : Nat} (hp : p ≤ T.length) {num : Int} (hP : PAR G h K o to I T (tokAt T p) 0 (-1) num) {bo bA : Nat} {fp : List Nat} {B : AB} (hB : BN G h bo bA fp B) (hfo : o ∉ fp ∧ to ∉ fp ∧ I ∉ fp) (hcap : B.2.length < 6) : CC G MX5_readSheet [.ref o, .ref bo] h (fun oo h' => oo = .inl (some (.int (iI (b2 (okP (sSheet T p)))))) ∧ PS G h h' K o to I T fp (sSheet T p) (fun a _ h' => BN G h' bo bA fp (addLs (B.1, B.2 ++ [bgS a.1]) a.2)) (PB G bo bA fp)) := by
  have hIn : I ∉ [o, to] ++ fp := by have z := hI.nt hP; simp at z ⊢; exact ⟨z.1, z.2, hfo.2.2⟩
  have hL : ∀ i, i ≤ 9 → 1 ≤ i → ∀ (p1 : Nat), p1 ≤ T.length → ∀ (hh : xH) (B1 : AB) (num1 : Int), PAR G hh K o to I T (tokAt T p1) 0 (-1) num1 → BN G hh bo bA fp B1 → 1 ≤ B1.2.length → (lastS B1).1.length + (9 - i) ≤ 9 → FRp ([o, to] ++ fp) h hh → RR G MX5_readSheet 41 [(0, .ref o), (1, .ref bo), (2, .int (iI ((i : Int))))] [] hh (xm_R MX5_readSheet).cells (xm_R MX5_readSheet).slots (fun oo h' => oo = .inl (some (.int (iI (b2 (okP (sRest T (9 - i) p1)))))) ∧ PS G h h' K o to I T fp (sRest T (9 - i) p1) (fun l _ h' => BN G h' bo bA fp (addLs B1 l)) (PB G bo bA fp)) := by
    refine down (fun i hi ih => ?_)
    intro hi1 p1 hp1 hh B1 num1 hP1 hB1 hc1 hr1 hF1
    have hI1 := hI.fr hF1 hIn
    have htb := tokAt_b T hp1
    have hnt := hI1.nt hP1
    have not := hP1.ne
    obtain ⟨v1, mt1, ft1, hv1⟩ := hP1.2.2
    obtain ⟨mb1, ⟨vb1, fb1⟩, -⟩ := hB1.mem
    refine r_iload_n dX5_readSheet_41 2 rfl ?_
    refine i_bipush (9) (by decide) dX5_readSheet_42 ?_
    refine i_icmpge dX5_readSheet_44 (tgt := 76) (by decide) (by unfold in32; omega) ⟨by decide, by decide⟩ (fun c44 => ?_) (fun c44 => ?_)
    · refine r_aload_n dX5_readSheet_76 0 rfl ?_
      refine p_callV (As := []) (b := o) (rest := []) (w := (some (.int (iI (b2 (isLW T p1)))))) (st' := [.int (iI (b2 (isLW T p1)))]) kv_X5_readSheet_99 dX5_readSheet_77 rfl rfl (Nat.le_of_ble_eq_true rfl) (Nat.le_of_ble_eq_true rfl) (x_rv hP1.1 hP1.2.1 rfl) rfl rfl (c_X5_isLayerWord hGK hGT hI1 hp1 hP1) rfl (fun h9 e9 => ?_)
      rw [show h9 = hh from e9]
      refine i_ifeqb dX5_readSheet_80 (tgt := 89) (by decide) (fun c80 => ?_) (fun c80 => ?_)
      · refine r_aload_n dX5_readSheet_89 0 rfl ?_
        refine p_callV (As := []) (b := o) (rest := []) (w := (some (.int (iI (b2 (okP (sSemi T p1))))))) (st' := [.int (iI (b2 (okP (sSemi T p1))))]) kv_X5_readSheet_88 dX5_readSheet_90 rfl rfl (Nat.le_of_ble_eq_true rfl) (Nat.le_of_ble_eq_true rfl) (x_rv hP1.1 hP1.2.1 rfl) rfl rfl (c_X5_takeSemicolon hGK hI1 hp1 hP1) rfl (fun hE eE => ?_)
        refine r_ireturn rfl (b2_nar _) dX5_readSheet_93 ?_
        have es0 : sRest T (9 - i) p1 = sEnd T p1 := by
          first
            | (rw [show 9 - i = 0 by omega]; rfl)
            | (rw [show 9 - i = (9 - (i + 1)) + 1 by omega, sRest, if_pos hk2])
        rw [es0]
        obtain ⟨hFE, hE⟩ := eE
        have es : sEnd T p1 = (match sSemi T p1 with | .inl e => .inl e | .inr a => .inr ([], a.2)) := by unfold sEnd; rw [if_neg (by rw [c80]; decide)]
        rw [es]
        have hBE := hB1.fr hFE (dj2 hfo.1 hfo.2.1)
        cases hz : sSemi T p1 with
        | inl e => rw [hz] at hE; exact ⟨rfl, FRp.tr hF1 (FRp.mono hFE (by simp)), ⟨B1, hBE⟩, hE.2⟩
        | inr a => rw [hz] at hE; obtain ⟨n9, -, hE⟩ := hE; exact ⟨rfl, FRp.tr hF1 (FRp.mono hFE (by simp)), n9, hBE, hE⟩
      · refine r_aload_n dX5_readSheet_83 0 rfl ?_
        refine i_const (3) dX5_readSheet_84 ?_
        refine p_callV (As := [.int (iI 3)]) (b := o) (rest := []) (w := (some (.int (iI (b2 false))))) (st' := [.int (iI (b2 false))]) kv_X5_readSheet_36 dX5_readSheet_85 rfl rfl (Nat.le_of_ble_eq_true rfl) (Nat.le_of_ble_eq_true rfl) (x_rv hP1.1 hP1.2.1 rfl) rfl rfl (c_X5_fail hGK hP1 (c9 := 3)) rfl (fun h9 e9 => ?_)
        refine r_ireturn rfl (b2_nar _) dX5_readSheet_88 ?_
        have es0 : sRest T (9 - i) p1 = sEnd T p1 := by
          first
            | (rw [show 9 - i = 0 by omega]; rfl)
            | (rw [show 9 - i = (9 - (i + 1)) + 1 by omega, sRest, if_pos hk2])
        rw [es0]
        have es : sEnd T p1 = sErr T p1 3 := by unfold sEnd; rw [if_pos c80]
        rw [es]
        exact ⟨rfl, FRp.tr hF1 (FRp.mono e9.2 (by simp)), ⟨B1, hB1.fr e9.2 (dj2 hfo.1 hfo.2.1)⟩, _, _, e9.1⟩
    · refine r_aload_n dX5_readSheet_47 0 rfl ?_
      refine r_get cl_X5 0 (by decide) kf_X5_12 dX5_readSheet_48 hP1.1 hP1.2.1 rfl ?_
      refine r_get cl_X10 3 (by decide) kf_X5_43 dX5_readSheet_51 mt1 ft1 rfl ?_
      refine r_gets (gk_T hGK 2 (by decide)) kg_X5_47 dX5_readSheet_54 ?_
      refine r_acmpeq dX5_readSheet_57 (tgt := 76) (by decide) (fun c57 => ?_) (fun c57 => ?_)
      · have hk2 : (tokAt T p1).1 = 2 := by
          by_cases z : (tokAt T p1).1 = 2
          · exact z
          · exact absurd c57 (gk_Tne hGK htb.1 (by omega) z)
        refine r_aload_n dX5_readSheet_76 0 rfl ?_
        refine p_callV (As := []) (b := o) (rest := []) (w := (some (.int (iI (b2 (isLW T p1)))))) (st' := [.int (iI (b2 (isLW T p1)))]) kv_X5_readSheet_99 dX5_readSheet_77 rfl rfl (Nat.le_of_ble_eq_true rfl) (Nat.le_of_ble_eq_true rfl) (x_rv hP1.1 hP1.2.1 rfl) rfl rfl (c_X5_isLayerWord hGK hGT hI1 hp1 hP1) rfl (fun h9 e9 => ?_)
        rw [show h9 = hh from e9]
        refine i_ifeqb dX5_readSheet_80 (tgt := 89) (by decide) (fun c80 => ?_) (fun c80 => ?_)
        · refine r_aload_n dX5_readSheet_89 0 rfl ?_
          refine p_callV (As := []) (b := o) (rest := []) (w := (some (.int (iI (b2 (okP (sSemi T p1))))))) (st' := [.int (iI (b2 (okP (sSemi T p1))))]) kv_X5_readSheet_88 dX5_readSheet_90 rfl rfl (Nat.le_of_ble_eq_true rfl) (Nat.le_of_ble_eq_true rfl) (x_rv hP1.1 hP1.2.1 rfl) rfl rfl (c_X5_takeSemicolon hGK hI1 hp1 hP1) rfl (fun hE eE => ?_)
          refine r_ireturn rfl (b2_nar _) dX5_readSheet_93 ?_
          have es0 : sRest T (9 - i) p1 = sEnd T p1 := by
            first
              | (rw [show 9 - i = 0 by omega]; rfl)
              | (rw [show 9 - i = (9 - (i + 1)) + 1 by omega, sRest, if_pos hk2])
          rw [es0]
          obtain ⟨hFE, hE⟩ := eE
          have es : sEnd T p1 = (match sSemi T p1 with | .inl e => .inl e | .inr a => .inr ([], a.2)) := by unfold sEnd; rw [if_neg (by rw [c80]; decide)]
          rw [es]
          have hBE := hB1.fr hFE (dj2 hfo.1 hfo.2.1)
          cases hz : sSemi T p1 with
          | inl e => rw [hz] at hE; exact ⟨rfl, FRp.tr hF1 (FRp.mono hFE (by simp)), ⟨B1, hBE⟩, hE.2⟩
          | inr a => rw [hz] at hE; obtain ⟨n9, -, hE⟩ := hE; exact ⟨rfl, FRp.tr hF1 (FRp.mono hFE (by simp)), n9, hBE, hE⟩
        · refine r_aload_n dX5_readSheet_83 0 rfl ?_
          refine i_const (3) dX5_readSheet_84 ?_
          refine p_callV (As := [.int (iI 3)]) (b := o) (rest := []) (w := (some (.int (iI (b2 false))))) (st' := [.int (iI (b2 false))]) kv_X5_readSheet_36 dX5_readSheet_85 rfl rfl (Nat.le_of_ble_eq_true rfl) (Nat.le_of_ble_eq_true rfl) (x_rv hP1.1 hP1.2.1 rfl) rfl rfl (c_X5_fail hGK hP1 (c9 := 3)) rfl (fun h9 e9 => ?_)
          refine r_ireturn rfl (b2_nar _) dX5_readSheet_88 ?_
          have es0 : sRest T (9 - i) p1 = sEnd T p1 := by
            first
              | (rw [show 9 - i = 0 by omega]; rfl)
              | (rw [show 9 - i = (9 - (i + 1)) + 1 by omega, sRest, if_pos hk2])
          rw [es0]
          have es : sEnd T p1 = sErr T p1 3 := by unfold sEnd; rw [if_pos c80]
          rw [es]
          exact ⟨rfl, FRp.tr hF1 (FRp.mono e9.2 (by simp)), ⟨B1, hB1.fr e9.2 (dj2 hfo.1 hfo.2.1)⟩, _, _, e9.1⟩
      · have hk2 : ¬ (tokAt T p1).1 = 2 := fun z => c57 (by rw [z])
        refine r_aload_n dX5_readSheet_60 0 rfl ?_
        refine r_aload_n dX5_readSheet_61 1 rfl ?_
        refine p_callV (As := [.ref bo]) (b := o) (rest := []) (w := (some (.int (iI (b2 (okP (sLayer T p1))))))) (st' := [.int (iI (b2 (okP (sLayer T p1))))]) kv_X5_readSheet_96 dX5_readSheet_62 rfl rfl (Nat.le_of_ble_eq_true rfl) (Nat.le_of_ble_eq_true rfl) (x_rv hP1.1 hP1.2.1 rfl) rfl rfl (c_X5_readLayer hGK hGT hI1 hp1 hP1 hB1 hfo hc1 (by have z := hr1; unfold lastS at z; omega)) rfl (fun hC eC => ?_)
        refine i_ifneb dX5_readSheet_65 (tgt := 70) (by decide) (fun c65 => ?_) (fun c65 => ?_)
        · obtain ⟨a1, a2, hr⟩ := okP_t c65
          rw [hr] at eC
          obtain ⟨hFC, num2, hBC, hPC, hpC⟩ := eC
          refine i_iinc (ls' := [(0, .ref o), (1, .ref bo), (2, .int (iI ((i : Int) + 1)))]) (1) (v := (i : Int) + 1) dX5_readSheet_70 2 rfl (by omega) (by decide) rfl ?_
          refine r_goto dX5_readSheet_73 (tgt := 41) (by decide) ?_
          exact rr_mono (ih (i + 1) (by omega) (by omega) (by omega) a2 hpC _ _ _ hPC hBC (by rw [addL_len]; exact hc1) (by rw [addL_last hc1]; simp only [ldS, List.length_append, List.length_singleton]; omega) (FRp.tr hF1 hFC)) (fun oo h9 q => by
              rw [show 9 - i = (9 - (i + 1)) + 1 by omega]
              have es : sRest T ((9 - (i + 1)) + 1) p1 = (match sRest T (9 - (i + 1)) a2 with | .inl e => .inl e | .inr b => .inr (a1 :: b.1, b.2)) := by rw [sRest, if_neg hk2, hr]
              rw [es]
              obtain ⟨q1, q2, q3⟩ := q
              cases hz : sRest T (9 - (i + 1)) a2 with
              | inl e => rw [hz] at q1 q3; exact ⟨q1, q2, q3⟩
              | inr b => rw [hz] at q1 q3; exact ⟨q1, q2, q3⟩)
        · refine i_const (0) dX5_readSheet_68 ?_
          refine r_ireturn rfl (b2_nar false) dX5_readSheet_69 ?_
          obtain ⟨er, hr⟩ := okP_f c65
          rw [hr] at eC
          have es : sRest T (9 - i) p1 = .inl er := by rw [show 9 - i = (9 - (i + 1)) + 1 by omega, sRest, if_neg hk2, hr]
          rw [es]
          obtain ⟨hFC, hbad, t9, n9, hP9⟩ := eC
          exact ⟨rfl, FRp.tr hF1 hFC, hbad, t9, n9, hP9⟩
  have htb := tokAt_b T hp
  have hnt := hI.nt hP
  have not := hP.ne
  obtain ⟨mo, fo, v, mt, ft, hv⟩ := id hP
  obtain ⟨mb, ⟨vb, fb⟩, hbf⟩ := hB.mem
  show RR G MX5_readSheet 0 [(0, .ref o), (1, .ref bo)] [] h (xm_R MX5_readSheet).cells (xm_R MX5_readSheet).slots (fun oo h' => oo = .inl (some (.int (iI (b2 (okP (sSheet T p)))))) ∧ PS G h h' K o to I T fp (sSheet T p) (fun a _ h' => BN G h' bo bA fp (addLs (B.1, B.2 ++ [bgS a.1]) a.2)) (PB G bo bA fp))
  refine r_aload_n dX5_readSheet_0 0 rfl ?_
  refine r_ldcS (hGT.2.2 ("PastryBench$Parser", 72, "sheet", 0) (List.mem_of_getElem? (i := 0) rfl)) rfl dX5_readSheet_1 ?_
  refine p_callV (As := [.ref (sa 0)]) (b := o) (rest := []) (w := (some (.int (iI (b2 (okP (sWord T p (txS 0)))))))) (st' := [.int (iI (b2 (okP (sWord T p (txS 0)))))]) kv_X5_readSheet_76 dX5_readSheet_3 rfl rfl (Nat.le_of_ble_eq_true rfl) (Nat.le_of_ble_eq_true rfl) (x_rv mo fo rfl) rfl rfl (c_X5_takeWord hGK hGT.1 hI hp hP (hGT.2.1 0 (by decide))) rfl (fun hA eA => ?_)
  refine i_ifeqb dX5_readSheet_6 (tgt := 19) (by decide) (fun c6 => ?_) (fun c6 => ?_)
  · refine i_const (0) dX5_readSheet_19 ?_
    refine r_ireturn rfl (b2_nar false) dX5_readSheet_20 ?_
    obtain ⟨er, hr⟩ := okP_f c6
    rw [hr] at eA
    have es : sSheet T p = .inl er := by unfold sSheet; rw [hr]
    rw [es]
    obtain ⟨hFA, -, t9, n9, hP9⟩ := eA
    exact ⟨rfl, FRp.mono hFA (by simp), ⟨B, hB.fr hFA (dj2 hfo.1 hfo.2.1)⟩, t9, n9, hP9⟩
  · obtain ⟨a0, q1, hr1⟩ := okP_t c6
    rw [hr1] at eA
    obtain ⟨hFA, num1, -, hPA, hpA⟩ := eA
    have hIA := hI.fr hFA (by simpa using hnt)
    obtain ⟨vA, mtA, ftA, hvA⟩ := hPA.2.2
    refine r_aload_n dX5_readSheet_9 0 rfl ?_
    refine i_const (0) dX5_readSheet_10 ?_
    refine i_bipush (40) (by decide) dX5_readSheet_11 ?_
    refine p_callV (As := [.int (iI 0), .int (iI 40)]) (b := o) (rest := []) (w := (some (.int (iI (b2 (okP (sNum T q1 0 40))))))) (st' := [.int (iI (b2 (okP (sNum T q1 0 40))))]) kv_X5_readSheet_79 dX5_readSheet_13 rfl rfl (Nat.le_of_ble_eq_true rfl) (Nat.le_of_ble_eq_true rfl) (x_rv hPA.1 hPA.2.1 rfl) rfl rfl (c_X5_takeNumber hGK hIA hpA hPA (lo := 0) (hi := 40) (by decide) (by decide)) rfl (fun hB9 eB => ?_)
    refine i_ifneb dX5_readSheet_16 (tgt := 21) (by decide) (fun c16 => ?_) (fun c16 => ?_)
    · obtain ⟨a1, q2, hr2⟩ := okP_t c16
      rw [hr2] at eB
      obtain ⟨hFB, num2, hn2, hPB, hpB⟩ := eB
      have hn2 : num2 = a1 := hn2
      subst hn2
      have hFAB := FRp.tr hFA hFB
      have hBB := hB.fr hFAB (dj2 hfo.1 hfo.2.1)
      obtain ⟨vB, mtB, ftB, hvB⟩ := hPB.2.2
      obtain ⟨mbB, ⟨vbB, fbB⟩, -⟩ := hBB.mem
      refine r_aload_n dX5_readSheet_21 1 rfl ?_
      refine r_aload_n dX5_readSheet_22 0 rfl ?_
      refine r_get cl_X5 3 (by decide) kf_X5_58 dX5_readSheet_23 hPB.1 hPB.2.1 rfl ?_
      refine p_callV (As := [.int (iI num2)]) (b := bo) (rest := []) (w := none) (st' := []) kv_X5_readSheet_92 dX5_readSheet_26 rfl rfl (Nat.le_of_ble_eq_true rfl) (Nat.le_of_ble_eq_true rfl) (x_rv mbB fbB rfl) rfl rfl (c_X1_addSheet hBB (T := num2) hcap) rfl (fun hD eD => ?_)
      obtain ⟨hBD, hFD⟩ := eD
      have hPD := hPB.fr hFD hfo.1 hfo.2.1
      have hFDD : FRp ([o, to] ++ fp) h hD := FRp.tr (FRp.mono hFAB (by simp)) (FRp.mono hFD (fun q hq => List.mem_append_right _ hq))
      have hID := hI.fr hFDD hIn
      obtain ⟨vD, mtD, ftD, hvD⟩ := hPD.2.2
      obtain ⟨mbD, ⟨vbD, fbD⟩, -⟩ := hBD.mem
      refine r_aload_n dX5_readSheet_29 0 rfl ?_
      refine r_aload_n dX5_readSheet_30 1 rfl ?_
      refine p_callV (As := [.ref bo]) (b := o) (rest := []) (w := (some (.int (iI (b2 (okP (sLayer T q2))))))) (st' := [.int (iI (b2 (okP (sLayer T q2))))]) kv_X5_readSheet_96 dX5_readSheet_31 rfl rfl (Nat.le_of_ble_eq_true rfl) (Nat.le_of_ble_eq_true rfl) (x_rv hPD.1 hPD.2.1 rfl) rfl rfl (c_X5_readLayer hGK hGT hID hpB hPD hBD hfo (by simp) (by simp)) rfl (fun hE eE => ?_)
      refine i_ifneb dX5_readSheet_34 (tgt := 39) (by decide) (fun c34 => ?_) (fun c34 => ?_)
      · obtain ⟨x1, q3, hr3⟩ := okP_t c34
        rw [hr3] at eE
        obtain ⟨hFE, num3, hBE, hPE, hpE⟩ := eE
        refine i_const (1) dX5_readSheet_39 ?_
        refine r_istore_n (ls' := [(0, .ref o), (1, .ref bo), (2, .int (iI 1))]) dX5_readSheet_40 (by decide) rfl ?_
        refine rr_mono (hL 1 (by omega) (by omega) q3 hpE _ _ _ hPE hBE (by rw [addL_len]; simp) (by rw [addL_last (by simp), last_snoc]; simp [ldS, bgS]) (FRp.tr hFDD hFE)) (fun oo h9 q => ?_)
        have es : sSheet T p = (match sRest T 8 q3 with | .inl e => .inl e | .inr d => .inr ((num2, x1 :: d.1), d.2)) := by unfold sSheet; rw [hr1]; dsimp only; rw [hr2]; dsimp only; rw [hr3]
        rw [es]
        obtain ⟨q1, q2, q3⟩ := q
        cases hz : sRest T 8 _ with
        | inl e => rw [hz] at q1 q3; exact ⟨q1, q2, q3⟩
        | inr b => rw [hz] at q1 q3; exact ⟨q1, q2, q3⟩
      · refine i_const (0) dX5_readSheet_37 ?_
        refine r_ireturn rfl (b2_nar false) dX5_readSheet_38 ?_
        obtain ⟨er, hr⟩ := okP_f c34
        rw [hr] at eE
        have es : sSheet T p = .inl er := by unfold sSheet; rw [hr1]; dsimp only; rw [hr2]; dsimp only; rw [hr]
        rw [es]
        obtain ⟨hFE, hbad, t9, n9, hP9⟩ := eE
        exact ⟨rfl, FRp.tr hFDD hFE, hbad, t9, n9, hP9⟩
    · refine i_const (0) dX5_readSheet_19 ?_
      refine r_ireturn rfl (b2_nar false) dX5_readSheet_20 ?_
      obtain ⟨er, hr⟩ := okP_f c16
      rw [hr] at eB
      have es : sSheet T p = .inl er := by unfold sSheet; rw [hr1]; dsimp only; rw [hr]
      rw [es]
      obtain ⟨hFB, -, t9, n9, hP9⟩ := eB
      have hFAB := FRp.tr hFA hFB
      exact ⟨rfl, FRp.mono hFAB (by simp), ⟨B, hB.fr hFAB (dj2 hfo.1 hfo.2.1)⟩, t9, n9, hP9⟩
