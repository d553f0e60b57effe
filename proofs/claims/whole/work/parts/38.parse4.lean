/-! ===== the parser: a script ===== -/
def cLo (k : Nat) : Int := if k = 6 then 1 else 0
def cHi (k : Nat) : Int := if k = 6 then 24 else 5
def cTwo (k : Nat) : Bool := decide (k = 0) || (decide (k = 1) || decide (k = 8))
def cLo2 (k : Nat) : Int := if k ≤ 1 then 2 else 0
def cHi2 (k : Nat) : Int := if k ≤ 1 then 4 else if k = 8 then 5 else 0
theorem k9 {k : Nat} (h : k < 9) : k = 0 ∨ k = 1 ∨ k = 2 ∨ k = 3 ∨ k = 4 ∨ k = 5 ∨ k = 6 ∨ k = 7 ∨ k = 8 := by omega
theorem gc_lo {G : xG} {K : xK} (h : GK G K) {k : Nat} (hk : k < 9) : x_zz G (va_OF "PastryBench$Command" "firstLow" "I" (.int (iI (cLo k))) (K.2.2.1 k)) := by
  have z := gk_Cf h k hk 0 rfl
  rcases k9 hk with e | e | e | e | e | e | e | e | e <;> subst e <;> exact z
theorem gc_hi {G : xG} {K : xK} (h : GK G K) {k : Nat} (hk : k < 9) : x_zz G (va_OF "PastryBench$Command" "firstHigh" "I" (.int (iI (cHi k))) (K.2.2.1 k)) := by
  have z := gk_Cf h k hk 1 rfl
  rcases k9 hk with e | e | e | e | e | e | e | e | e <;> subst e <;> exact z
theorem gc_two {G : xG} {K : xK} (h : GK G K) {k : Nat} (hk : k < 9) : x_zz G (va_OF "PastryBench$Command" "hasSecond" "Z" (.int (iI (b2 (cTwo k)))) (K.2.2.1 k)) := by
  have z := gk_Cf h k hk 2 rfl
  rcases k9 hk with e | e | e | e | e | e | e | e | e <;> subst e <;> exact z
theorem gc_lo2 {G : xG} {K : xK} (h : GK G K) {k : Nat} (hk : k < 9) : x_zz G (va_OF "PastryBench$Command" "secondLow" "I" (.int (iI (cLo2 k))) (K.2.2.1 k)) := by
  have z := gk_Cf h k hk 3 rfl
  rcases k9 hk with e | e | e | e | e | e | e | e | e <;> subst e <;> exact z
theorem gc_hi2 {G : xG} {K : xK} (h : GK G K) {k : Nat} (hk : k < 9) : x_zz G (va_OF "PastryBench$Command" "secondHigh" "I" (.int (iI (cHi2 k))) (K.2.2.1 k)) := by
  have z := gk_Cf h k hk 4 rfl
  rcases k9 hk with e | e | e | e | e | e | e | e | e <;> subst e <;> exact z
theorem c_rng {k : Nat} (h : k < 9) : (0 ≤ cLo k ∧ cLo k ≤ 1000) ∧ (0 ≤ cHi k ∧ cHi k ≤ 1000) ∧ (0 ≤ cLo2 k ∧ cLo2 k ≤ 1000) ∧ (0 ≤ cHi2 k ∧ cHi2 k ≤ 1000) := by
  rcases k9 h with e | e | e | e | e | e | e | e | e <;> subst e <;> decide
def cw (T : List Int) (p k : Nat) : Bool := isW T (tokAt T p) (txS (4 + k))
def fndF (T : List Int) (p : Nat) : Nat → Nat → Int
  | 0, _ => -1
  | f + 1, k => if cw T p k then (k : Int) else fndF T p f (k + 1)
def fndC (T : List Int) (p : Nat) : Int := fndF T p 9 0
theorem fndF_b (T : List Int) (p : Nat) : ∀ f k, fndF T p f k = -1 ∨ ((k : Int) ≤ fndF T p f k ∧ fndF T p f k < k + f) := by
  intro f
  induction f with
  | zero => intro k; exact Or.inl rfl
  | succ f ih =>
    intro k
    unfold fndF
    split
    · exact Or.inr ⟨Int.le_refl _, by omega⟩
    · rcases ih (k + 1) with h | h
      · exact Or.inl h
      · exact Or.inr ⟨by omega, by omega⟩
theorem fndC_b (T : List Int) (p : Nat) : fndC T p = -1 ∨ (0 ≤ fndC T p ∧ fndC T p < 9) := by
  rcases fndF_b T p 9 0 with h | h
  · exact Or.inl h
  · exact Or.inr ⟨by have := h.1; unfold fndC; omega, by have := h.2; unfold fndC; omega⟩
def sSec (T : List Int) (k p : Nat) : PR Int := if cTwo k then sNum T p (cLo2 k) (cHi2 k) else .inr (0, p)
def sCmd (T : List Int) (p : Nat) : PR CM := if fndC T p < 0 then sErr T p 1 else (match sNum T (tokAt T p).2.2 (cLo (fndC T p).toNat) (cHi (fndC T p).toNat) with | .inl e => .inl e | .inr a => (match sSec T (fndC T p).toNat a.2 with | .inl e => .inl e | .inr b => (match sSemi T b.2 with | .inl e => .inl e | .inr c => .inr (((fndC T p).toNat, a.1, b.1), c.2))))
def sFinC (T : List Int) (p : Nat) : PR (List CM) := if (tokAt T p).1 = 4 then .inr ([], p) else sErr T p (if 0 ≤ fndC T p then 3 else 1)
def sCmds (T : List Int) : Nat → Nat → PR (List CM)
  | 0, p => sFinC T p
  | f + 1, p => if (tokAt T p).1 = 4 then sFinC T p else (match sCmd T p with | .inl e => .inl e | .inr a => (match sCmds T f a.2 with | .inl e => .inl e | .inr b => .inr (a.1 :: b.1, b.2)))
def sScript (T : List Int) : PR (List CM) := sCmds T 20 0
theorem sNum_r {T : List Int} {p : Nat} {lo hi a : Int} {q : Nat} (h : sNum T p lo hi = .inr (a, q)) (hlo : 0 ≤ lo) (hhi : hi ≤ 1000) : in32 a := by
  obtain ⟨h1, h2, -⟩ := sNum_t h
  unfold in32; omega
def PSc (G : xG) (K : xK) (so ca cb cc : Nat) : xH → Prop := fun h => ∃ cs, SCR G h K so ca cb cc cs
set_option maxRecDepth 20000 in
set_option maxHeartbeats 1000000 in
theorem c_X5_findCommand {G : xG} {h : xH} {K : xK} {sa : Nat → Nat} (hGC : GC G K sa) (hGT : GT G sa) {o to I : Nat} {T : List Int} (hI : INP G h I T) {p : Nat} (hp : p ≤ T.length) {num : Int} (hP : PAR G h K o to I T (tokAt T p) 0 (-1) num) : CC G MX5_findCommand [.ref o] h (qI (fndC T p) h) := by
  have hGK := hGC.1
  have htb := tokAt_b T hp
  have L : ∀ k, k ≤ 9 → fndF T p (9 - k) k = fndC T p → RR G MX5_findCommand 2 [(0, .ref o), (1, .int (iI ((k : Int))))] [] h (xm_R MX5_findCommand).cells (xm_R MX5_findCommand).slots (qI (fndC T p) h) := by
    refine down (fun k hk ih => ?_)
    intro hf
    obtain ⟨v, mt, ft, hv⟩ := hP.2.2
    refine r_iload_n dX5_findCommand_2 1 rfl ?_
    refine r_getsN hGC.2.2.1 hGC.2.2.2.2.2.2 dX5_findCommand_3 ?_
    refine i_tlen hGC.2.2.2.1 dX5_findCommand_6 ?_
    refine i_icmpge dX5_findCommand_7 (tgt := 36) (by decide) (by unfold in32; omega) ⟨by decide, by decide⟩ (fun c7 => ?_) (fun c7 => ?_)
    · refine i_const (-1) dX5_findCommand_36 ?_
      refine r_ireturn rfl rfl dX5_findCommand_37 ?_
      have e : fndC T p = -1 := by rw [← hf, show 9 - k = 0 by omega]; rfl
      rw [e]
      exact ⟨rfl, rfl⟩
    · have hk9 : k < 9 := by omega
      refine r_aload_n dX5_findCommand_10 0 rfl ?_
      refine r_get cl_X5 0 (by decide) kf_X5_12 dX5_findCommand_11 hP.1 hP.2.1 rfl ?_
      refine r_getsN hGC.2.2.1 hGC.2.2.2.2.2.2 dX5_findCommand_14 ?_
      refine r_iload_n dX5_findCommand_17 1 rfl ?_
      refine i_tq hGC.2.2.2.1 k rfl dX5_findCommand_18 (by omega) (by omega) rfl ?_
      refine r_getc (hGC.2.1 k hk9) kg_X5_127 dX5_findCommand_19 ?_
      refine p_callV (As := [.ref (sa (4 + k))]) (b := to) (rest := []) (w := (some (.int (iI (b2 (cw T p k)))))) (st' := [.int (iI (b2 (cw T p k)))]) kv_X5_findCommand_32 dX5_findCommand_22 rfl rfl (Nat.le_of_ble_eq_true rfl) (Nat.le_of_ble_eq_true rfl) (x_rv mt ft rfl) rfl rfl (c_X10_isWord hGK hGT.1 hI hP.2.2 (by omega) (hGT.2.1 (4 + k) (by omega))) rfl (fun h9 e9 => ?_)
      rw [show h9 = h from e9]
      refine i_ifeqb dX5_findCommand_25 (tgt := 30) (by decide) (fun c25 => ?_) (fun c25 => ?_)
      · refine i_iinc (ls' := [(0, .ref o), (1, .int (iI ((k : Int) + 1)))]) (1) (v := (k : Int) + 1) dX5_findCommand_30 1 rfl (by omega) (by decide) rfl ?_
        refine r_goto dX5_findCommand_33 (tgt := 2) (by decide) ?_
        exact ih (k + 1) (by omega) (by omega) (by rw [← hf, show 9 - k = (9 - (k + 1)) + 1 by omega, fndF, if_neg (by rw [c25]; decide)])
      · refine r_iload_n dX5_findCommand_28 1 rfl ?_
        refine r_ireturn rfl rfl dX5_findCommand_29 ?_
        have e : fndC T p = (k : Int) := by rw [← hf, show 9 - k = (9 - (k + 1)) + 1 by omega, fndF, if_pos c25]
        rw [e]
        exact ⟨rfl, rfl⟩
  show RR G MX5_findCommand 0 [(0, .ref o)] [] h (xm_R MX5_findCommand).cells (xm_R MX5_findCommand).slots (qI (fndC T p) h)
  refine i_const (0) dX5_findCommand_0 ?_
  refine r_istore_n (ls' := [(0, .ref o), (1, .int (iI 0))]) dX5_findCommand_1 (by decide) rfl ?_
  exact L 0 (by omega) rfl
theorem SCRfr2 {G : xG} {h h' : xH} {K : xK} {o to I so ca cb cc : Nat} {cs : List CM} (hS : SCR G h K so ca cb cc cs) (hF : FRp [o, to] h h') (hds : ∀ q ∈ [so, ca, cb, cc], q ≠ o ∧ q ≠ to ∧ q ≠ I) : SCR G h' K so ca cb cc cs := by
  have k : ∀ q ∈ [so, ca, cb, cc], q ∉ [o, to] := fun q hq z => by
    rcases List.mem_cons.mp z with z | z
    · exact (hds q hq).1 z
    · exact (hds q hq).2.1 (List.mem_singleton.mp z)
  exact hS.fr hF (k _ (by simp)) (k _ (by simp)) (k _ (by simp)) (k _ (by simp))
theorem PARfr2 {G : xG} {h h' : xH} {K : xK} {o to I so ca cb cc : Nat} {T : List Int} {t : Nat × Nat × Nat} {c off num : Int} (hP : PAR G h K o to I T t c off num) (hF : FRp [so, ca, cb, cc] h h') (hds : ∀ q ∈ [so, ca, cb, cc], q ≠ o ∧ q ≠ to ∧ q ≠ I) : PAR G h' K o to I T t c off num :=
  hP.fr hF (fun z => (hds _ z).1 rfl) (fun z => (hds _ z).2.1 rfl)
theorem notin_ot {o to I so ca cb cc : Nat} (h : I ∉ [o, to]) (hds : ∀ q ∈ [so, ca, cb, cc], q ≠ o ∧ q ≠ to ∧ q ≠ I) : I ∉ [o, to] ++ [so, ca, cb, cc] := by
  intro z
  rcases List.mem_append.mp z with z | z
  · exact h z
  · exact (hds I z).2.2 rfl
set_option maxRecDepth 20000 in
set_option maxHeartbeats 1000000 in
theorem c_X5_readCommand {G : xG} {h : xH} {K : xK} {sa : Nat → Nat} (hGC : GC G K sa) (hGT : GT G sa) {o to I : Nat} {T : List Int} (hI : INP G h I T) {p : Nat} (hp : p ≤ T.length) {num : Int} (hP : PAR G h K o to I T (tokAt T p) 0 (-1) num) {so ca cb cc : Nat} {cs : List CM} (hS : SCR G h K so ca cb cc cs) (hds : ∀ q ∈ [so, ca, cb, cc], q ≠ o ∧ q ≠ to ∧ q ≠ I) (hl20 : cs.length < 20) : CC G MX5_readCommand [.ref o, .ref so] h (fun oo h' => oo = .inl (some (.int (iI (b2 (okP (sCmd T p)))))) ∧ PS G h h' K o to I T [so, ca, cb, cc] (sCmd T p) (fun x _ h' => SCR G h' K so ca cb cc (cs ++ [x])) (PSc G K so ca cb cc)) := by
  have hGK := hGC.1
  have htb := tokAt_b T hp
  have hnt := hI.nt hP
  have hfb := fndC_b T p
  have hl20 : cs.length < 20 := hl20
  obtain ⟨mo, fo, v, mt, ft, hv⟩ := id hP
  show RR G MX5_readCommand 0 [(0, .ref o), (1, .ref so)] [] h (xm_R MX5_readCommand).cells (xm_R MX5_readCommand).slots (fun oo h' => oo = .inl (some (.int (iI (b2 (okP (sCmd T p)))))) ∧ PS G h h' K o to I T [so, ca, cb, cc] (sCmd T p) (fun x _ h' => SCR G h' K so ca cb cc (cs ++ [x])) (PSc G K so ca cb cc))
  refine r_aload_n dX5_readCommand_0 0 rfl ?_
  refine p_callV (As := []) (b := o) (rest := []) (w := (some (.int (iI (fndC T p))))) (st' := [.int (iI (fndC T p))]) kv_X5_readCommand_119 dX5_readCommand_1 rfl rfl (Nat.le_of_ble_eq_true rfl) (Nat.le_of_ble_eq_true rfl) (x_rv mo fo rfl) rfl rfl (c_X5_findCommand hGC hGT hI hp hP) rfl (fun h9 e9 => ?_)
  rw [show h9 = h from e9]
  refine r_istore_n (ls' := [(0, .ref o), (1, .ref so), (2, .int (iI (fndC T p)))]) dX5_readCommand_4 (by decide) rfl ?_
  refine r_iload_n dX5_readCommand_5 2 rfl ?_
  refine i_ifge dX5_readCommand_6 (tgt := 15) (by decide) (by unfold in32; omega) (fun c6 => ?_) (fun c6 => ?_)
  · have hk9 : ((fndC T p).toNat) < 9 := by omega
    have hkn : fndC T p = (((fndC T p).toNat) : Int) := by omega
    have hcr := c_rng hk9
    refine r_getsN hGC.2.2.1 hGC.2.2.2.2.2.2 dX5_readCommand_15 ?_
    refine r_iload_n dX5_readCommand_18 2 rfl ?_
    refine i_tq hGC.2.2.2.1 ((fndC T p).toNat) hkn dX5_readCommand_19 (by omega) (by omega) rfl ?_
    refine r_astore_n (ls' := [(0, .ref o), (1, .ref so), (2, .int (iI (fndC T p))), (3, .ref (K.2.2.1 ((fndC T p).toNat)))]) dX5_readCommand_20 (by decide) rfl ?_
    refine r_aload_n dX5_readCommand_21 0 rfl ?_
    refine r_get cl_X5 0 (by decide) kf_X5_12 dX5_readCommand_22 mo fo rfl ?_
    refine p_callV (As := []) (b := to) (rest := []) (w := none) (st' := []) kv_X5_readCommand_40 dX5_readCommand_25 rfl rfl (Nat.le_of_ble_eq_true rfl) (Nat.le_of_ble_eq_true rfl) (x_rv mt ft rfl) rfl rfl (c_X10_advance hGK hI (p := (tokAt T p).2.2) htb.2.2.2.1 mt ft) rfl (fun hA eA => ?_)
    have hFA : FRp [o, to] h hA := FRp.mono eA.2 (by simp)
    have hPA : PAR G hA K o to I T (tokAt T (tokAt T p).2.2) 0 (-1) num := ⟨by rw [hFA.1]; exact hP.1, (eA.2.2 o (by simp [hP.ne])).trans hP.2.1, eA.1⟩
    have hIA := hI.fr hFA hnt
    obtain ⟨vA, mtA, ftA, hvA⟩ := hPA.2.2
    refine r_aload_n dX5_readCommand_28 0 rfl ?_
    refine r_aload_n dX5_readCommand_29 3 rfl ?_
    refine r_getc (gc_lo hGC.1 hk9) kg_X5_133 dX5_readCommand_30 ?_
    refine r_aload_n dX5_readCommand_33 3 rfl ?_
    refine r_getc (gc_hi hGC.1 hk9) kg_X5_136 dX5_readCommand_34 ?_
    refine p_callV (As := [.int (iI (cLo ((fndC T p).toNat))), .int (iI (cHi ((fndC T p).toNat)))]) (b := o) (rest := []) (w := (some (.int (iI (b2 (okP (sNum T (tokAt T p).2.2 (cLo ((fndC T p).toNat)) (cHi ((fndC T p).toNat))))))))) (st' := [.int (iI (b2 (okP (sNum T (tokAt T p).2.2 (cLo ((fndC T p).toNat)) (cHi ((fndC T p).toNat))))))]) kv_X5_readCommand_79 dX5_readCommand_37 rfl rfl (Nat.le_of_ble_eq_true rfl) (Nat.le_of_ble_eq_true rfl) (x_rv hPA.1 hPA.2.1 rfl) rfl rfl (c_X5_takeNumber hGK hIA htb.2.2.2.1 hPA (lo := cLo ((fndC T p).toNat)) (hi := cHi ((fndC T p).toNat)) hcr.1 hcr.2.1) rfl (fun hB eB => ?_)
    refine i_ifneb dX5_readCommand_40 (tgt := 45) (by decide) (fun c40 => ?_) (fun c40 => ?_)
    · obtain ⟨a1, q1, hr1⟩ := okP_t c40
      rw [hr1] at eB
      obtain ⟨hFB, num1, hn1, hPB, hpB⟩ := eB
      have hn1 : num1 = a1 := hn1
      subst hn1
      have hH1 : FRp [o, to] h hB := FRp.tr hFA hFB
      have hIB := hI.fr hH1 hnt
      have hx1 := sNum_r hr1 hcr.1.1 hcr.2.1.2
      obtain ⟨vB, mtB, ftB, hvB⟩ := hPB.2.2
      refine r_aload_n dX5_readCommand_45 0 rfl ?_
      refine r_get cl_X5 3 (by decide) kf_X5_58 dX5_readCommand_46 hPB.1 hPB.2.1 rfl ?_
      refine r_istore (ls' := [(0, .ref o), (1, .ref so), (2, .int (iI (fndC T p))), (3, .ref (K.2.2.1 ((fndC T p).toNat))), (4, .int (iI num1))]) dX5_readCommand_49 (by decide) rfl ?_
      refine i_const (0) dX5_readCommand_51 ?_
      refine r_istore (ls' := [(0, .ref o), (1, .ref so), (2, .int (iI (fndC T p))), (3, .ref (K.2.2.1 ((fndC T p).toNat))), (4, .int (iI num1)), (5, .int (iI 0))]) dX5_readCommand_52 (by decide) rfl ?_
      refine r_aload_n dX5_readCommand_54 3 rfl ?_
      refine r_getc (gc_two hGC.1 hk9) kg_X5_139 dX5_readCommand_55 ?_
      refine i_ifeqb dX5_readCommand_58 (tgt := 84) (by decide) (fun c58 => ?_) (fun c58 => ?_)
      · have hsec : sSec T ((fndC T p).toNat) q1 = .inr (0, q1) := by unfold sSec; rw [if_neg (by rw [c58]; decide)]
        have hSx := SCRfr2 hS hH1 hds
        have hx2 : in32 0 := ⟨by decide, by decide⟩
        obtain ⟨g9, f9, s9, ⟨mso, -⟩, -, fso, -⟩ := id hSx
        refine r_aload_n dX5_readCommand_84 1 rfl ?_
        refine r_aload_n dX5_readCommand_85 3 rfl ?_
        refine r_iload dX5_readCommand_86 4 rfl ?_
        refine r_iload dX5_readCommand_88 5 rfl ?_
        refine p_callV (As := [.ref (K.2.2.1 ((fndC T p).toNat)), .int (iI num1), .int (iI 0)]) (b := so) (rest := []) (w := none) (st' := []) kv_X5_readCommand_149 dX5_readCommand_90 rfl rfl (Nat.le_of_ble_eq_true rfl) (Nat.le_of_ble_eq_true rfl) (x_rv mso fso rfl) rfl rfl (c_X7_add hGC hSx hk9 hx1 hx2 hl20) rfl (fun hD eD => ?_)
        obtain ⟨hSD, hFD⟩ := eD
        have hPD := PARfr2 hPB hFD hds
        have hHD : FRp ([o, to] ++ [so, ca, cb, cc]) h hD := FRp.tr (FRp.mono hH1 (fun q hq => List.mem_append_left _ hq)) (FRp.mono hFD (fun q hq => List.mem_append_right _ hq))
        have hID := hI.fr hHD (notin_ot hnt hds)
        obtain ⟨vD, mtD, ftD, hvD⟩ := hPD.2.2
        refine r_aload_n dX5_readCommand_93 0 rfl ?_
        refine p_callV (As := []) (b := o) (rest := []) (w := (some (.int (iI (b2 (okP (sSemi T q1))))))) (st' := [.int (iI (b2 (okP (sSemi T q1))))]) kv_X5_readCommand_88 dX5_readCommand_94 rfl rfl (Nat.le_of_ble_eq_true rfl) (Nat.le_of_ble_eq_true rfl) (x_rv hPD.1 hPD.2.1 rfl) rfl rfl (c_X5_takeSemicolon hGK hID hpB hPD) rfl (fun hS9 eS => ?_)
        refine r_ireturn rfl (b2_nar _) dX5_readCommand_97 ?_
        obtain ⟨hFS, hSS⟩ := eS
        have hSE := SCRfr2 hSD hFS hds
        have es : sCmd T p = (match sSemi T q1 with | .inl e => .inl e | .inr c => .inr ((((fndC T p).toNat), num1, 0), c.2)) := by unfold sCmd; rw [if_neg (by omega)]; rw [hr1]; dsimp only; rw [hsec] <;> rfl
        rw [es]
        cases hz : sSemi T q1 with
        | inl e => rw [hz] at hSS; exact ⟨rfl, FRp.tr hHD (FRp.mono hFS (fun q hq => List.mem_append_left _ (by simpa using hq))), ⟨_, hSE⟩, hSS.2⟩
        | inr a => rw [hz] at hSS; obtain ⟨n9, -, hSS⟩ := hSS; exact ⟨rfl, FRp.tr hHD (FRp.mono hFS (fun q hq => List.mem_append_left _ (by simpa using hq))), n9, hSE, hSS⟩
      · refine r_aload_n dX5_readCommand_61 0 rfl ?_
        refine r_aload_n dX5_readCommand_62 3 rfl ?_
        refine r_getc (gc_lo2 hGC.1 hk9) kg_X5_143 dX5_readCommand_63 ?_
        refine r_aload_n dX5_readCommand_66 3 rfl ?_
        refine r_getc (gc_hi2 hGC.1 hk9) kg_X5_146 dX5_readCommand_67 ?_
        refine p_callV (As := [.int (iI (cLo2 ((fndC T p).toNat))), .int (iI (cHi2 ((fndC T p).toNat)))]) (b := o) (rest := []) (w := (some (.int (iI (b2 (okP (sNum T q1 (cLo2 ((fndC T p).toNat)) (cHi2 ((fndC T p).toNat))))))))) (st' := [.int (iI (b2 (okP (sNum T q1 (cLo2 ((fndC T p).toNat)) (cHi2 ((fndC T p).toNat))))))]) kv_X5_readCommand_79 dX5_readCommand_70 rfl rfl (Nat.le_of_ble_eq_true rfl) (Nat.le_of_ble_eq_true rfl) (x_rv hPB.1 hPB.2.1 rfl) rfl rfl (c_X5_takeNumber hGK hIB hpB hPB (lo := cLo2 ((fndC T p).toNat)) (hi := cHi2 ((fndC T p).toNat)) hcr.2.2.1 hcr.2.2.2) rfl (fun hC eC => ?_)
        refine i_ifneb dX5_readCommand_73 (tgt := 78) (by decide) (fun c73 => ?_) (fun c73 => ?_)
        · obtain ⟨a2, q2, hr2⟩ := okP_t c73
          rw [hr2] at eC
          obtain ⟨hFC, num2, hn2, hPC, hpC⟩ := eC
          have hn2 : num2 = a2 := hn2
          subst hn2
          have hH2 : FRp [o, to] h hC := FRp.tr hH1 hFC
          have hIC := hI.fr hH2 hnt
          have hx2 := sNum_r hr2 hcr.2.2.1.1 hcr.2.2.2.2
          obtain ⟨vC, mtC, ftC, hvC⟩ := hPC.2.2
          refine r_aload_n dX5_readCommand_78 0 rfl ?_
          refine r_get cl_X5 3 (by decide) kf_X5_58 dX5_readCommand_79 hPC.1 hPC.2.1 rfl ?_
          refine r_istore (ls' := [(0, .ref o), (1, .ref so), (2, .int (iI (fndC T p))), (3, .ref (K.2.2.1 ((fndC T p).toNat))), (4, .int (iI num1)), (5, .int (iI num2))]) dX5_readCommand_82 (by decide) rfl ?_
          have hsec : sSec T ((fndC T p).toNat) q1 = .inr (num2, q2) := by unfold sSec; rw [if_pos c58]; exact hr2
          have hSx := SCRfr2 hS hH2 hds
          obtain ⟨g9, f9, s9, ⟨mso, -⟩, -, fso, -⟩ := id hSx
          refine r_aload_n dX5_readCommand_84 1 rfl ?_
          refine r_aload_n dX5_readCommand_85 3 rfl ?_
          refine r_iload dX5_readCommand_86 4 rfl ?_
          refine r_iload dX5_readCommand_88 5 rfl ?_
          refine p_callV (As := [.ref (K.2.2.1 ((fndC T p).toNat)), .int (iI num1), .int (iI num2)]) (b := so) (rest := []) (w := none) (st' := []) kv_X5_readCommand_149 dX5_readCommand_90 rfl rfl (Nat.le_of_ble_eq_true rfl) (Nat.le_of_ble_eq_true rfl) (x_rv mso fso rfl) rfl rfl (c_X7_add hGC hSx hk9 hx1 hx2 hl20) rfl (fun hD eD => ?_)
          obtain ⟨hSD, hFD⟩ := eD
          have hPD := PARfr2 hPC hFD hds
          have hHD : FRp ([o, to] ++ [so, ca, cb, cc]) h hD := FRp.tr (FRp.mono hH2 (fun q hq => List.mem_append_left _ hq)) (FRp.mono hFD (fun q hq => List.mem_append_right _ hq))
          have hID := hI.fr hHD (notin_ot hnt hds)
          obtain ⟨vD, mtD, ftD, hvD⟩ := hPD.2.2
          refine r_aload_n dX5_readCommand_93 0 rfl ?_
          refine p_callV (As := []) (b := o) (rest := []) (w := (some (.int (iI (b2 (okP (sSemi T q2))))))) (st' := [.int (iI (b2 (okP (sSemi T q2))))]) kv_X5_readCommand_88 dX5_readCommand_94 rfl rfl (Nat.le_of_ble_eq_true rfl) (Nat.le_of_ble_eq_true rfl) (x_rv hPD.1 hPD.2.1 rfl) rfl rfl (c_X5_takeSemicolon hGK hID hpC hPD) rfl (fun hS9 eS => ?_)
          refine r_ireturn rfl (b2_nar _) dX5_readCommand_97 ?_
          obtain ⟨hFS, hSS⟩ := eS
          have hSE := SCRfr2 hSD hFS hds
          have es : sCmd T p = (match sSemi T q2 with | .inl e => .inl e | .inr c => .inr ((((fndC T p).toNat), num1, num2), c.2)) := by unfold sCmd; rw [if_neg (by omega)]; rw [hr1]; dsimp only; rw [hsec] <;> rfl
          rw [es]
          cases hz : sSemi T q2 with
          | inl e => rw [hz] at hSS; exact ⟨rfl, FRp.tr hHD (FRp.mono hFS (fun q hq => List.mem_append_left _ (by simpa using hq))), ⟨_, hSE⟩, hSS.2⟩
          | inr a => rw [hz] at hSS; obtain ⟨n9, -, hSS⟩ := hSS; exact ⟨rfl, FRp.tr hHD (FRp.mono hFS (fun q hq => List.mem_append_left _ (by simpa using hq))), n9, hSE, hSS⟩
        · refine i_const (0) dX5_readCommand_76 ?_
          refine r_ireturn rfl (b2_nar false) dX5_readCommand_77 ?_
          obtain ⟨er, hr⟩ := okP_f c73
          rw [hr] at eC
          have es : sCmd T p = .inl er := by unfold sCmd; rw [if_neg (by omega)]; rw [hr1]; dsimp only; rw [show sSec T ((fndC T p).toNat) q1 = .inl er by unfold sSec; rw [if_pos c58]; exact hr]
          rw [es]
          obtain ⟨hFx, -, t9, n9, hP9⟩ := eC
          have hFy : FRp [o, to] h hC := FRp.tr hH1 hFx
          exact ⟨rfl, FRp.mono hFy (fun q hq => List.mem_append_left _ hq), ⟨cs, SCRfr2 hS hFy hds⟩, t9, n9, hP9⟩
    · refine i_const (0) dX5_readCommand_43 ?_
      refine r_ireturn rfl (b2_nar false) dX5_readCommand_44 ?_
      obtain ⟨er, hr⟩ := okP_f c40
      rw [hr] at eB
      have es : sCmd T p = .inl er := by unfold sCmd; rw [if_neg (by omega)]; rw [hr]
      rw [es]
      obtain ⟨hFx, -, t9, n9, hP9⟩ := eB
      have hFy : FRp [o, to] h hB := FRp.tr hFA hFx
      exact ⟨rfl, FRp.mono hFy (fun q hq => List.mem_append_left _ hq), ⟨cs, SCRfr2 hS hFy hds⟩, t9, n9, hP9⟩
  · refine r_aload_n dX5_readCommand_9 0 rfl ?_
    refine i_const (1) dX5_readCommand_10 ?_
    refine p_callV (As := [.int (iI 1)]) (b := o) (rest := []) (w := (some (.int (iI (b2 false))))) (st' := [.int (iI (b2 false))]) kv_X5_readCommand_36 dX5_readCommand_11 rfl rfl (Nat.le_of_ble_eq_true rfl) (Nat.le_of_ble_eq_true rfl) (x_rv mo fo rfl) rfl rfl (c_X5_fail hGK hP (c9 := 1)) rfl (fun h9 e9 => ?_)
    refine r_ireturn rfl (b2_nar _) dX5_readCommand_14 ?_
    have es : sCmd T p = sErr T p 1 := by unfold sCmd; rw [if_pos (by omega)]
    rw [es]
    exact ⟨rfl, FRp.mono e9.2 (fun q hq => List.mem_append_left _ hq), ⟨cs, SCRfr2 hS e9.2 hds⟩, _, _, e9.1⟩
set_option maxRecDepth 20000 in
set_option maxHeartbeats 1000000 in
theorem c_X5_readScript {G : xG} {h : xH} {K : xK} {sa : Nat → Nat} (hGC : GC G K sa) (hGT : GT G sa) {o to I : Nat} {T : List Int} (hI : INP G h I T) {T0 : List Int} {t0 : Nat × Nat × Nat} {c0 off0 num0 : Int} {I0 : Nat} (hP : PAR G h K o to I0 T0 t0 c0 off0 num0) {so ca cb cc : Nat} {cs : List CM} (hS : SCR G h K so ca cb cc cs) (hds : ∀ q ∈ [so, ca, cb, cc], q ≠ o ∧ q ≠ to ∧ q ≠ I) : CC G MX5_readScript [.ref o, .ref I, .int (iI (T.length : Int)), .ref so] h (fun oo h' => oo = .inl (some (.int (iI (b2 (okP (sScript T)))))) ∧ PS G h h' K o to I T [so, ca, cb, cc] (sScript T) (fun l _ h' => SCR G h' K so ca cb cc l) (PSc G K so ca cb cc)) := by
  have hGK := hGC.1
  have hnt := hI.nt0 hP
  have hIn := notin_ot hnt hds
  have hL : ∀ i, i ≤ 20 → ∀ (p1 : Nat), p1 ≤ T.length → ∀ (hh : xH) (cs1 : List CM) (num1 : Int), PAR G hh K o to I T (tokAt T p1) 0 (-1) num1 → SCR G hh K so ca cb cc cs1 → cs1.length = i → FRp ([o, to] ++ [so, ca, cb, cc]) h hh → RR G MX5_readScript 14 [(0, .ref o), (1, .ref I), (2, .int (iI ((T.length : Int)))), (3, .ref so), (4, .int (iI ((i : Int))))] [] hh (xm_R MX5_readScript).cells (xm_R MX5_readScript).slots (fun oo h' => oo = .inl (some (.int (iI (b2 (okP (sCmds T (20 - i) p1)))))) ∧ PS G h h' K o to I T [so, ca, cb, cc] (sCmds T (20 - i) p1) (fun l _ h' => SCR G h' K so ca cb cc (cs1 ++ l)) (PSc G K so ca cb cc)) := by
    refine down (fun i hi ih => ?_)
    intro p1 hp1 hh cs1 num1 hP1 hS1 hc1 hF1
    have hI1 := hI.fr hF1 hIn
    have htb := tokAt_b T hp1
    have not := hP1.ne
    have hfb := fndC_b T p1
    obtain ⟨v1, mt1, ft1, hv1⟩ := hP1.2.2
    obtain ⟨g9, f9, s9, ⟨mso, -⟩, -, fso, -⟩ := id hS1
    refine r_iload dX5_readScript_14 4 rfl ?_
    refine i_bipush (20) (by decide) dX5_readScript_16 ?_
    refine i_icmpge dX5_readScript_18 (tgt := 50) (by decide) (by unfold in32; omega) ⟨by decide, by decide⟩ (fun c18 => ?_) (fun c18 => ?_)
    · refine r_aload_n dX5_readScript_50 0 rfl ?_
      refine r_get cl_X5 0 (by decide) kf_X5_12 dX5_readScript_51 hP1.1 hP1.2.1 rfl ?_
      refine r_get cl_X10 3 (by decide) kf_X5_43 dX5_readScript_54 mt1 ft1 rfl ?_
      refine r_gets (gk_T hGK 4 (by decide)) kg_X5_66 dX5_readScript_57 ?_
      refine r_acmpne dX5_readScript_60 (tgt := 65) (by decide) (fun c60 => ?_) (fun c60 => ?_)
      · have hk5 : ¬ (tokAt T p1).1 = 4 := fun z => c60 (by rw [z])
        refine r_aload_n dX5_readScript_65 0 rfl ?_
        refine r_aload_n dX5_readScript_66 0 rfl ?_
        refine p_callV (As := []) (b := o) (rest := [.ref o]) (w := (some (.int (iI (fndC T p1))))) (st' := [.int (iI (fndC T p1)), .ref o]) kv_X5_readScript_119 dX5_readScript_67 rfl rfl (Nat.le_of_ble_eq_true rfl) (Nat.le_of_ble_eq_true rfl) (x_rv hP1.1 hP1.2.1 rfl) rfl rfl (c_X5_findCommand hGC hGT hI1 hp1 hP1) rfl (fun h9 e9 => ?_)
        rw [show h9 = hh from e9]
        refine i_iflt dX5_readScript_70 (tgt := 77) (by decide) (by unfold in32; omega) (fun c70 => ?_) (fun c70 => ?_)
        · refine i_const (1) dX5_readScript_77 ?_
          refine p_callV (As := [.int (iI 1)]) (b := o) (rest := []) (w := (some (.int (iI (b2 false))))) (st' := [.int (iI (b2 false))]) kv_X5_readScript_36 dX5_readScript_78 rfl rfl (Nat.le_of_ble_eq_true rfl) (Nat.le_of_ble_eq_true rfl) (x_rv hP1.1 hP1.2.1 rfl) rfl rfl (c_X5_fail hGK hP1 (c9 := 1)) rfl (fun h9 e9 => ?_)
          refine r_ireturn rfl (b2_nar _) dX5_readScript_81 ?_
          have es0 : sCmds T (20 - i) p1 = sFinC T p1 := by
            first
              | (rw [show 20 - i = 0 by omega]; rfl)
              | (rw [show 20 - i = (20 - (i + 1)) + 1 by omega, sCmds, if_pos hk4])
          rw [es0]
          have es : sFinC T p1 = sErr T p1 1 := by unfold sFinC; rw [if_neg hk5, if_neg (by omega)]
          rw [es]
          exact ⟨rfl, FRp.tr hF1 (FRp.mono e9.2 (fun q hq => List.mem_append_left _ hq)), ⟨cs1, SCRfr2 hS1 e9.2 hds⟩, _, _, e9.1⟩
        · refine i_const (3) dX5_readScript_73 ?_
          refine r_goto dX5_readScript_74 (tgt := 78) (by decide) ?_
          refine p_callV (As := [.int (iI 3)]) (b := o) (rest := []) (w := (some (.int (iI (b2 false))))) (st' := [.int (iI (b2 false))]) kv_X5_readScript_36 dX5_readScript_78 rfl rfl (Nat.le_of_ble_eq_true rfl) (Nat.le_of_ble_eq_true rfl) (x_rv hP1.1 hP1.2.1 rfl) rfl rfl (c_X5_fail hGK hP1 (c9 := 3)) rfl (fun h9 e9 => ?_)
          refine r_ireturn rfl (b2_nar _) dX5_readScript_81 ?_
          have es0 : sCmds T (20 - i) p1 = sFinC T p1 := by
            first
              | (rw [show 20 - i = 0 by omega]; rfl)
              | (rw [show 20 - i = (20 - (i + 1)) + 1 by omega, sCmds, if_pos hk4])
          rw [es0]
          have es : sFinC T p1 = sErr T p1 3 := by unfold sFinC; rw [if_neg hk5, if_pos (by omega)]
          rw [es]
          exact ⟨rfl, FRp.tr hF1 (FRp.mono e9.2 (fun q hq => List.mem_append_left _ hq)), ⟨cs1, SCRfr2 hS1 e9.2 hds⟩, _, _, e9.1⟩
      · have hk5 : (tokAt T p1).1 = 4 := by
          by_cases z : (tokAt T p1).1 = 4
          · exact z
          · exact absurd c60 (gk_Tne hGK htb.1 (by omega) z)
        refine i_const (1) dX5_readScript_63 ?_
        refine r_ireturn rfl (b2_nar true) dX5_readScript_64 ?_
        have es0 : sCmds T (20 - i) p1 = sFinC T p1 := by
          first
            | (rw [show 20 - i = 0 by omega]; rfl)
            | (rw [show 20 - i = (20 - (i + 1)) + 1 by omega, sCmds, if_pos hk4])
        rw [es0]
        have es : sFinC T p1 = .inr ([], p1) := by unfold sFinC; rw [if_pos hk5]
        rw [es]
        exact ⟨rfl, hF1, num1, by show SCR G hh K so ca cb cc (cs1 ++ []); rw [List.append_nil]; exact hS1, hP1, hp1⟩
    · refine r_aload_n dX5_readScript_21 0 rfl ?_
      refine r_get cl_X5 0 (by decide) kf_X5_12 dX5_readScript_22 hP1.1 hP1.2.1 rfl ?_
      refine r_get cl_X10 3 (by decide) kf_X5_43 dX5_readScript_25 mt1 ft1 rfl ?_
      refine r_gets (gk_T hGK 4 (by decide)) kg_X5_66 dX5_readScript_28 ?_
      refine r_acmpeq dX5_readScript_31 (tgt := 50) (by decide) (fun c31 => ?_) (fun c31 => ?_)
      · have hk4 : (tokAt T p1).1 = 4 := by
          by_cases z : (tokAt T p1).1 = 4
          · exact z
          · exact absurd c31 (gk_Tne hGK htb.1 (by omega) z)
        refine r_aload_n dX5_readScript_50 0 rfl ?_
        refine r_get cl_X5 0 (by decide) kf_X5_12 dX5_readScript_51 hP1.1 hP1.2.1 rfl ?_
        refine r_get cl_X10 3 (by decide) kf_X5_43 dX5_readScript_54 mt1 ft1 rfl ?_
        refine r_gets (gk_T hGK 4 (by decide)) kg_X5_66 dX5_readScript_57 ?_
        refine r_acmpne dX5_readScript_60 (tgt := 65) (by decide) (fun c60 => ?_) (fun c60 => ?_)
        · have hk5 : ¬ (tokAt T p1).1 = 4 := fun z => c60 (by rw [z])
          refine r_aload_n dX5_readScript_65 0 rfl ?_
          refine r_aload_n dX5_readScript_66 0 rfl ?_
          refine p_callV (As := []) (b := o) (rest := [.ref o]) (w := (some (.int (iI (fndC T p1))))) (st' := [.int (iI (fndC T p1)), .ref o]) kv_X5_readScript_119 dX5_readScript_67 rfl rfl (Nat.le_of_ble_eq_true rfl) (Nat.le_of_ble_eq_true rfl) (x_rv hP1.1 hP1.2.1 rfl) rfl rfl (c_X5_findCommand hGC hGT hI1 hp1 hP1) rfl (fun h9 e9 => ?_)
          rw [show h9 = hh from e9]
          refine i_iflt dX5_readScript_70 (tgt := 77) (by decide) (by unfold in32; omega) (fun c70 => ?_) (fun c70 => ?_)
          · refine i_const (1) dX5_readScript_77 ?_
            refine p_callV (As := [.int (iI 1)]) (b := o) (rest := []) (w := (some (.int (iI (b2 false))))) (st' := [.int (iI (b2 false))]) kv_X5_readScript_36 dX5_readScript_78 rfl rfl (Nat.le_of_ble_eq_true rfl) (Nat.le_of_ble_eq_true rfl) (x_rv hP1.1 hP1.2.1 rfl) rfl rfl (c_X5_fail hGK hP1 (c9 := 1)) rfl (fun h9 e9 => ?_)
            refine r_ireturn rfl (b2_nar _) dX5_readScript_81 ?_
            have es0 : sCmds T (20 - i) p1 = sFinC T p1 := by
              first
                | (rw [show 20 - i = 0 by omega]; rfl)
                | (rw [show 20 - i = (20 - (i + 1)) + 1 by omega, sCmds, if_pos hk4])
            rw [es0]
            have es : sFinC T p1 = sErr T p1 1 := by unfold sFinC; rw [if_neg hk5, if_neg (by omega)]
            rw [es]
            exact ⟨rfl, FRp.tr hF1 (FRp.mono e9.2 (fun q hq => List.mem_append_left _ hq)), ⟨cs1, SCRfr2 hS1 e9.2 hds⟩, _, _, e9.1⟩
          · refine i_const (3) dX5_readScript_73 ?_
            refine r_goto dX5_readScript_74 (tgt := 78) (by decide) ?_
            refine p_callV (As := [.int (iI 3)]) (b := o) (rest := []) (w := (some (.int (iI (b2 false))))) (st' := [.int (iI (b2 false))]) kv_X5_readScript_36 dX5_readScript_78 rfl rfl (Nat.le_of_ble_eq_true rfl) (Nat.le_of_ble_eq_true rfl) (x_rv hP1.1 hP1.2.1 rfl) rfl rfl (c_X5_fail hGK hP1 (c9 := 3)) rfl (fun h9 e9 => ?_)
            refine r_ireturn rfl (b2_nar _) dX5_readScript_81 ?_
            have es0 : sCmds T (20 - i) p1 = sFinC T p1 := by
              first
                | (rw [show 20 - i = 0 by omega]; rfl)
                | (rw [show 20 - i = (20 - (i + 1)) + 1 by omega, sCmds, if_pos hk4])
            rw [es0]
            have es : sFinC T p1 = sErr T p1 3 := by unfold sFinC; rw [if_neg hk5, if_pos (by omega)]
            rw [es]
            exact ⟨rfl, FRp.tr hF1 (FRp.mono e9.2 (fun q hq => List.mem_append_left _ hq)), ⟨cs1, SCRfr2 hS1 e9.2 hds⟩, _, _, e9.1⟩
        · have hk5 : (tokAt T p1).1 = 4 := by
            by_cases z : (tokAt T p1).1 = 4
            · exact z
            · exact absurd c60 (gk_Tne hGK htb.1 (by omega) z)
          refine i_const (1) dX5_readScript_63 ?_
          refine r_ireturn rfl (b2_nar true) dX5_readScript_64 ?_
          have es0 : sCmds T (20 - i) p1 = sFinC T p1 := by
            first
              | (rw [show 20 - i = 0 by omega]; rfl)
              | (rw [show 20 - i = (20 - (i + 1)) + 1 by omega, sCmds, if_pos hk4])
          rw [es0]
          have es : sFinC T p1 = .inr ([], p1) := by unfold sFinC; rw [if_pos hk5]
          rw [es]
          exact ⟨rfl, hF1, num1, by show SCR G hh K so ca cb cc (cs1 ++ []); rw [List.append_nil]; exact hS1, hP1, hp1⟩
      · have hk4 : ¬ (tokAt T p1).1 = 4 := fun z => c31 (by rw [z])
        refine r_aload_n dX5_readScript_34 0 rfl ?_
        refine r_aload_n dX5_readScript_35 3 rfl ?_
        refine p_callV (As := [.ref so]) (b := o) (rest := []) (w := (some (.int (iI (b2 (okP (sCmd T p1))))))) (st' := [.int (iI (b2 (okP (sCmd T p1))))]) kv_X5_readScript_115 dX5_readScript_36 rfl rfl (Nat.le_of_ble_eq_true rfl) (Nat.le_of_ble_eq_true rfl) (x_rv hP1.1 hP1.2.1 rfl) rfl rfl (c_X5_readCommand hGC hGT hI1 hp1 hP1 hS1 hds (by omega)) rfl (fun hC eC => ?_)
        refine i_ifneb dX5_readScript_39 (tgt := 44) (by decide) (fun c39 => ?_) (fun c39 => ?_)
        · obtain ⟨a1, a2, hr⟩ := okP_t c39
          rw [hr] at eC
          obtain ⟨hFC, num2, hSC, hPC, hpC⟩ := eC
          refine i_iinc (ls' := [(0, .ref o), (1, .ref I), (2, .int (iI ((T.length : Int)))), (3, .ref so), (4, .int (iI ((i : Int) + 1)))]) (1) (v := (i : Int) + 1) dX5_readScript_44 4 rfl (by omega) (by decide) rfl ?_
          refine r_goto dX5_readScript_47 (tgt := 14) (by decide) ?_
          exact rr_mono (ih (i + 1) (by omega) (by omega) a2 hpC _ _ _ hPC hSC (by rw [List.length_append, List.length_singleton, hc1]) (FRp.tr hF1 hFC)) (fun oo h9 q => by
              rw [show 20 - i = (20 - (i + 1)) + 1 by omega]
              have es : sCmds T ((20 - (i + 1)) + 1) p1 = (match sCmds T (20 - (i + 1)) a2 with | .inl e => .inl e | .inr b => .inr (a1 :: b.1, b.2)) := by rw [sCmds, if_neg hk4, hr] <;> rfl
              rw [es]
              obtain ⟨q1, q2, q3⟩ := q
              cases hz : sCmds T (20 - (i + 1)) a2 with
              | inl e => rw [hz] at q1 q3; exact ⟨q1, q2, q3⟩
              | inr b => rw [hz] at q1 q3; obtain ⟨n9, q4, q5⟩ := q3; exact ⟨q1, q2, n9, by show SCR G h9 K so ca cb cc (cs1 ++ a1 :: b.1); rw [show cs1 ++ a1 :: b.1 = cs1 ++ [a1] ++ b.1 by simp]; exact q4, q5⟩)
        · refine i_const (0) dX5_readScript_42 ?_
          refine r_ireturn rfl (b2_nar false) dX5_readScript_43 ?_
          obtain ⟨er, hr⟩ := okP_f c39
          rw [hr] at eC
          have es : sCmds T (20 - i) p1 = .inl er := by rw [show 20 - i = (20 - (i + 1)) + 1 by omega, sCmds, if_neg hk4, hr]
          rw [es]
          obtain ⟨hFC, hbad, t9, n9, hP9⟩ := eC
          exact ⟨rfl, FRp.tr hF1 hFC, hbad, t9, n9, hP9⟩
  show RR G MX5_readScript 0 [(0, .ref o), (1, .ref I), (2, .int (iI ((T.length : Int)))), (3, .ref so)] [] h (xm_R MX5_readScript).cells (xm_R MX5_readScript).slots (fun oo h' => oo = .inl (some (.int (iI (b2 (okP (sScript T)))))) ∧ PS G h h' K o to I T [so, ca, cb, cc] (sScript T) (fun l _ h' => SCR G h' K so ca cb cc l) (PSc G K so ca cb cc))
  refine r_aload_n dX5_readScript_0 0 rfl ?_
  refine r_aload_n dX5_readScript_1 1 rfl ?_
  refine r_iload_n dX5_readScript_2 2 rfl ?_
  refine p_callV (As := [.ref I, .int (iI ((T.length : Int)))]) (b := o) (rest := []) (w := none) (st' := []) kv_X5_readScript_61 dX5_readScript_3 rfl rfl (Nat.le_of_ble_eq_true rfl) (Nat.le_of_ble_eq_true rfl) (x_rv hP.1 hP.2.1 rfl) rfl rfl (c_X5_begin hGK hI hP) rfl (fun hA eA => ?_)
  have hFA := eA.2
  have hIA := hI.fr hFA hnt
  have hSA := SCRfr2 hS hFA hds
  obtain ⟨g9, f9, s9, ⟨mso, ma9, mb9, mc9⟩, nbc9, fso, fa9, fb9, fc9, hl9, hr9⟩ := id hSA
  refine r_aload_n dX5_readScript_6 3 rfl ?_
  refine i_const (0) dX5_readScript_7 ?_
  refine i_put [.ref ca, .ref cb, .ref cc, .int (iI 0)] cl_X7 3 (by decide) kf_X5_110 rfl dX5_readScript_8 mso fso rfl rfl (by simp) rfl (fun h1 e0_1 e1_1 e2_1 => ?_)
  have mso_1 : so ∈ h1.1 := by rw [e0_1]; exact mso
  refine i_const (0) dX5_readScript_11 ?_
  refine r_istore (ls' := [(0, .ref o), (1, .ref I), (2, .int (iI ((T.length : Int)))), (3, .ref so), (4, .int (iI 0))]) dX5_readScript_12 (by decide) rfl ?_
  have hF2 : FRp [so, ca, cb, cc] hA h1 := FRp.w (by simp) e0_1 e2_1
  have hP2 := PARfr2 eA.1 hF2 hds
  have hS2 : SCR G h1 K so ca cb cc [] := ⟨g9, f9, s9, ⟨by rw [hF2.1]; exact mso, by rw [hF2.1]; exact ma9, by rw [hF2.1]; exact mb9, by rw [hF2.1]; exact mc9⟩, nbc9, e1_1, (e2_1 _ (ne_oi fso fa9).symm).trans fa9, (e2_1 _ (ne_oi fso fb9).symm).trans fb9, (e2_1 _ (ne_oi fso fc9).symm).trans fc9, Nat.zero_le _, fun i hi => absurd hi (Nat.not_lt_zero i)⟩
  refine rr_mono (hL 0 (by omega) 0 (Nat.zero_le _) _ _ _ hP2 hS2 rfl (FRp.tr (FRp.mono hFA (fun q hq => List.mem_append_left _ hq)) (FRp.mono hF2 (fun q hq => List.mem_append_right _ hq)))) (fun oo h9 q => ?_)
  exact q
