/-! ===== exceptions: thrown, passed on; calls of methods that make something ===== -/
abbrev nmX : List String := ["java/lang/RuntimeException", "java/lang/Exception"]
abbrev eI : String := "java/lang/IndexOutOfBoundsException"
abbrev eA : String := "java/lang/IllegalArgumentException"
abbrev eS : String := "java/lang/IllegalStateException"
def msgW : List (Nat × String) := [(204, "hours out of range"), (307, "no such byte"), (316, "nothing to undo"), (322, "no snapshot"), (324, "length is not within the input buffer"), (330, "no such sheet"), (336, "no such layer"), (341, "parts and factors are 2, 3 or 4"), (352, "argument out of range"), (357, "not possible now")]
def GE (_ : xG) : Prop := True
section EXC
variable {G : xG} {M M' : xM} {h : xH} {pc : Nat} {ls : List (Nat × Value)} {st st' rest : List Value} {kc ks : Nat} {Q : xR → xH → Prop} {P : xH → Prop} {w : Option Value}
theorem r_throwS {cls text : String} {ik is ic : Nat} (hZ : x_zz G (fun _ U _ => ∀ w ∈ vx_atS M.1.cls ic cls nmX, w.before #[] U = true)) (hU : x_zz G (vx_Zq Bundle.tN "UNASSIGNED_STACK" Bundle.steD)) (hN : x_zz G (vx_Zq Bundle.tN "SUPPRESSED_SENTINEL" Bundle.listD)) (hS : ∃ q, x_zz G (fun _ U _ => vk_R M.1.cls is text q U)) (hk : Cond.classLink M.1.cls ik cls ∈ bg_L) (hini : Cond.initialized cls ∈ bg_L) (hgood : ∀ w ∈ vx_atS M.1.cls ic cls nmX, vx_ot w = true) (hcls : Bundle.fit cls = true)
    (d0 : decode M.2.1 pc = .ok (.new ik, 3)) (d3 : decode M.2.1 (pc + 3) = .ok (.dup, 1)) (d4 : decode M.2.1 (pc + 4) = .ok (.ldc is, 2)) (d6 : decode M.2.1 (pc + 6) = .ok (.invokespecial ic, 3)) (d9 : decode M.2.1 (pc + 9) = .ok (.athrow, 1)) (hh : M.2.2.2.2.1 = []) (hR : 6 ≤ (xm_R M).frames ∧ (st.map fun v => v.category).sum + 82 ≤ (xm_R M).locals) (h1 : 1 ≤ kc) (h2 : 6 ≤ ks) (hQ : Q (.inr cls) h) : RR G M pc ls st h kc ks Q := by
  intro p l e R s m args below meth c E H locs cells slots lsA S
  have hc := S.2.2.2.1
  have hs := S.2.2.2.2
  have hRR : R = xm_R M := E.2.2.2.2.2.2.1
  subst hRR
  obtain ⟨q, hq⟩ := hS
  have hz := E.2.2.2.2.2.2.2.2.2.1
  refine vx_throwS (names := nmX) E.1.1 E.1.2.1 E.2.2.2.2.2.1 E.1.2.2.2.1 hcls (by decide) (E.1.2.2.2.2 _ hk) (E.1.2.2.2.2 _ hini) (hq s hz) (fun w hw => vx_ot_at (State.WarmedH.refl s) rfl (hgood w hw) (hZ s hz w hw)) (fun w hw => ?_) (hU s hz) (hN s hz) S.2.2.1 (by rw [E.1.2.2.1]; exact S.1.1) d0 d3 d4 d6 d9 (fun x hx => ?_) (by show 2 + 3 < _; omega) (by show _ + (13 * (2 + 1) + 43) ≤ _; omega) (by omega) (by omega) E.2.2.1 (fun t ha hz1 hz2 => ⟨h, hQ, ?_, ?_⟩) S.2.2.1.2.2 (by omega) (by omega)
  · rcases List.mem_cons.mp hw with e | hw
    · rw [e]; exact Bool.or_eq_true_iff.mpr (Or.inr (List.mem_filter.mp hk).2)
    · rcases List.mem_cons.mp hw with e | hw
      · rw [e]; exact Bool.or_eq_true_iff.mpr (Or.inr (List.mem_filter.mp hini).2)
      · exact hgood w hw
  · rw [E.2.2.2.2.1, hh] at hx
    cases hx
  · refine ⟨va_P.kept S.2.1.1 (fun k q hk => ?_), S.2.1.2⟩
    by_cases z : q.1 < H.size
    · exact hz2 q.1 z
    · exact absurd (S.2.1.1 k q hk).lt z
  · exact ⟨Nat.le_trans S.2.2.1.1 hz1, fun q q1 q2 => (hz2 q (Nat.lt_of_lt_of_le q1 S.2.2.1.1)).trans (S.2.2.1.2.1 q q1 q2)⟩
theorem r_throwSW {cls text : String} {ik is ic : Nat} (hZ : x_zz G (fun _ U _ => ∀ w ∈ vx_atS M.1.cls ic cls nmX, w.before #[] U = true)) (hU : x_zz G (vx_Zq Bundle.tN "UNASSIGNED_STACK" Bundle.steD)) (hN : x_zz G (vx_Zq Bundle.tN "SUPPRESSED_SENTINEL" Bundle.listD)) (hS : ∃ q, x_zz G (fun _ U _ => vk_R M.1.cls is text q U)) (hk : Cond.classLink M.1.cls ik cls ∈ bg_L) (hini : Cond.initialized cls ∈ bg_L) (hgood : ∀ w ∈ vx_atS M.1.cls ic cls nmX, vx_ot w = true) (hcls : Bundle.fit cls = true)
    (d0 : decode M.2.1 pc = .ok (.new ik, 3)) (d3 : decode M.2.1 (pc + 3) = .ok (.dup, 1)) (d4 : decode M.2.1 (pc + 4) = .ok (.ldc_w is, 3)) (d7 : decode M.2.1 (pc + 7) = .ok (.invokespecial ic, 3)) (d10 : decode M.2.1 (pc + 10) = .ok (.athrow, 1)) (hh : M.2.2.2.2.1 = []) (hR : 6 ≤ (xm_R M).frames ∧ (st.map fun v => v.category).sum + 82 ≤ (xm_R M).locals) (h1 : 1 ≤ kc) (h2 : 6 ≤ ks) (hQ : Q (.inr cls) h) : RR G M pc ls st h kc ks Q := by
  intro p l e R s m args below meth c E H locs cells slots lsA S
  have hc := S.2.2.2.1
  have hs := S.2.2.2.2
  have hRR : R = xm_R M := E.2.2.2.2.2.2.1
  subst hRR
  obtain ⟨q, hq⟩ := hS
  have hz := E.2.2.2.2.2.2.2.2.2.1
  refine vx_throwSW (names := nmX) E.1.1 E.1.2.1 E.2.2.2.2.2.1 E.1.2.2.2.1 hcls (by decide) (E.1.2.2.2.2 _ hk) (E.1.2.2.2.2 _ hini) (hq s hz) (fun w hw => vx_ot_at (State.WarmedH.refl s) rfl (hgood w hw) (hZ s hz w hw)) (fun w hw => ?_) (hU s hz) (hN s hz) S.2.2.1 (by rw [E.1.2.2.1]; exact S.1.1) d0 d3 d4 d7 d10 (fun x hx => ?_) (by show 2 + 3 < _; omega) (by show _ + (13 * (2 + 1) + 43) ≤ _; omega) (by omega) (by omega) E.2.2.1 (fun t ha hz1 hz2 => ⟨h, hQ, ?_, ?_⟩) S.2.2.1.2.2 (by omega) (by omega)
  · rcases List.mem_cons.mp hw with e | hw
    · rw [e]; exact Bool.or_eq_true_iff.mpr (Or.inr (List.mem_filter.mp hk).2)
    · rcases List.mem_cons.mp hw with e | hw
      · rw [e]; exact Bool.or_eq_true_iff.mpr (Or.inr (List.mem_filter.mp hini).2)
      · exact hgood w hw
  · rw [E.2.2.2.2.1, hh] at hx
    cases hx
  · refine ⟨va_P.kept S.2.1.1 (fun k q hk => ?_), S.2.1.2⟩
    by_cases z : q.1 < H.size
    · exact hz2 q.1 z
    · exact absurd (S.2.1.1 k q hk).lt z
  · exact ⟨Nat.le_trans S.2.2.1.1 hz1, fun q q1 q2 => (hz2 q (Nat.lt_of_lt_of_le q1 S.2.2.1.1)).trans (S.2.2.1.2.1 q q1 q2)⟩
theorem k_callV {idx n : Nat} {b : Nat} {As : List Value} (hL : x_LV M idx M' n) (hd : decode M.2.1 pc = .ok (.invokevirtual idx, 3)) (hst : st = As.reverse ++ .ref b :: rest) (hn : As.length = n) (hrest : (rest.map fun v => v.category).sum ≤ 8) (hlen : (lg_sl (.ref b :: As)).length ≤ M'.2.2.1) (hrv : x_RV G h M'.1.cls b) (h1 : (xm_R M').cells ≤ kc) (h2 : (xm_R M').slots ≤ ks) (spec : CC G M' (.ref b :: As) h (fun o h' => o = .inl w ∧ P h')) (hw : w.toList ++ rest = st') (kk : ∀ h', P h' → RR G M (pc + 3) ls st' h' (kc - (xm_R M').cells) (ks - (xm_R M').slots) Q) : RR G M pc ls st h kc ks Q := by
  refine r_callV hL hd hst hn hrest hlen hrv h1 h2 spec (fun E h' q => by cases q.1) (fun v h' q => ?_)
  obtain ⟨q1, q2⟩ := q
  cases q1
  rw [hw]
  exact kk h' q2
theorem t_callV {E : String} {idx n : Nat} {b : Nat} {As : List Value} (hL : x_LV M idx M' n) (hd : decode M.2.1 pc = .ok (.invokevirtual idx, 3)) (hst : st = As.reverse ++ .ref b :: rest) (hn : As.length = n) (hrest : (rest.map fun v => v.category).sum ≤ 8) (hlen : (lg_sl (.ref b :: As)).length ≤ M'.2.2.1) (hrv : x_RV G h M'.1.cls b) (h1 : (xm_R M').cells ≤ kc) (h2 : (xm_R M').slots ≤ ks) (hh : M.2.2.2.2.1 = []) (spec : CC G M' (.ref b :: As) h (fun o h' => o = .inr E ∧ P h')) (hQ : ∀ h', P h' → Q (.inr E) h') : RR G M pc ls st h kc ks Q := by
  refine r_callV hL hd hst hn hrest hlen hrv h1 h2 spec (fun E2 h' q => ?_) (fun v h' q => by cases q.1)
  obtain ⟨q1, q2⟩ := q
  cases q1
  exact rx_out hh (hQ h' q2)
theorem k_callS {idx n : Nat} {As : List Value} (hL : x_LS M idx M' n) (hd : decode M.2.1 pc = .ok (.invokestatic idx, 3)) (hst : st = As.reverse ++ rest) (hn : As.length = n) (hrest : (rest.map fun v => v.category).sum ≤ 8) (hlen : (lg_sl As).length ≤ M'.2.2.1) (h1 : (xm_R M').cells ≤ kc) (h2 : (xm_R M').slots ≤ ks) (spec : CC G M' As h (fun o h' => o = .inl w ∧ P h')) (hw : w.toList ++ rest = st') (kk : ∀ h', P h' → RR G M (pc + 3) ls st' h' (kc - (xm_R M').cells) (ks - (xm_R M').slots) Q) : RR G M pc ls st h kc ks Q := by
  refine r_callS hL hd hst hn hrest hlen h1 h2 spec (fun E h' q => by cases q.1) (fun v h' q => ?_)
  obtain ⟨q1, q2⟩ := q
  cases q1
  rw [hw]
  exact kk h' q2
theorem t_callS {E : String} {idx n : Nat} {As : List Value} (hL : x_LS M idx M' n) (hd : decode M.2.1 pc = .ok (.invokestatic idx, 3)) (hst : st = As.reverse ++ rest) (hn : As.length = n) (hrest : (rest.map fun v => v.category).sum ≤ 8) (hlen : (lg_sl As).length ≤ M'.2.2.1) (h1 : (xm_R M').cells ≤ kc) (h2 : (xm_R M').slots ≤ ks) (hh : M.2.2.2.2.1 = []) (spec : CC G M' As h (fun o h' => o = .inr E ∧ P h')) (hQ : ∀ h', P h' → Q (.inr E) h') : RR G M pc ls st h kc ks Q := by
  refine r_callS hL hd hst hn hrest hlen h1 h2 spec (fun E2 h' q => ?_) (fun v h' q => by cases q.1)
  obtain ⟨q1, q2⟩ := q
  cases q1
  exact rx_out hh (hQ h' q2)
theorem k_callI {idx n : Nat} {b : Nat} {As : List Value} (hL : x_LI M idx M' n) (hd : decode M.2.1 pc = .ok (.invokespecial idx, 3)) (hst : st = As.reverse ++ .ref b :: rest) (hn : As.length = n) (hrest : (rest.map fun v => v.category).sum ≤ 8) (hlen : (lg_sl (.ref b :: As)).length ≤ M'.2.2.1) (h1 : (xm_R M').cells ≤ kc) (h2 : (xm_R M').slots ≤ ks) (spec : CC G M' (.ref b :: As) h (fun o h' => o = .inl w ∧ P h')) (hw : w.toList ++ rest = st') (kk : ∀ h', P h' → RR G M (pc + 3) ls st' h' (kc - (xm_R M').cells) (ks - (xm_R M').slots) Q) : RR G M pc ls st h kc ks Q := by
  refine r_callI hL hd hst hn hrest hlen h1 h2 spec (fun E h' q => by cases q.1) (fun v h' q => ?_)
  obtain ⟨q1, q2⟩ := q
  cases q1
  rw [hw]
  exact kk h' q2
theorem t_callI {E : String} {idx n : Nat} {b : Nat} {As : List Value} (hL : x_LI M idx M' n) (hd : decode M.2.1 pc = .ok (.invokespecial idx, 3)) (hst : st = As.reverse ++ .ref b :: rest) (hn : As.length = n) (hrest : (rest.map fun v => v.category).sum ≤ 8) (hlen : (lg_sl (.ref b :: As)).length ≤ M'.2.2.1) (h1 : (xm_R M').cells ≤ kc) (h2 : (xm_R M').slots ≤ ks) (hh : M.2.2.2.2.1 = []) (spec : CC G M' (.ref b :: As) h (fun o h' => o = .inr E ∧ P h')) (hQ : ∀ h', P h' → Q (.inr E) h') : RR G M pc ls st h kc ks Q := by
  refine r_callI hL hd hst hn hrest hlen h1 h2 spec (fun E2 h' q => ?_) (fun v h' q => by cases q.1)
  obtain ⟨q1, q2⟩ := q
  cases q1
  exact rx_out hh (hQ h' q2)
theorem k_callSN {idx n : Nat} {host : String} {As : List Value} (hL : x_LSN G M idx M' n host) (hd : decode M.2.1 pc = .ok (.invokestatic idx, 3)) (hst : st = As.reverse ++ rest) (hn : As.length = n) (hrest : (rest.map fun v => v.category).sum ≤ 8) (hlen : (lg_sl As).length ≤ M'.2.2.1) (h1 : (xm_R M').cells ≤ kc) (h2 : (xm_R M').slots ≤ ks) (spec : CC G M' As h (fun o h' => o = .inl w ∧ P h')) (hw : w.toList ++ rest = st') (kk : ∀ h', P h' → RR G M (pc + 3) ls st' h' (kc - (xm_R M').cells) (ks - (xm_R M').slots) Q) : RR G M pc ls st h kc ks Q := by
  refine r_callSN hL hd hst hn hrest hlen h1 h2 spec (fun E h' q => by cases q.1) (fun v h' q => ?_)
  obtain ⟨q1, q2⟩ := q
  cases q1
  rw [hw]
  exact kk h' q2
theorem t_callSN {E : String} {idx n : Nat} {host : String} {As : List Value} (hL : x_LSN G M idx M' n host) (hd : decode M.2.1 pc = .ok (.invokestatic idx, 3)) (hst : st = As.reverse ++ rest) (hn : As.length = n) (hrest : (rest.map fun v => v.category).sum ≤ 8) (hlen : (lg_sl As).length ≤ M'.2.2.1) (h1 : (xm_R M').cells ≤ kc) (h2 : (xm_R M').slots ≤ ks) (hh : M.2.2.2.2.1 = []) (spec : CC G M' As h (fun o h' => o = .inr E ∧ P h')) (hQ : ∀ h', P h' → Q (.inr E) h') : RR G M pc ls st h kc ks Q := by
  refine r_callSN hL hd hst hn hrest hlen h1 h2 spec (fun E2 h' q => ?_) (fun v h' q => by cases q.1)
  obtain ⟨q1, q2⟩ := q
  cases q1
  exact rx_out hh (hQ h' q2)
theorem k_callIN {idx n : Nat} {b : Nat} {host : String} {As : List Value} (hL : x_LIN G M idx M' n host) (hd : decode M.2.1 pc = .ok (.invokespecial idx, 3)) (hst : st = As.reverse ++ .ref b :: rest) (hn : As.length = n) (hrest : (rest.map fun v => v.category).sum ≤ 8) (hlen : (lg_sl (.ref b :: As)).length ≤ M'.2.2.1) (h1 : (xm_R M').cells ≤ kc) (h2 : (xm_R M').slots ≤ ks) (spec : CC G M' (.ref b :: As) h (fun o h' => o = .inl w ∧ P h')) (hw : w.toList ++ rest = st') (kk : ∀ h', P h' → RR G M (pc + 3) ls st' h' (kc - (xm_R M').cells) (ks - (xm_R M').slots) Q) : RR G M pc ls st h kc ks Q := by
  refine r_callIN hL hd hst hn hrest hlen h1 h2 spec (fun E h' q => by cases q.1) (fun v h' q => ?_)
  obtain ⟨q1, q2⟩ := q
  cases q1
  rw [hw]
  exact kk h' q2
theorem t_callIN {E : String} {idx n : Nat} {b : Nat} {host : String} {As : List Value} (hL : x_LIN G M idx M' n host) (hd : decode M.2.1 pc = .ok (.invokespecial idx, 3)) (hst : st = As.reverse ++ .ref b :: rest) (hn : As.length = n) (hrest : (rest.map fun v => v.category).sum ≤ 8) (hlen : (lg_sl (.ref b :: As)).length ≤ M'.2.2.1) (h1 : (xm_R M').cells ≤ kc) (h2 : (xm_R M').slots ≤ ks) (hh : M.2.2.2.2.1 = []) (spec : CC G M' (.ref b :: As) h (fun o h' => o = .inr E ∧ P h')) (hQ : ∀ h', P h' → Q (.inr E) h') : RR G M pc ls st h kc ks Q := by
  refine r_callIN hL hd hst hn hrest hlen h1 h2 spec (fun E2 h' q => ?_) (fun v h' q => by cases q.1)
  obtain ⟨q1, q2⟩ := q
  cases q1
  exact rx_out hh (hQ h' q2)
end EXC
theorem exg_I : ∀ w ∈ vx_atS RX11 309 eI nmX, vx_ot w = true := by decide +kernel
theorem exg_A : ∀ w ∈ vx_atS RX11 206 eA nmX, vx_ot w = true := by decide +kernel
theorem exg_S : ∀ w ∈ vx_atS RX11 318 eS nmX, vx_ot w = true := by decide +kernel
