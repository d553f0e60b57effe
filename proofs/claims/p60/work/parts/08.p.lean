/-! ===== calls of methods that return, and make nothing ===== -/
section PCALLS
variable {G : xG} {M M' : xM} {h : xH} {pc : Nat} {ls : List (Nat × Value)} {st st' rest : List Value} {kc ks : Nat} {Q : xR → xH → Prop} {P : xH → Prop} {w : Option Value}
theorem p_callV {idx n : Nat} {b : Nat} {As : List Value} (hL : x_LV M idx M' n) (hd : decode M.2.1 pc = .ok (.invokevirtual idx, 3)) (hst : st = As.reverse ++ .ref b :: rest) (hn : As.length = n) (hrest : (rest.map fun v => v.category).sum ≤ 8) (hlen : (lg_sl (.ref b :: As)).length ≤ M'.2.2.1) (hrv : x_RV G h M'.1.cls b) (h1 : (xm_R M').cells = 0) (h2 : (xm_R M').slots = 0) (spec : CC G M' (.ref b :: As) h (fun o h' => o = .inl w ∧ P h')) (hw : w.toList ++ rest = st') (kk : ∀ h', P h' → RR G M (pc + 3) ls st' h' kc ks Q) : RR G M pc ls st h kc ks Q := by
  refine r_callV hL hd hst hn hrest hlen hrv (by omega) (by omega) spec (fun E h' q => by cases q.1) (fun v h' q => ?_)
  obtain ⟨q1, q2⟩ := q
  cases q1
  rw [h1, h2, hw]
  exact kk h' q2
theorem p_callS {idx n : Nat} {As : List Value} (hL : x_LS M idx M' n) (hd : decode M.2.1 pc = .ok (.invokestatic idx, 3)) (hst : st = As.reverse ++ rest) (hn : As.length = n) (hrest : (rest.map fun v => v.category).sum ≤ 8) (hlen : (lg_sl As).length ≤ M'.2.2.1) (h1 : (xm_R M').cells = 0) (h2 : (xm_R M').slots = 0) (spec : CC G M' As h (fun o h' => o = .inl w ∧ P h')) (hw : w.toList ++ rest = st') (kk : ∀ h', P h' → RR G M (pc + 3) ls st' h' kc ks Q) : RR G M pc ls st h kc ks Q := by
  refine r_callS hL hd hst hn hrest hlen (by omega) (by omega) spec (fun E h' q => by cases q.1) (fun v h' q => ?_)
  obtain ⟨q1, q2⟩ := q
  cases q1
  rw [h1, h2, hw]
  exact kk h' q2
theorem p_callI {idx n : Nat} {b : Nat} {As : List Value} (hL : x_LI M idx M' n) (hd : decode M.2.1 pc = .ok (.invokespecial idx, 3)) (hst : st = As.reverse ++ .ref b :: rest) (hn : As.length = n) (hrest : (rest.map fun v => v.category).sum ≤ 8) (hlen : (lg_sl (.ref b :: As)).length ≤ M'.2.2.1) (h1 : (xm_R M').cells = 0) (h2 : (xm_R M').slots = 0) (spec : CC G M' (.ref b :: As) h (fun o h' => o = .inl w ∧ P h')) (hw : w.toList ++ rest = st') (kk : ∀ h', P h' → RR G M (pc + 3) ls st' h' kc ks Q) : RR G M pc ls st h kc ks Q := by
  refine r_callI hL hd hst hn hrest hlen (by omega) (by omega) spec (fun E h' q => by cases q.1) (fun v h' q => ?_)
  obtain ⟨q1, q2⟩ := q
  cases q1
  rw [h1, h2, hw]
  exact kk h' q2
theorem p_callSN {idx n : Nat} {host : String} {As : List Value} (hL : x_LSN G M idx M' n host) (hd : decode M.2.1 pc = .ok (.invokestatic idx, 3)) (hst : st = As.reverse ++ rest) (hn : As.length = n) (hrest : (rest.map fun v => v.category).sum ≤ 8) (hlen : (lg_sl As).length ≤ M'.2.2.1) (h1 : (xm_R M').cells = 0) (h2 : (xm_R M').slots = 0) (spec : CC G M' As h (fun o h' => o = .inl w ∧ P h')) (hw : w.toList ++ rest = st') (kk : ∀ h', P h' → RR G M (pc + 3) ls st' h' kc ks Q) : RR G M pc ls st h kc ks Q := by
  refine r_callSN hL hd hst hn hrest hlen (by omega) (by omega) spec (fun E h' q => by cases q.1) (fun v h' q => ?_)
  obtain ⟨q1, q2⟩ := q
  cases q1
  rw [h1, h2, hw]
  exact kk h' q2
theorem p_callIN {idx n : Nat} {b : Nat} {host : String} {As : List Value} (hL : x_LIN G M idx M' n host) (hd : decode M.2.1 pc = .ok (.invokespecial idx, 3)) (hst : st = As.reverse ++ .ref b :: rest) (hn : As.length = n) (hrest : (rest.map fun v => v.category).sum ≤ 8) (hlen : (lg_sl (.ref b :: As)).length ≤ M'.2.2.1) (h1 : (xm_R M').cells = 0) (h2 : (xm_R M').slots = 0) (spec : CC G M' (.ref b :: As) h (fun o h' => o = .inl w ∧ P h')) (hw : w.toList ++ rest = st') (kk : ∀ h', P h' → RR G M (pc + 3) ls st' h' kc ks Q) : RR G M pc ls st h kc ks Q := by
  refine r_callIN hL hd hst hn hrest hlen (by omega) (by omega) spec (fun E h' q => by cases q.1) (fun v h' q => ?_)
  obtain ⟨q1, q2⟩ := q
  cases q1
  rw [h1, h2, hw]
  exact kk h' q2
end PCALLS
