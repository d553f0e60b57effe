/-! ===== the law: calls of its own methods, which have handlers; what they catch ===== -/
def GCA (G : xG) : Prop := (∀ E ∈ [eI, eA, eS], x_zz G (fun _ U _ => va_Nw (.castable E E) U)) ∧ ∀ q ∈ [(eI, eA), (eI, eS), (eA, eI), (eA, eS), (eS, eI), (eS, eA)], x_zz G (fun _ U _ => va_Nc q.1 q.2 U)
def x_LSW (M : xM) (idx : Nat) (M' : xM) (n : Nat) : Prop := ((M'.1.cls ≠ "java/lang/invoke/MethodHandle" ∧ M'.1.cls ≠ "java/lang/invoke/VarHandle" ∧ (parseMethodDescriptor M'.1.desc).map (fun d => d.parameters.length) = some n) ∧ ((xm_R M').frames + 1 ≤ (xm_R M).frames ∧ 8 + (M'.2.2.1 + 11) + (xm_R M').locals ≤ (xm_R M).locals) ∧ Cond.codeWith M'.1 M'.2.1 M'.2.2.1 M'.2.2.2.1 M'.2.2.2.2.1 ∈ bg_L ∧ Cond.initialized M'.1.cls ∈ bg_L ∧ plainName M'.1.cls = true) ∧ Cond.methodLink M.1.cls idx M'.1 ∈ bg_L ∧ Cond.static M'.1 ∈ bg_L
def x_wsW (M : xM) : List Cond := Cond.codeWith M.1 M.2.1 M.2.2.1 M.2.2.2.1 M.2.2.2.2.1 :: bg_L
section LCALL
variable {G : xG} {M M' : xM} {h : xH} {pc : Nat} {ls ls' : List (Nat × Value)} {st st' rest : List Value} {kc ks : Nat} {Q Qc : xR → xH → Prop} {P : xH → Prop} {w : Option Value}
theorem rr_sub (k : RR G M pc ls' st h kc ks Q) (hs : ∀ q ∈ ls', q ∈ ls) : RR G M pc ls st h kc ks Q := by
  intro p l e R s m args below meth c E H locs cells slots lsA S
  exact k p l e R s m args below meth c E H locs cells slots lsA ⟨⟨S.1.1, S.1.2.1, fun q hq => S.1.2.2 q (hs q hq)⟩, S.2⟩
theorem x_metW {l : Launch} {av : List Value} (hfl : l.stackTraces = false) (hp : plainName M'.1.cls = true) (hlen : (lg_sl av).length ≤ M'.2.2.1) (spec : CC G M' av h Qc) :
    vx_Met l M'.1 (x_wsW M') (xm_R M') (va_Pc av (fun U => x_U G h U)) (x_PQ G Qc) (x_PX G Qc) (xm_R M').cells (xm_R M').slots (x_A G) := by
  refine vx_ofWH (hh := M'.2.2.2.2.1) hp rfl (fun p e s m args below meth c s₁ B hml hP => ?_)
  obtain ⟨rfl, hU⟩ := hP
  have hts := atoms_spec (ws := x_wsW M') B.pre
  have hl := lv_entry av (n := M'.2.2.1) hlen
  rw [lg_entry_eq]
  exact spec p l e _ s m av.toArray below meth c ⟨⟨B.exec, B.bytes, hml, findClass_of_methodNamed B.named, fun w hw => hts w (List.mem_cons_of_mem _ hw)⟩, B.returns, B.notSynchronized, (name_of_methodNamed B.named B.method).1, vx_table (x := M'.1) B (hts _ List.mem_cons_self), hfl, rfl, hU.2.2.2.2, hU.2.1, hU.2.2.1, hU.2.2.2.1⟩ s.heap [] 0 0 _ ⟨hl, hU.1, va_S.rf, by rw [Nat.zero_add]; exact Nat.le_refl _, by rw [Nat.zero_add]; exact Nat.le_refl _⟩
theorem r_callSW {idx n : Nat} {As : List Value} (hL : x_LSW M idx M' n) (hd : decode M.2.1 pc = .ok (.invokestatic idx, 3)) (hst : st = As.reverse ++ rest) (hn : As.length = n) (hrest : (rest.map fun v => v.category).sum ≤ 8) (hlen : (lg_sl As).length ≤ M'.2.2.1) (h1 : (xm_R M').cells ≤ kc) (h2 : (xm_R M').slots ≤ ks) (spec : CC G M' As h Qc)
    (kx : ∀ (E : String) (h' : xH), Qc (.inr E) h' → RX G M pc ls rest E h' (kc - (xm_R M').cells) (ks - (xm_R M').slots) Q)
    (kk : ∀ (v : Option Value) (h' : xH), Qc (.inl v) h' → RR G M (pc + 3) ls (v.toList ++ rest) h' (kc - (xm_R M').cells) (ks - (xm_R M').slots) Q) : RR G M pc ls st h kc ks Q := by
  intro p l e R s m args below meth c E H locs cells slots lsA S
  obtain ⟨⟨hd1, hR1, hco, hini, hpl⟩, hl, hse⟩ := hL
  refine x_back (a := As.toArray) h1 h2 kx kk p l e R s m args below meth c E H locs cells slots lsA S ?_
  have hR : R = xm_R M := E.2.2.2.2.2.2.1
  have hc := S.2.2.2.1
  have hs := S.2.2.2.2
  subst hR
  have hT : GoodIn bg_L (va_wsS M.1.cls idx M'.1 (x_wsW M')) := fun w hw => by
    rcases List.mem_append.mp hw with z | z
    · have z : w = Cond.methodLink M.1.cls idx M'.1 ∨ w = Cond.static M'.1 ∨ w = Cond.initialized M'.1.cls := by simpa using z
      rcases z with z | z | z
      · exact bg_self w (by rw [z]; exact hl)
      · exact bg_self w (by rw [z]; exact hse)
      · exact bg_self w (by rw [z]; exact hini)
    · rcases List.mem_cons.mp z with z | z
      · exact bg_self w (by rw [z]; exact hco)
      · exact bg_self w z
  exact vx_runSX (As := As) (rest := rest) E.1 (x_metW E.2.2.2.2.2.1 hpl hlen spec) (vx_cwSW (ws' := bg_L) n E.1.2.2.2.2 hT rfl rfl rfl hd1 hR1) ⟨x_blind, x_pc As E S⟩ rfl hn S.1.1 hst (lv_room hrest) hd ⟨by omega, by omega⟩
theorem k_callSW {idx n : Nat} {As : List Value} (hL : x_LSW M idx M' n) (hd : decode M.2.1 pc = .ok (.invokestatic idx, 3)) (hst : st = As.reverse ++ rest) (hn : As.length = n) (hrest : (rest.map fun v => v.category).sum ≤ 8) (hlen : (lg_sl As).length ≤ M'.2.2.1) (h1 : (xm_R M').cells ≤ kc) (h2 : (xm_R M').slots ≤ ks) (spec : CC G M' As h (fun o h' => o = .inl w ∧ P h')) (hw : w.toList ++ rest = st') (kk : ∀ h', P h' → RR G M (pc + 3) ls st' h' (kc - (xm_R M').cells) (ks - (xm_R M').slots) Q) : RR G M pc ls st h kc ks Q := by
  refine r_callSW hL hd hst hn hrest hlen h1 h2 spec (fun E h' q => by cases q.1) (fun v h' q => ?_)
  obtain ⟨q1, q2⟩ := q
  cases q1
  rw [hw]
  exact kk h' q2
/-- an exception is caught by a row of the table, past rows that name other classes -/
theorem rx_catch {E name : String} (pre : List ExceptionTableEntry) (x : ExceptionTableEntry) (suf : List ExceptionTableEntry) (hsplit : tableOf M.2.2.2.2.1 = pre ++ x :: suf) (hpass : ∀ z ∈ pre, covers z pc = false ∨ (z.catchType ≠ 0 ∧ ∃ nm : String, Cond.classLink M.1.cls z.catchType nm ∈ bg_L ∧ x_zz G (fun _ U _ => va_Nc E nm U))) (hx : covers x pc = true) (h0 : x.catchType ≠ 0) (hlink : Cond.classLink M.1.cls x.catchType name ∈ bg_L) (hcast : x_zz G (fun _ U _ => va_Nw (.castable E name) U))
    (k : ∀ q : Nat, RR G M x.handlerPc ls [.ref q] h kc ks Q) : RX G M pc ls st E h kc ks Q := by
  intro p l e R s m args below meth c En H locs cells slots lsA S ce q hce hcv hcl
  exact vx_catch En.1.2.2.2.1 pre x suf (En.2.2.2.2.1.trans hsplit) (fun z hz => (hpass z hz).imp id (fun y => ⟨y.1, by obtain ⟨nm, h1, h2⟩ := y.2; exact ⟨nm, En.1.2.2.2.2 _ h1, h2 s En.2.2.2.2.2.2.2.2.2.1⟩⟩)) hx h0 (En.1.2.2.2.2 _ hlink) (va_Nw.use rfl (hcast s En.2.2.2.2.2.2.2.2.2.1)) hce hcv hcl (k q p l e R s m args below meth c En H locs cells slots lsA S)
theorem x_callV {E : String} {idx n : Nat} {b : Nat} {As : List Value} (hL : x_LV M idx M' n) (hd : decode M.2.1 pc = .ok (.invokevirtual idx, 3)) (hst : st = As.reverse ++ .ref b :: rest) (hn : As.length = n) (hrest : (rest.map fun v => v.category).sum ≤ 8) (hlen : (lg_sl (.ref b :: As)).length ≤ M'.2.2.1) (hrv : x_RV G h M'.1.cls b) (h1 : (xm_R M').cells ≤ kc) (h2 : (xm_R M').slots ≤ ks) (spec : CC G M' (.ref b :: As) h (fun o h' => o = .inr E ∧ P h')) (kk : ∀ h', P h' → RX G M pc ls rest E h' (kc - (xm_R M').cells) (ks - (xm_R M').slots) Q) : RR G M pc ls st h kc ks Q := by
  refine r_callV hL hd hst hn hrest hlen hrv h1 h2 spec (fun E2 h' q => ?_) (fun v h' q => by cases q.1)
  obtain ⟨q1, q2⟩ := q
  cases q1
  exact kk h' q2
/-! the script that the law is given -/
theorem r_slen {b L : Nat} {zs : Nat → Int} (hX : x_zz G (fun _ U H => va_X b L (fun j => iI (zs j)) U H)) (hb : b < G.2.2.2) (hd : decode M.2.1 pc = .ok (.arraylength, 1)) (k : RR G M (pc + 1) ls (.int (iI (L : Int)) :: st) h kc ks Q) : RR G M pc ls (.ref b :: st) h kc ks Q := rr_of k fun _ _ _ _ s _ _ _ _ _ _ _ _ _ _ _ E S w => by
  exact va_slen E.1.1 E.1.2.1 (hX s E.2.2.2.2.2.2.2.2.2.1) (Nat.lt_of_lt_of_le hb E.2.2.2.2.2.2.2.1) (Nat.not_le.mpr hb) S.2.2.1 hd (by rw [← Int32.ofInt_eq_ofNat]; exact w)
theorem r_sld {b L : Nat} {zs : Nat → Int} {e : Int} (hX : x_zz G (fun _ U H => va_X b L (fun j => iI (zs j)) U H)) (hb : b < G.2.2.2) (j : Nat) (he : e = (j : Int)) (hj : j < L) (hL : L < 2 ^ 31) (hd : decode M.2.1 pc = .ok (.iaload, 1)) (k : RR G M (pc + 1) ls (.int (iI (zs j)) :: st) h kc ks Q) : RR G M pc ls (.int (iI e) :: .ref b :: st) h kc ks Q := rr_of k fun _ _ _ _ s _ _ _ _ _ _ _ _ _ _ _ E S w => by
  obtain ⟨h1, h2⟩ := x_in (i := iI e) (by rw [he, iI_nat]) hj hL
  exact va_sld E.1.1 E.1.2.1 (hX s E.2.2.2.2.2.2.2.2.2.1) (Nat.lt_of_lt_of_le hb E.2.2.2.2.2.2.2.1) (Nat.not_le.mpr hb) S.2.2.1 h1 hd (by rw [h2]; exact w)
theorem i_last {ar n : Nat} {g : Nat → Int64} {e : Int} {x : Int64} (k : Nat) (he : e = (k : Int)) (hd : decode M.2.1 pc = .ok (.lastore, 1)) (ha : ar ∈ h.1) (hf : h.2 ar = .inl (G.2.1 2, n, .inr (.inl g))) (hk : k < n) (hn : n < 2 ^ 31) (kk : ∀ h1 : xH, h1.1 = h.1 → h1.2 ar = .inl (G.2.1 2, n, .inr (.inl (vp_updL g k x))) → (∀ q, q ≠ ar → h1.2 q = h.2 q) → RR G M (pc + 1) ls st h1 kc ks Q) : RR G M pc ls (.long x :: .int (iI e) :: .ref ar :: st) h kc ks Q := r_last k (by rw [he, iI_nat]) hd ha hf hk hn (w_heap kk)
theorem i_dast {ar n : Nat} {g : Nat → UInt64} {e : Int} {x : UInt64} (k : Nat) (he : e = (k : Int)) (hd : decode M.2.1 pc = .ok (.dastore, 1)) (ha : ar ∈ h.1) (hf : h.2 ar = .inl (G.2.1 3, n, .inr (.inr (.inr (.inl g))))) (hk : k < n) (hn : n < 2 ^ 31) (kk : ∀ h1 : xH, h1.1 = h.1 → h1.2 ar = .inl (G.2.1 3, n, .inr (.inr (.inr (.inl (vf_upd g k x))))) → (∀ q, q ≠ ar → h1.2 q = h.2 q) → RR G M (pc + 1) ls st h1 kc ks Q) : RR G M pc ls (.double x :: .int (iI e) :: .ref ar :: st) h kc ks Q := r_dast k (by rw [he, iI_nat]) hd ha hf hk hn (w_heap kk)
end LCALL
/-! frames of the two states -/
theorem XB.fr {G : xG} {h h' : xH} {K : xK} {x : Nat} {a : XA} {S : XS} {fp : List Nat} (hX : XB G h K x a S) (hF : FRp fp h h') (hd : ∀ q ∈ fpX x a, q ∉ fp) : XB G h' K x a S := by
  obtain ⟨mx, fx, hI, ⟨I0, T0, t, num, hP⟩, ⟨cs, hS⟩, hB, ⟨B1, hB1⟩, ⟨B2, hB2, e2⟩, hH, hU, hD⟩ := hX
  have n : ∀ c, c < 9 → ∀ q ∈ (grp x a).getD c [], q ∉ fp := fun c hc q hq => hd q (jn_m (by simp; omega) hq)
  exact ⟨by rw [hF.1]; exact mx, (hF.2 x (n 0 (by decide) x (by simp [grp]))).trans fx, hI.fr hF (n 1 (by decide) _ (by simp [grp])), ⟨I0, T0, t, num, hP.fr hF (n 2 (by decide) _ (by simp [grp])) (n 2 (by decide) _ (by simp [grp]))⟩, ⟨cs, hS.fr hF (n 3 (by decide) _ (by simp [grp])) (n 3 (by decide) _ (by simp [grp])) (n 3 (by decide) _ (by simp [grp])) (n 3 (by decide) _ (by simp [grp]))⟩, hB.fr hF (n 4 (by decide)), ⟨B1, hB1.fr hF (n 5 (by decide))⟩, ⟨B2, hB2.fr hF (n 6 (by decide)), e2⟩, hH.fr hF (n 7 (by decide)), hU.fr hF (n 8 (by decide) _ (by simp [grp])) (n 8 (by decide) _ (by simp [grp])), hD⟩
theorem MB.fr {G : xG} {h h' : xH} {sa : Nat → Nat} {m : Nat} {a : MA} {S : XS} {c : Int} {fp : List Nat} (hB : MB G h sa m a S c) (hF : FRp fp h h') (hd : ∀ q ∈ fpM m a, q ∉ fp) (ho : a.2.2.2.2.2.2.2.2 ∉ fp) : MB G h' sa m a S c := by
  obtain ⟨r, hc, hM, hf, ⟨⟨gn, hn, hnW⟩, ⟨gd, hd9⟩, ⟨gk, hk, hkW⟩, ⟨gs, hs, hsW⟩, ⟨gh, hh, hhl, hhW⟩, ⟨go, ho9, hol, hoW⟩, hI, ⟨gq, hod⟩, ⟨ow1, gw, ow2, ow3⟩⟩, hND⟩ := hB
  have n : ∀ q, q ∈ fpM m a → q ∉ fp := hd
  refine ⟨r, hc, hM.fr hF (n _ (by simp [fpM])), hf, ⟨⟨gn, hn.fr hF (n _ (by simp [fpM])), hnW⟩, ⟨gd, hd9.fr hF (n _ (by simp [fpM]))⟩, ⟨gk, hk.fr hF (n _ (by simp [fpM])), hkW⟩, ⟨gs, hs.fr hF (n _ (by simp [fpM])), hsW⟩, ⟨gh, hh.fr hF (n _ (by simp [fpM])), hhl, hhW⟩, ⟨go, ho9.fr hF (n _ (by simp [fpM])), hol, hoW⟩, hI.fr hF (n _ (by simp [fpM])), ⟨gq, hod.fr hF (n _ (by simp [fpM]))⟩, ⟨by rw [hF.1]; exact ow1, gw, (hF.2 _ ho).trans ow2, ow3⟩⟩, hND⟩
