/-! ===== the core, third part: what is made, the JDK's methods that are rows, calls, throws ===== -/
section MAKE
variable {G : xG} {M : xM} {h : xH} {pc : Nat} {ls ls' : List (Nat × Value)} {st : List Value} {kc ks : Nat} {Q : xR → xH → Prop} {x y : Int32} {i : Nat}
theorem x_fresh {A : Nat → Prop} {L : List Nat} {f : Nat → va_E} {q : Nat} {e : va_E} (hD : va_D A (va_pl L f ++ [(q, e)])) : q ∉ L := by
  intro hq
  obtain ⟨k, hk⟩ := x_at (f := f) hq rfl
  have hl : k < (va_pl L f).length := (List.getElem?_eq_some_iff.mp hk).1
  have h1 : (va_pl L f ++ [(q, e)])[k]? = some (q, f q) := by rw [List.getElem?_append_left hl]; exact hk
  have h2 : (va_pl L f ++ [(q, e)])[(va_pl L f).length]? = some (q, e) := by rw [List.getElem?_append_right (Nat.le_refl _), Nat.sub_self]; rfl
  exact absurd (hD.1 _ _ _ _ h1 h2 rfl) (Nat.ne_of_lt hl)
theorem r_new {ci idx N : Nat} {C : String} {T : u_T} {ty : Nat → FieldType} {fs : List Value} (hC : x_CL ci C T N ty) (hl : Cond.classLink M.1.cls idx C ∈ bg_L) (hi : Cond.instantiable C N ∈ bg_L) (hini : Cond.initialized C ∈ bg_L) (hd : decode M.2.1 pc = .ok (.new idx, 3)) (hfs : ∀ j, j < N → defaultValue (ty j) = vp_V fs j) (h1 : 1 ≤ kc) (h2 : N ≤ ks)
    (kk : ∀ q : Nat, q ∉ h.1 → RR G M (pc + 3) ls (.ref q :: st) (h.1 ++ [q], va_up h.2 q (.inr (ci, fs))) (kc - 1) (ks - N) Q) : RR G M pc ls st h kc ks Q := by
  intro p l e R s m args below meth c E H locs cells slots lsA S
  have hc := S.2.2.2.1
  have hs := S.2.2.2.2
  have hR : R = xm_R M := E.2.2.2.2.2.2.1
  subst hR
  refine va_new E.1.1 E.1.2.1 E.1.2.2.2.2 hC.2.1 ty hC.2.2.1 E.1.2.2.2.1 (E.1.2.2.2.2 _ hl) (E.1.2.2.2.2 _ hi) (E.1.2.2.2.2 _ hini) E.2.2.2.2.2.2.2.2.1 S.2.1.1 S.2.1.2 S.2.2.1 (fun q hq => Nat.le_trans E.2.2.2.2.2.2.2.1 hq) hC.1 hfs (by omega) (by omega) hd (fun q H1 hP hD hS => ?_)
  have hq := x_fresh hD
  rw [va_pl_push hq] at hP hD
  exact kk q hq p l e _ s m args below meth c E H1 locs (cells + 1) (slots + N) lsA ⟨S.1, ⟨hP, hD⟩, hS, by show cells + 1 + (kc - 1) ≤ _; omega, by show slots + N + (ks - N) ≤ _; omega⟩
theorem x_ra_inj {U : State} {c1 c2 : ClassId} {ty : FieldType} (h1 : va_RA U c1 ty) (h2 : va_RA U c2 ty) : c1 = c2 := by
  cases ty with
  | object C =>
    obtain ⟨_, _, -, -, -, a⟩ := h1
    obtain ⟨_, _, -, -, -, b⟩ := h2
    exact Option.some.inj (a.symm.trans b)
  | _ => exact Option.some.inj ((show _ = some c1 from h1).symm.trans h2)
theorem x_last {D : va_G} {cl : List vw_C} {tys : List (ClassId × FieldType)} {cA : ClassId} {ty : FieldType} {s : State} (h : va_K D cl (tys ++ [(cA, ty)]) s) : va_RA s cA ty := (h.2 tys.length (cA, ty) (by rw [List.getElem?_append_right (Nat.le_refl _), Nat.sub_self]; rfl)).2
theorem r_newa {t N' : Nat} {atype : ArrayType} {ty : FieldType} {n : Int32} {a0 : vp_A} (hty : newarray.typeOf atype = ty) (ht : (x_tys G.2.1)[t]? = some (G.2.1 t, ty)) (hw : Cond.arrayClass (newarray.typeOf atype) ∈ bg_L) (ha : ∀ cA : ClassId, vp_cell cA a0 = arrV cA N' (fun _ => defaultValue ty)) (hd : decode M.2.1 pc = .ok (.newarray atype, 2)) (hn : ¬ n < 0) (hN : n.toNatClampNeg = N') (hb : N' * componentBytes ty ≤ 536870912) (h1 : 1 ≤ kc) (h2 : N' ≤ ks)
    (kk : ∀ q : Nat, q ∉ h.1 → RR G M (pc + 2) ls (.ref q :: st) (h.1 ++ [q], va_up h.2 q (.inl (G.2.1 t, a0))) (kc - 1) (ks - N') Q) : RR G M pc ls (.int n :: st) h kc ks Q := by
  intro p l e R s m args below meth c E H locs cells slots lsA S
  have hc := S.2.2.2.1
  have hs := S.2.2.2.2
  have hR : R = xm_R M := E.2.2.2.2.2.2.1
  subst hR
  refine va_newa (atype := atype) E.1.1 E.1.2.1 (E.1.2.2.2.2 _ hw) hty E.2.2.2.2.2.2.2.2.1 S.2.1.1 S.2.1.2 S.2.2.1 (fun q hq => Nat.le_trans E.2.2.2.2.2.2.2.1 hq) ha hn hN hb (by omega) (by omega) hd (fun q cA H1 hK hP hD hS => ?_)
  have hcA : cA = G.2.1 t := x_ra_inj (x_last hK) (E.2.2.2.2.2.2.2.2.1.2 t _ ht).2
  subst hcA
  have hq := x_fresh hD
  rw [va_pl_push hq] at hP hD
  exact kk q hq p l e _ s m args below meth c E H1 locs (cells + 1) (slots + N') lsA ⟨S.1, ⟨hP, hD⟩, hS, by show cells + 1 + (kc - 1) ≤ _; omega, by show slots + N' + (ks - N') ≤ _; omega⟩
theorem r_newq {t N' idx : Nat} {C : String} {n : Int32} (ht : (x_tys G.2.1)[t]? = some (G.2.1 t, .object C)) (hl : Cond.classLink M.1.cls idx C ∈ bg_L) (hw : ∀ s : State, (∀ (args : Array Value), (∀ w ∈ bg_L, w.before args s = true) → va_AO C s)) (hd : decode M.2.1 pc = .ok (.anewarray idx, 3)) (hn : ¬ n < 0) (hN : n.toNatClampNeg = N') (hb : N' * 4 ≤ 536870912) (h1 : 1 ≤ kc) (h2 : N' ≤ ks)
    (kk : ∀ q : Nat, q ∉ h.1 → RR G M (pc + 3) ls (.ref q :: st) (h.1 ++ [q], va_up h.2 q (.inl (G.2.1 t, N', .inr (.inr (.inr (.inr (fun _ => none))))))) (kc - 1) (ks - N') Q) : RR G M pc ls (.int n :: st) h kc ks Q := by
  intro p l e R s m args below meth c E H locs cells slots lsA S
  have hc := S.2.2.2.1
  have hs := S.2.2.2.2
  have hR : R = xm_R M := E.2.2.2.2.2.2.1
  subst hR
  refine va_newq E.1.1 E.1.2.1 E.1.2.2.2.1 (E.1.2.2.2.2 _ hl) (hw s args E.1.2.2.2.2) E.2.2.2.2.2.2.2.2.1 S.2.1.1 S.2.1.2 S.2.2.1 (fun q hq => Nat.le_trans E.2.2.2.2.2.2.2.1 hq) hn hN hb (by omega) (by omega) hd (fun q cA H1 hK hP hD hS => ?_)
  have hcA : cA = G.2.1 t := x_ra_inj (x_last hK) (E.2.2.2.2.2.2.2.2.1.2 t _ ht).2
  subst hcA
  have hq := x_fresh hD
  rw [va_pl_push hq] at hP hD
  exact kk q hq p l e _ s m args below meth c E H1 locs (cells + 1) (slots + N') lsA ⟨S.1, ⟨hP, hD⟩, hS, by show cells + 1 + (kc - 1) ≤ _; omega, by show slots + N' + (ks - N') ≤ _; omega⟩
/-- Object.<init> -/
theorem r_objinit {idx a : Nat} (h1 : Cond.methodLink M.1.cls idx Lib.objectInit ∈ bg_L) (h2 : Cond.instanceMethod Lib.objectInit ∈ bg_L) (h3 : Cond.code Lib.objectInit ⟨#[0xb1]⟩ 1 none ∈ bg_L) (hd : decode M.2.1 pc = .ok (.invokespecial idx, 3)) (hf : 1 ≤ (xm_R M).frames) (hlo : (st.map fun v => v.category).sum + 12 ≤ (xm_R M).locals)
    (k : RR G M (pc + 3) ls st h kc ks Q) : RR G M pc ls (.ref a :: st) h kc ks Q := rr_of k fun _ _ _ R _ _ _ _ _ _ _ _ _ _ _ _ E S w => by
  have hR : R = xm_R M := E.2.2.2.2.2.2.1
  subst hR
  exact W.objInit E.1.1 E.1.2.1 E.1.2.2.2.1 (E.1.2.2.2.2 _ h1) (E.1.2.2.2.2 _ h2) (E.1.2.2.2.2 _ h3) rfl (by rw [E.1.2.2.1]; exact S.1.1) rfl hd hf (by show 2 * 0 + _ + 12 ≤ _; omega) w
/-- the words of Math.max, Math.min, System.arraycopy at a place -/
def x_MX (M : xM) (idx : Nat) (n : Nat) : Prop := Cond.methodLink M.1.cls idx Lib.Math.max.name ∈ bg_L ∧ Cond.static Lib.Math.max.name ∈ bg_L ∧ Cond.initialized "java/lang/Math" ∈ bg_L ∧ Cond.code Lib.Math.max.name Lib.Math.max.code 2 (some .int) ∈ bg_L ∧ 1 ≤ (xm_R M).frames ∧ n + 13 ≤ (xm_R M).locals
def x_MN (M : xM) (idx : Nat) (n : Nat) : Prop := Cond.methodLink M.1.cls idx Lib.Math.min.name ∈ bg_L ∧ Cond.static Lib.Math.min.name ∈ bg_L ∧ Cond.initialized "java/lang/Math" ∈ bg_L ∧ Cond.code Lib.Math.min.name Lib.Math.min.code 2 (some .int) ∈ bg_L ∧ 1 ≤ (xm_R M).frames ∧ n + 13 ≤ (xm_R M).locals
theorem r_max {idx n : Nat} (hX : x_MX M idx n) (hst : (st.map fun v => v.category).sum = n) (hd : decode M.2.1 pc = .ok (.invokestatic idx, 3)) (k : RR G M (pc + 3) ls (.int (if x < y then y else x) :: st) h kc ks Q) : RR G M pc ls (.int y :: .int x :: st) h kc ks Q := rr_of k fun _ _ _ R _ _ _ _ _ _ _ _ _ _ _ _ E S w => by
  have hR : R = xm_R M := E.2.2.2.2.2.2.1
  subst hR
  exact va_mmax E.1.1 E.1.2.1 (by rw [E.1.2.2.1]; exact S.1.1.symm) E.1.2.2.2.1 (E.1.2.2.2.2 _ hX.1) (E.1.2.2.2.2 _ hX.2.1) (E.1.2.2.2.2 _ hX.2.2.1) (E.1.2.2.2.2 _ hX.2.2.2.1) hX.2.2.2.2.1 (by rw [hst]; exact hX.2.2.2.2.2) (Nat.le_trans (Nat.le_add_right _ _) S.2.2.2.1) (Nat.le_trans (Nat.le_add_right _ _) S.2.2.2.2) hd w
theorem r_min {idx n : Nat} (hX : x_MN M idx n) (hst : (st.map fun v => v.category).sum = n) (hd : decode M.2.1 pc = .ok (.invokestatic idx, 3)) (k : RR G M (pc + 3) ls (.int (if y < x then y else x) :: st) h kc ks Q) : RR G M pc ls (.int y :: .int x :: st) h kc ks Q := rr_of k fun _ _ _ R _ _ _ _ _ _ _ _ _ _ _ _ E S w => by
  have hR : R = xm_R M := E.2.2.2.2.2.2.1
  subst hR
  exact va_mmin E.1.1 E.1.2.1 (by rw [E.1.2.2.1]; exact S.1.1.symm) E.1.2.2.2.1 (E.1.2.2.2.2 _ hX.1) (E.1.2.2.2.2 _ hX.2.1) (E.1.2.2.2.2 _ hX.2.2.1) (E.1.2.2.2.2 _ hX.2.2.2.1) hX.2.2.2.2.1 (by rw [hst]; exact hX.2.2.2.2.2) (Nat.le_trans (Nat.le_add_right _ _) S.2.2.2.1) (Nat.le_trans (Nat.le_add_right _ _) S.2.2.2.2) hd w
def x_CP (M : xM) (idx : Nat) (n : Nat) : Prop := Cond.methodLink M.1.cls idx arraycopyName ∈ bg_L ∧ Cond.native arraycopyName ∈ bg_L ∧ Cond.static arraycopyName ∈ bg_L ∧ Cond.initialized "java/lang/System" ∈ bg_L ∧ 1 ≤ (xm_R M).frames ∧ n + (nativeFrameWords "java/lang/System" "arraycopy" 5 + 11) ≤ (xm_R M).locals
theorem r_copy {idx w a a0 n0 n1 : Nat} {f g : Nat → Int32} {sp dp n : Int32} (sj dj nj : Nat) (hs : sp = nI sj) (hdp : dp = nI dj) (hn : n = nI nj) (hX : x_CP M idx w) (hst : (st.map fun v => v.category).sum = w) (hd : decode M.2.1 pc = .ok (.invokestatic idx, 3)) (ha0 : a0 ∈ h.1) (hf0 : h.2 a0 = .inl (G.2.1 0, n0, .inl f)) (ha : a ∈ h.1) (hf : h.2 a = .inl (G.2.1 0, n1, .inl g)) (h4 : sj + nj ≤ n0) (h5 : dj + nj ≤ n1) (h6 : n0 < 2 ^ 31) (h7 : n1 < 2 ^ 31)
    (k : RR G M (pc + 3) ls st (h.1, va_up h.2 a (.inl (G.2.1 0, n1, .inl (va_cpy f g sj dj nj)))) kc ks Q) : RR G M pc ls (.int n :: .int dp :: .ref a :: .int sp :: .ref a0 :: st) h kc ks Q := by
  subst hs; subst hdp; subst hn
  have hsz : sj < 2 ^ 31 := by omega
  have hdz : dj < 2 ^ 31 := by omega
  have hnz : nj < 2 ^ 31 := by omega
  intro p l e R s m args below meth c E H locs cells slots lsA S
  obtain ⟨q0, hq0⟩ := x_at ha0 hf0
  obtain ⟨q1, hq1⟩ := x_at ha hf
  have hR : R = xm_R M := E.2.2.2.2.2.2.1
  subst hR
  refine va_copyi E.1.1 E.1.2.1 (by rw [E.1.2.2.1]; exact S.1.1.symm) E.1.2.2.2.1 (E.1.2.2.2.2 _ hX.1) (E.1.2.2.2.2 _ hX.2.1) (E.1.2.2.2.2 _ hX.2.2.1) (E.1.2.2.2.2 _ hX.2.2.2.1) E.2.2.2.2.2.2.2.2.1 S.2.1.1 S.2.1.2 S.2.2.1 q0 q1 0 0 (ty := .int) hq0 hq1 rfl rfl rfl (nI_pos hsz) (nI_pos hdz) (nI_pos hnz) (by rw [nI_clamp hsz, nI_clamp hnz]; exact h4) (by rw [nI_clamp hdz, nI_clamp hnz]; exact h5) (fun _ _ => rfl) hX.2.2.2.2.1 (by rw [hst]; exact hX.2.2.2.2.2) hd (fun H1 locs1 hP hD hS => ?_)
  rw [nI_clamp hsz, nI_clamp hdz, nI_clamp hnz, x_setw S.2.1.2 ha hf hq1] at hP hD
  exact k p l e _ s m args below meth c E H1 locs1 cells slots lsA ⟨S.1, ⟨hP, hD⟩, hS, S.2.2.2⟩
end MAKE
section CALLS
variable {G : xG} {M M' : xM} {h : xH} {pc : Nat} {ls ls' : List (Nat × Value)} {st rest : List Value} {kc ks : Nat} {Q Qc : xR → xH → Prop}
/-- what a call of M' out of M asks of the tables and of the room; n: the arguments -/
def x_LB (M M' : xM) (n : Nat) : Prop := (M'.1.cls ≠ "java/lang/invoke/MethodHandle" ∧ M'.1.cls ≠ "java/lang/invoke/VarHandle" ∧ (parseMethodDescriptor M'.1.desc).map (fun d => d.parameters.length) = some n) ∧ ((xm_R M').frames + 1 ≤ (xm_R M).frames ∧ 8 + (M'.2.2.1 + 11) + (xm_R M').locals ≤ (xm_R M).locals) ∧ Cond.code M'.1 M'.2.1 M'.2.2.1 M'.2.2.2.1 ∈ bg_L ∧ Cond.initialized M'.1.cls ∈ bg_L ∧ plainName M'.1.cls = true ∧ M'.2.2.2.2.1 = []
def x_LV (M : xM) (idx : Nat) (M' : xM) (n : Nat) : Prop := x_LB M M' n ∧ Cond.methodLink M.1.cls idx M'.1 ∈ bg_L ∧ Cond.instanceMethod M'.1 ∈ bg_L ∧ Cond.selects M'.1.cls M'.1 M'.1 ∈ bg_L
def x_LS (M : xM) (idx : Nat) (M' : xM) (n : Nat) : Prop := x_LB M M' n ∧ Cond.methodLink M.1.cls idx M'.1 ∈ bg_L ∧ Cond.static M'.1 ∈ bg_L
def x_LI (M : xM) (idx : Nat) (M' : xM) (n : Nat) : Prop := x_LB M M' n ∧ Cond.methodLink M.1.cls idx M'.1 ∈ bg_L ∧ Cond.instanceMethod M'.1 ∈ bg_L ∧ M'.1.name = "<init>" ∧ M'.2.2.2.1 = none
def x_LSN (G : xG) (M : xM) (idx : Nat) (M' : xM) (n : Nat) (host : String) : Prop := x_LB M M' n ∧ (∀ s : State, G.2.2.1 (x_A G) s s.heap → va_Nw (.methodLinkNest M.1.cls idx M'.1 host) s) ∧ Cond.static M'.1 ∈ bg_L
def x_LIN (G : xG) (M : xM) (idx : Nat) (M' : xM) (n : Nat) (host : String) : Prop := x_LB M M' n ∧ (∀ s : State, G.2.2.1 (x_A G) s s.heap → va_Nw (.methodLinkNest M.1.cls idx M'.1 host) s) ∧ Cond.instanceMethod M'.1 ∈ bg_L ∧ M'.1.name = "<init>" ∧ M'.2.2.2.1 = none
def x_ws (M : xM) : List Cond := Cond.code M.1 M.2.1 M.2.2.1 M.2.2.2.1 :: bg_L
theorem x_goodws (hB : Cond.code M'.1 M'.2.1 M'.2.2.1 M'.2.2.2.1 ∈ bg_L) : GoodIn bg_L (x_ws M') := fun w hw => by
  rcases List.mem_cons.mp hw with e | e
  · exact bg_self w (by rw [e]; exact hB)
  · exact bg_self w e
/-- the contract over the machine -/
theorem x_met {l : Launch} {av : List Value} (hfl : l.stackTraces = false) (hp : plainName M'.1.cls = true) (hhh : M'.2.2.2.2.1 = []) (hlen : (lg_sl av).length ≤ M'.2.2.1) (spec : CC G M' av h Qc) :
    vx_Met l M'.1 (x_ws M') (xm_R M') (va_Pc av (fun U => x_U G h U)) (x_PQ G Qc) (x_PX G Qc) (xm_R M').cells (xm_R M').slots (x_A G) := by
  refine vx_ofW hp rfl (fun p e s m args below meth c s₁ B hml ht hP => ?_)
  obtain ⟨rfl, hU⟩ := hP
  have hts := atoms_spec (ws := x_ws M') B.pre
  have hl := lv_entry av (n := M'.2.2.1) hlen
  rw [lg_entry_eq]
  refine spec p l e _ s m av.toArray below meth c ⟨⟨B.exec, B.bytes, hml, findClass_of_methodNamed B.named, fun w hw => hts w (List.mem_cons_of_mem _ hw)⟩, B.returns, B.notSynchronized, (name_of_methodNamed B.named B.method).1, ?_, hfl, rfl, hU.2.2.2.2, hU.2.1, hU.2.2.1, hU.2.2.2.1⟩ s.heap [] 0 0 _ ⟨hl, hU.1, va_S.rf, by rw [Nat.zero_add]; exact Nat.le_refl _, by rw [Nat.zero_add]; exact Nat.le_refl _⟩
  rw [hhh]
  exact List.eq_nil_iff_forall_not_mem.mpr (fun x hx => ht x hx)
theorem x_blind {av : List Value} : FrameBlind (va_Pc av (fun U => x_U G h U)) := fun a U g mk ⟨h1, hU⟩ => ⟨h1, hU.1, va_K.moved (u := U) (U := U.calling g mk a) (Vm.Alike.refl U.vm) hU.2.1, hU.2.2.2.1.1 _ U (U.calling g mk a) _ (State.WarmedH.refl U) hU.2.2.1, hU.2.2.2.1, hU.2.2.2.2⟩
theorem x_pc {p : Program} {l : Launch} {R : Room} {s : State} {m : MethodId} {args : Array Value} {meth : Method} {c : Code} {H : Heap} {locs : List Loc} {cells slots : Nat} {lsA : Array Slot} (av : List Value) (E : x_EN G M p l R s m args meth c) (S : x_ST G M s H locs cells slots lsA ls h kc ks) : ∀ U : State, U.heap = H → s.WarmedH U.vm → va_Pc av (fun U => x_U G h U) av.toArray U := by
  intro U hU hW
  refine ⟨rfl, ?_, va_K.moved hW.alike E.2.2.2.2.2.2.2.2.1, ?_, E.2.2.2.2.2.2.2.2.2.2, ?_⟩
  · show x_hw G h U.heap
    rw [hU]; exact S.2.1
  · refine E.2.2.2.2.2.2.2.2.2.2.1 _ s U _ hW ?_
    rw [hU]
    exact E.2.2.2.2.2.2.2.2.2.2.2 _ _ _ _ E.2.2.2.2.2.2.2.2.2.1 S.2.2.1.2.1
  · rw [hU]
    exact Nat.le_trans E.2.2.2.2.2.2.2.1 S.2.2.1.1
/-- behind a call: what came back is gone on with -/
theorem x_back {mc ms : Nat} {a : Array Value} (h1 : mc ≤ kc) (h2 : ms ≤ ks)
    (kx : ∀ (E : String) (h' : xH), Qc (.inr E) h' → RX G M pc ls rest E h' (kc - mc) (ks - ms) Q)
    (kk : ∀ (v : Option Value) (h' : xH), Qc (.inl v) h' → RR G M (pc + 3) ls (v.toList ++ rest) h' (kc - mc) (ks - ms) Q)
    (p : Program) (l : Launch) (e : Env) (R : Room) (s : State) (m : MethodId) (args : Array Value) (below : List Frame) (meth : Method) (c : Code) (E : x_EN G M p l R s m args meth c) (H : Heap) (locs : List Loc) (cells slots : Nat) (lsA : Array Slot) (S : x_ST G M s H locs cells slots lsA ls h kc ks)
    (hr : vx_Run p l e R s m args below meth c H locs cells slots mc ms (F0 m pc lsA st) rest (x_PQ G Qc a) (x_PX G Qc) (x_A G)) : W p l e R s m args below meth c H locs cells slots (x_E G M Q below args s) (F0 m pc lsA st) := by
  intro T hT X
  have hc := S.2.2.2.1
  have hs := S.2.2.2.2
  rcases hr T hT X with ⟨v, st₀, t, T', L, e0, X', hL, e1, e2, ⟨v', h', hv, hq, hw', hF'⟩, stp⟩ | ⟨q, st₀, t, T', L, E', ce, e0, X', hL, e1, e2, ⟨h', hq, hw', hF'⟩, hce, hcv, hcl, stp⟩
  · cases hv
    obtain ⟨-, -, k3⟩ := vx_keep e0 e1 S.2.2.1 (fun _ _ z => z) (fun _ z => z) hL hF'
    obtain ⟨t2, a1, b1⟩ := kk v h' hq p l e R s m args below meth c E T'.heap (locs ++ L) (cells + mc) (slots + ms) lsA ⟨S.1, by rw [e1]; exact hw', k3, by omega, by omega⟩ T' rfl X'
    exact ⟨t2, stp t2 a1, b1⟩
  · obtain ⟨-, -, k3⟩ := vx_keep e0 e1 S.2.2.1 (fun _ _ z => z) (fun _ z => z) hL hF'
    obtain ⟨t2, a1, b1⟩ := kx E' h' hq p l e R s m args below meth c E T'.heap (locs ++ L) (cells + mc) (slots + ms) lsA ⟨S.1, by rw [e1]; exact hw', k3, by omega, by omega⟩ ce q (by rw [e1]; exact hce) hcv hcl T' rfl X'
    exact ⟨t2, stp.trans a1, b1⟩
/-- an object of class C stands at b -/
def x_RV (G : xG) (h : xH) (C : String) (b : Nat) : Prop := ∀ (s : State) (H : Heap) (locs : List Loc), x_hw G h H → va_K G.1 vwCl (x_tys G.2.1) s → G.2.2.1 (x_A G) s s.heap → va_S (x_A G) s.heap H locs → ∃ cellB : Cell, H[b]? = some cellB ∧ cellB.vm.isStatics = false ∧ s.vm.findClass C = some cellB.cls
theorem x_rv {b ci N : Nat} {C : String} {T : u_T} {fs : List Value} (hb : b ∈ h.1) (hf : h.2 b = .inr (ci, fs)) (hc : vwCl[ci]? = some (C, T, N)) : x_RV G h C b := fun s H locs hw hK _ _ => by
  obtain ⟨q, hq⟩ := x_at hb hf
  exact va_recv hK hw.1 hc hq
theorem r_callV {idx n b : Nat} {As : List Value} (hL : x_LV M idx M' n) (hd : decode M.2.1 pc = .ok (.invokevirtual idx, 3)) (hst : st = As.reverse ++ .ref b :: rest) (hn : As.length = n) (hrest : (rest.map fun v => v.category).sum ≤ 8) (hlen : (lg_sl (.ref b :: As)).length ≤ M'.2.2.1) (hrv : x_RV G h M'.1.cls b) (h1 : (xm_R M').cells ≤ kc) (h2 : (xm_R M').slots ≤ ks) (spec : CC G M' (.ref b :: As) h Qc)
    (kx : ∀ (E : String) (h' : xH), Qc (.inr E) h' → RX G M pc ls rest E h' (kc - (xm_R M').cells) (ks - (xm_R M').slots) Q)
    (kk : ∀ (v : Option Value) (h' : xH), Qc (.inl v) h' → RR G M (pc + 3) ls (v.toList ++ rest) h' (kc - (xm_R M').cells) (ks - (xm_R M').slots) Q) : RR G M pc ls st h kc ks Q := by
  intro p l e R s m args below meth c E H locs cells slots lsA S
  obtain ⟨⟨hd1, hR1, hco, hini, hpl, hhh⟩, hl, hin, hse⟩ := hL
  refine x_back (a := (Value.ref b :: As).toArray) h1 h2 kx kk p l e R s m args below meth c E H locs cells slots lsA S ?_
  have hR : R = xm_R M := E.2.2.2.2.2.2.1
  have hc := S.2.2.2.1
  have hs := S.2.2.2.2
  subst hR
  exact vx_runV (As := As) (rest := rest) (b := b) (C := M'.1.cls) E.1 (x_met E.2.2.2.2.2.1 hpl hhh hlen spec) ⟨callB_of n E.1.2.2.2.2 (x_goodws hco) rfl rfl rfl (E.1.2.2.2.2 _ hini) (E.1.2.2.2.2 _ hl) hd1 hR1, E.1.2.2.2.2 _ hin, E.1.2.2.2.2 _ hse⟩ ⟨x_blind, hrv s H locs S.2.1 E.2.2.2.2.2.2.2.2.1 E.2.2.2.2.2.2.2.2.2.1 S.2.2.1, x_pc (.ref b :: As) E S⟩ rfl hn S.1.1 hst (lv_room hrest) hd ⟨by omega, by omega⟩
theorem r_callS {idx n : Nat} {As : List Value} (hL : x_LS M idx M' n) (hd : decode M.2.1 pc = .ok (.invokestatic idx, 3)) (hst : st = As.reverse ++ rest) (hn : As.length = n) (hrest : (rest.map fun v => v.category).sum ≤ 8) (hlen : (lg_sl As).length ≤ M'.2.2.1) (h1 : (xm_R M').cells ≤ kc) (h2 : (xm_R M').slots ≤ ks) (spec : CC G M' As h Qc)
    (kx : ∀ (E : String) (h' : xH), Qc (.inr E) h' → RX G M pc ls rest E h' (kc - (xm_R M').cells) (ks - (xm_R M').slots) Q)
    (kk : ∀ (v : Option Value) (h' : xH), Qc (.inl v) h' → RR G M (pc + 3) ls (v.toList ++ rest) h' (kc - (xm_R M').cells) (ks - (xm_R M').slots) Q) : RR G M pc ls st h kc ks Q := by
  intro p l e R s m args below meth c E H locs cells slots lsA S
  obtain ⟨⟨hd1, hR1, hco, hini, hpl, hhh⟩, hl, hse⟩ := hL
  refine x_back (a := As.toArray) h1 h2 kx kk p l e R s m args below meth c E H locs cells slots lsA S ?_
  have hR : R = xm_R M := E.2.2.2.2.2.2.1
  have hc := S.2.2.2.1
  have hs := S.2.2.2.2
  subst hR
  exact vx_runS (As := As) (rest := rest) E.1 (x_met E.2.2.2.2.2.1 hpl hhh hlen spec) ⟨callB_of n E.1.2.2.2.2 (x_goodws hco) rfl rfl rfl (E.1.2.2.2.2 _ hini) (E.1.2.2.2.2 _ hl) hd1 hR1, E.1.2.2.2.2 _ hse⟩ ⟨x_blind, x_pc As E S⟩ rfl hn S.1.1 hst (lv_room hrest) hd ⟨by omega, by omega⟩
theorem r_callI {idx n b : Nat} {As : List Value} (hL : x_LI M idx M' n) (hd : decode M.2.1 pc = .ok (.invokespecial idx, 3)) (hst : st = As.reverse ++ .ref b :: rest) (hn : As.length = n) (hrest : (rest.map fun v => v.category).sum ≤ 8) (hlen : (lg_sl (.ref b :: As)).length ≤ M'.2.2.1) (h1 : (xm_R M').cells ≤ kc) (h2 : (xm_R M').slots ≤ ks) (spec : CC G M' (.ref b :: As) h Qc)
    (kx : ∀ (E : String) (h' : xH), Qc (.inr E) h' → RX G M pc ls rest E h' (kc - (xm_R M').cells) (ks - (xm_R M').slots) Q)
    (kk : ∀ (v : Option Value) (h' : xH), Qc (.inl v) h' → RR G M (pc + 3) ls (v.toList ++ rest) h' (kc - (xm_R M').cells) (ks - (xm_R M').slots) Q) : RR G M pc ls st h kc ks Q := by
  intro p l e R s m args below meth c E H locs cells slots lsA S
  obtain ⟨⟨hd1, hR1, hco, hini, hpl, hhh⟩, hl, hin, hy, hrn⟩ := hL
  refine x_back (a := (Value.ref b :: As).toArray) h1 h2 kx kk p l e R s m args below meth c E H locs cells slots lsA S ?_
  have hR : R = xm_R M := E.2.2.2.2.2.2.1
  have hc := S.2.2.2.1
  have hs := S.2.2.2.2
  subst hR
  have hB := callB_of (ws := x_ws M') (rm := xm_R M') (own := M.1.cls) (index := idx) (R := xm_R M) n E.1.2.2.2.2 (x_goodws hco) rfl rfl rfl (E.1.2.2.2.2 _ hini) (E.1.2.2.2.2 _ hl) hd1 hR1
  rw [hrn] at hB
  exact vx_runI (As := As) (rest := rest) (b := b) E.1 (x_met E.2.2.2.2.2.1 hpl hhh hlen spec) ⟨hB, hy, E.1.2.2.2.2 _ hin⟩ ⟨x_blind, x_pc (.ref b :: As) E S⟩ rfl hn S.1.1 hst (lv_room hrest) hd ⟨by omega, by omega⟩
theorem r_callSN {idx n : Nat} {host : String} {As : List Value} (hL : x_LSN G M idx M' n host) (hd : decode M.2.1 pc = .ok (.invokestatic idx, 3)) (hst : st = As.reverse ++ rest) (hn : As.length = n) (hrest : (rest.map fun v => v.category).sum ≤ 8) (hlen : (lg_sl As).length ≤ M'.2.2.1) (h1 : (xm_R M').cells ≤ kc) (h2 : (xm_R M').slots ≤ ks) (spec : CC G M' As h Qc)
    (kx : ∀ (E : String) (h' : xH), Qc (.inr E) h' → RX G M pc ls rest E h' (kc - (xm_R M').cells) (ks - (xm_R M').slots) Q)
    (kk : ∀ (v : Option Value) (h' : xH), Qc (.inl v) h' → RR G M (pc + 3) ls (v.toList ++ rest) h' (kc - (xm_R M').cells) (ks - (xm_R M').slots) Q) : RR G M pc ls st h kc ks Q := by
  intro p l e R s m args below meth c E H locs cells slots lsA S
  obtain ⟨⟨hd1, hR1, hco, hini, hpl, hhh⟩, hl, hse⟩ := hL
  refine x_back (a := As.toArray) h1 h2 kx kk p l e R s m args below meth c E H locs cells slots lsA S ?_
  have hR : R = xm_R M := E.2.2.2.2.2.2.1
  have hc := S.2.2.2.1
  have hs := S.2.2.2.2
  subst hR
  exact vx_runSN (As := As) (rest := rest) E.1 (x_met E.2.2.2.2.2.1 hpl hhh hlen spec) ⟨va_cnB n E.1.2.2.2.2 (x_goodws hco) rfl rfl rfl (hl s E.2.2.2.2.2.2.2.2.2.1) (E.1.2.2.2.2 _ hini) hd1 hR1, E.1.2.2.2.2 _ hse, trivial⟩ ⟨x_blind, x_pc As E S⟩ rfl hn S.1.1 hst (lv_room hrest) hd ⟨by omega, by omega⟩
theorem r_callIN {idx n b : Nat} {host : String} {As : List Value} (hL : x_LIN G M idx M' n host) (hd : decode M.2.1 pc = .ok (.invokespecial idx, 3)) (hst : st = As.reverse ++ .ref b :: rest) (hn : As.length = n) (hrest : (rest.map fun v => v.category).sum ≤ 8) (hlen : (lg_sl (.ref b :: As)).length ≤ M'.2.2.1) (h1 : (xm_R M').cells ≤ kc) (h2 : (xm_R M').slots ≤ ks) (spec : CC G M' (.ref b :: As) h Qc)
    (kx : ∀ (E : String) (h' : xH), Qc (.inr E) h' → RX G M pc ls rest E h' (kc - (xm_R M').cells) (ks - (xm_R M').slots) Q)
    (kk : ∀ (v : Option Value) (h' : xH), Qc (.inl v) h' → RR G M (pc + 3) ls (v.toList ++ rest) h' (kc - (xm_R M').cells) (ks - (xm_R M').slots) Q) : RR G M pc ls st h kc ks Q := by
  intro p l e R s m args below meth c E H locs cells slots lsA S
  obtain ⟨⟨hd1, hR1, hco, hini, hpl, hhh⟩, hl, hin, hy, hrn⟩ := hL
  refine x_back (a := (Value.ref b :: As).toArray) h1 h2 kx kk p l e R s m args below meth c E H locs cells slots lsA S ?_
  have hR : R = xm_R M := E.2.2.2.2.2.2.1
  have hc := S.2.2.2.1
  have hs := S.2.2.2.2
  subst hR
  have hB := va_cnB (ws := x_ws M') (rm := xm_R M') (own := M.1.cls) (index := idx) (host := host) (R := xm_R M) n E.1.2.2.2.2 (x_goodws hco) rfl rfl rfl (hl s E.2.2.2.2.2.2.2.2.2.1) (E.1.2.2.2.2 _ hini) hd1 hR1
  rw [hrn] at hB
  exact vx_runIN (As := As) (rest := rest) (b := b) E.1 (x_met E.2.2.2.2.2.1 hpl hhh hlen spec) ⟨hB, hy, E.1.2.2.2.2 _ hin⟩ ⟨x_blind, x_pc (.ref b :: As) E S⟩ rfl hn S.1.1 hst (lv_room hrest) hd ⟨by omega, by omega⟩
/-- an exception leaves a method that has no handlers -/
theorem rx_out {E : String} (hhh : M.2.2.2.2.1 = []) (hQ : Q (.inr E) h) : RX G M pc ls rest E h kc ks Q := by
  intro p l e R s m args below meth c En H locs cells slots lsA S ce q hce hcv hcl
  refine vx_out (fun x hx => ?_) En.2.2.1 hce hcv hcl (fun t ht _ => ⟨h, hQ, by rw [ht]; exact S.2.1, S.2.2.1.F ht⟩) S.2.2.1.2.2 (Nat.le_trans (Nat.le_add_right _ _) S.2.2.2.1) (Nat.le_trans (Nat.le_add_right _ _) S.2.2.2.2)
  rw [En.2.2.2.2.1, hhh] at hx
  cases hx
end CALLS
