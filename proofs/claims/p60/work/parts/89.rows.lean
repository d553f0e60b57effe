/-! ===== rows for the JDK's builders: rows of bytes, copies, calls of what is inherited ===== -/
theorem kaB : Cond.arrayClass (newarray.typeOf .byte) ∈ bg_L := bg_in 372 (by decide +kernel) rfl
/-- a byte from 0 to 127 -/
def bok (x : Int32) : Prop := ∃ z : Int, (0 ≤ z ∧ z < 128) ∧ x = iI z
theorem c128_a : ∀ n : Fin 128, vp_nar .byte (iI (n.val : Int)) = iI (n.val : Int) := by decide
theorem c128_b : ∀ n : Fin 128, fits .byte (.int (iI (n.val : Int))) = true := by decide
theorem by_nar {z : Int} (h : 0 ≤ z ∧ z < 128) : vp_nar .byte (iI z) = iI z := by
  have e : z = ((z.toNat : Nat) : Int) := by omega
  rw [e]; exact c128_a ⟨z.toNat, by omega⟩
theorem bok.fit {x : Int32} (h : bok x) : fits .byte (.int x) = true := by
  obtain ⟨z, h1, rfl⟩ := h
  have e : z = ((z.toNat : Nat) : Int) := by omega
  rw [e]; exact c128_b ⟨z.toNat, by omega⟩
theorem bok.mk {z : Int} (h : 0 ≤ z ∧ z < 128) : bok (iI z) := ⟨z, h, rfl⟩
section TCOPY
variable {p : Program} {l : Launch} {e : Env} {R : Room} {s : State} {m : MethodId} {args : Array Value} {below : List Frame} {meth : Method} {c : Code} {H : Heap} {locs : List Loc} {cells slots : Nat} {Q : State → Prop}
variable {cc : ByteArray} {pc : Nat} {ls : Array Slot} {rest : List Value} {D : va_G} {cl : List vw_C} {A : Nat → Prop} {a : Nat} {tys : List (ClassId × FieldType)} {ws : va_W} {H0 : Heap}
/-- System.arraycopy of bytes out of a constant's row -/
theorem t_copyb {cc : ByteArray} (hexec : p.tables.exec = Jvm.exec) (hb : c.code = cc) (hml : c.maxLocals = ls.size) {own : String} {index : Nat} (hown : s.vm.findClass own = some m.cls) (hlink : (Cond.methodLink own index arraycopyName).before args s = true) (hnat : (Cond.native arraycopyName).before args s = true) (hstat : (Cond.static arraycopyName).before args s = true) (hini : (Cond.initialized "java/lang/System").before args s = true)
    (hK : va_K D cl tys s) (hP : va_P D cl ws H) (hD : va_D A ws) (hS : va_S A s.heap H locs) {b0 n0 : Nat} {f : Nat → Int32} (hX : va_T .byte b0 n0 (fun j => .int (f j)) A s s.heap) (q1 t1 : Nat) {c1 : ClassId} {n1 : Nat} {g : Nat → Int32} (ha1 : ws[q1]? = some (a, .inl (c1, n1, .inl g))) (ht1 : tys[t1]? = some (c1, .byte))
    {sp dp n : Int32} (h1 : ¬ sp < 0) (h2 : ¬ dp < 0) (h3 : ¬ n < 0) (h4 : sp.toNatClampNeg + n.toNatClampNeg ≤ n0) (h5 : dp.toNatClampNeg + n.toNatClampNeg ≤ n1) (hfit : ∀ i, i < n.toNatClampNeg → fits .byte (.int (f (sp.toNatClampNeg + i))) = true)
    (hframes : 1 ≤ R.frames) (hlocals : (rest.map fun v => v.category).sum + (nativeFrameWords "java/lang/System" "arraycopy" 5 + 11) ≤ R.locals) (hdg : decode cc pc = .ok (.invokestatic index, 3))
    (kk : ∀ (H1 : Heap) (locs1 : List Loc), va_P D cl (ws.set q1 (a, .inl (c1, n1, .inl (va_cpy f g sp.toNatClampNeg dp.toNatClampNeg n.toNatClampNeg)))) H1 → va_D A (ws.set q1 (a, .inl (c1, n1, .inl (va_cpy f g sp.toNatClampNeg dp.toNatClampNeg n.toNatClampNeg)))) → va_S A s.heap H1 locs1 → W p l e R s m args below meth c H1 locs1 cells slots Q (F0 m (pc + 3) ls rest)) : W p l e R s m args below meth c H locs cells slots Q (F0 m pc ls (.int n :: .int dp :: .ref a :: .int sp :: .ref b0 :: rest)) := by
  have nn : ∀ z : Int32, ¬ z < 0 → z.toInt = (z.toNatClampNeg : Int) := by
    intro z hz
    have hz0 : (0 : Int) ≤ z.toInt := by
      have := Int32.not_lt.mp hz
      simpa using Int32.le_iff_toInt_le.mp this
    show z.toInt = ((z.toInt.toNat : Nat) : Int)
    omega
  intro T hT X
  obtain ⟨scr, hs1, ⟨hs6, k0, hk0, cm0, hkk0⟩, hs3, hs4, -, hs5, hs7⟩ := hX
  have hc0 : H[b0]? = some scr := by rw [hS.2.1 b0 (Array.getElem?_eq_some_iff.mp hs1).1 hs7]; exact hs1
  have hc1 : H[a]? = some (vp_cell c1 (n1, .inl g)) := hP q1 _ ha1
  obtain ⟨-, k1, hk1, cm1, hkk1⟩ := (hK.2 t1 _ ht1).1 n1 (fun j => .int (g j))
  obtain ⟨vm', X', step⟩ := X.arraycopy hexec hown hlink hnat hstat hini (src := b0) (dst := a) (cs := scr) (cd := vp_cell c1 (n1, .inl g)) (srcPos := sp) (destPos := dp) (n := n) (by rw [hT]; exact hc0) (by rw [hT]; exact hc1)
    hs6 (fun _ h => by cases h) hs3 (fun h => by cases h) hk0 hk1 hkk0 hkk1 (by simp [refKind]) h1 h2 h3
    (by rw [nn sp h1, nn n h3]; omega)
    (by rw [nn dp h2, nn n h3]; show ¬ _ > ((arrV c1 n1 (fun j => .int (g j))).slots.size : Int); rw [arrV_size]; omega)
    (fun vm₁ _ i hi => by
      have e : scr.slots.getD (sp.toNatClampNeg + i) .null = .int (f (sp.toNatClampNeg + i)) := by
        rw [Array.getD_eq_getD_getElem?, hs5 _ (by omega)]
        rfl
      refine ⟨?_, ?_⟩
      · rw [e]
        exact hfit i hi
      · rw [e]
        exact trivial)
    (g := F0 m pc ls (.int n :: .int dp :: .ref a :: .int sp :: .ref b0 :: rest)) rfl (by rw [hml]) (rest := rest) rfl (by rw [hb]; exact hdg) hframes (by show 2 * 0 + _ + _ ≤ _; omega)
  have e1 : copied scr (vp_cell c1 (n1, .inl g)) sp dp n = vp_cell c1 (n1, .inl (va_cpy f g sp.toNatClampNeg dp.toNatClampNeg n.toNatClampNeg)) := va_copiedX (fun z => .int z) scr c1 f g hs5 h4
  rw [e1] at X' step
  have hl : a < H.size := (Array.getElem?_eq_some_iff.mp hc1).1
  have hheap : ((T.setVm vm').setCell a (vp_cell c1 (n1, .inl (va_cpy f g sp.toNatClampNeg dp.toNatClampNeg n.toNatClampNeg)))).heap = H.setIfInBounds a (vp_cell c1 (n1, .inl (va_cpy f g sp.toNatClampNeg dp.toNatClampNeg n.toNatClampNeg))) := by rw [← hT]; rfl
  have oq : ∀ q : Nat, q ≠ a → (H.setIfInBounds a (vp_cell c1 (n1, .inl (va_cpy f g sp.toNatClampNeg dp.toNatClampNeg n.toNatClampNeg))))[q]? = H[q]? := fun q hq => by simp [Array.getElem?_setIfInBounds, Ne.symm hq]
  obtain ⟨t, a1, b1⟩ := kk _ _ (hP.set hD ha1 (show (H.setIfInBounds a _)[a]? = some _ by simp [Array.getElem?_setIfInBounds, hl]) oq) (hD.set ha1) ⟨by simp; exact hS.1, fun q g1 g2 => by
      rw [oq q (fun e => g2 (by rw [e]; exact hD.2 q1 _ ha1))]
      exact hS.2.1 q g1 g2, fun q hq => by
      rcases List.mem_append.mp hq with h | h
      · exact hS.2.2 q h
      · obtain ⟨z, -, hz⟩ := List.mem_map.mp h
        rw [← hz]
        exact hD.2 q1 _ ha1⟩ _ hheap X'
  exact ⟨t, step t a1, b1⟩
end TCOPY
section JROWS
variable {G : xG} {M M' : xM} {h : xH} {pc : Nat} {ls ls' : List (Nat × Value)} {st rest : List Value} {kc ks : Nat} {Q Qc : xR → xH → Prop}
theorem i_bast {ar n : Nat} {g : Nat → Int32} {e z : Int} (k : Nat) (he : e = (k : Int)) (hd : decode M.2.1 pc = .ok (.bastore, 1)) (ha : ar ∈ h.1) (hf : h.2 ar = .inl (G.2.1 2, n, .inl g)) (hk : k < n) (hn : n < 2 ^ 31) (hz : 0 ≤ z ∧ z < 128)
    (kk : ∀ h1 : xH, h1.1 = h.1 → h1.2 ar = .inl (G.2.1 2, n, .inl (upd g k (iI z))) → (∀ q, q ≠ ar → h1.2 q = h.2 q) → RR G M (pc + 1) ls st h1 kc ks Q) : RR G M pc ls (.int (iI z) :: .int (iI e) :: .ref ar :: st) h kc ks Q := by
  refine rr_wr ha hf (w_heap kk) fun _ _ _ _ _ _ _ _ _ _ _ _ _ _ _ _ q0 E hq hP hD hS w => ?_
  obtain ⟨h1, h2⟩ := x_in (show iI e = nI k by rw [he, iI_nat]) hk hn
  exact va_bast E.1.1 E.1.2.1 E.2.2.2.2.2.2.2.2.1 hP hD hS q0 2 hq rfl h1 hd (by rw [h2, by_nar hz]; exact w)
theorem i_bald {ar n : Nat} {g : Nat → Int32} {e : Int} {v : Int32} (k : Nat) (he : e = (k : Int)) (hd : decode M.2.1 pc = .ok (.baload, 1)) (ha : ar ∈ h.1) (hf : h.2 ar = .inl (G.2.1 2, n, .inl g)) (hk : k < n) (hn : n < 2 ^ 31) (hv : g k = v)
    (kk : RR G M (pc + 1) ls (.int v :: st) h kc ks Q) : RR G M pc ls (.int (iI e) :: .ref ar :: st) h kc ks Q := rr_of kk fun _ _ _ _ _ _ _ _ _ _ _ _ _ _ _ _ E S w => by
  obtain ⟨q0, hq⟩ := x_at ha hf
  obtain ⟨h1, h2⟩ := x_in (show iI e = nI k by rw [he, iI_nat]) hk hn
  exact va_bald E.1.1 E.1.2.1 E.2.2.2.2.2.2.2.2.1 S.2.1.1 q0 2 hq rfl h1 hd (by rw [h2, hv]; exact w)
theorem i_newB (N : Nat) {e : Int} (he : e = (N : Int)) (hN : N < 100000) (hd : decode M.2.1 pc = .ok (.newarray .byte, 2)) (h1 : 1 ≤ kc) (h2 : N ≤ ks)
    (kk : ∀ (q : Nat) (h1 : xH), q ∉ h.1 → h1.1 = h.1 ++ [q] → h1.2 q = .inl (G.2.1 2, N, .inl (fun _ => iI 0)) → (∀ x, x ≠ q → h1.2 x = h.2 x) → RR G M (pc + 2) ls (.ref q :: st) h1 (kc - 1) (ks - N) Q) : RR G M pc ls (.int (iI e) :: st) h kc ks Q := by
  subst he
  have hb : (iI (N : Int)).toInt = (N : Int) := iI_toInt (by unfold in32; omega)
  refine r_newa (t := 2) (N' := N) (ty := .byte) (a0 := (N, .inl (fun _ => iI 0))) rfl rfl kaB (fun cA => rfl) hd ?_ ?_ ?_ h1 h2 (fun q hq => ?_)
  · rw [Int32.lt_iff_toInt_lt, hb]; show ¬ ((N : Int) < 0); omega
  · show (iI (N : Int)).toInt.toNat = N; rw [hb]; rfl
  · show N * 1 ≤ 536870912; omega
  · exact w_new (P := fun h1 => RR G M (pc + 2) ls (.ref q :: st) h1 (kc - 1) (ks - N) Q) hq (fun h1 e1 e2 e3 => kk q h1 hq e1 e2 e3)
theorem i_copyB {idx w a a0 n0 n1 : Nat} {f g : Nat → Int32} {e1 e2 e3 : Int} (sj dj nj : Nat) (hs : e1 = (sj : Int)) (hdp : e2 = (dj : Int)) (hn : e3 = (nj : Int)) (hX : x_CP M idx w) (hst : (st.map fun v => v.category).sum = w) (hd : decode M.2.1 pc = .ok (.invokestatic idx, 3)) (ha0 : a0 ∈ h.1) (hf0 : h.2 a0 = .inl (G.2.1 2, n0, .inl f)) (ha : a ∈ h.1) (hf : h.2 a = .inl (G.2.1 2, n1, .inl g)) (h4 : sj + nj ≤ n0) (h5 : dj + nj ≤ n1) (h6 : n0 < 2 ^ 31) (h7 : n1 < 2 ^ 31) (hfit : ∀ i, bok (f i))
    (k : ∀ h1 : xH, h1.1 = h.1 → h1.2 a = .inl (G.2.1 2, n1, .inl (va_cpy f g sj dj nj)) → (∀ q, q ≠ a → h1.2 q = h.2 q) → RR G M (pc + 3) ls st h1 kc ks Q) : RR G M pc ls (.int (iI e3) :: .int (iI e2) :: .ref a :: .int (iI e1) :: .ref a0 :: st) h kc ks Q := by
  subst hs; subst hdp; subst hn
  rw [iI_nat, iI_nat, iI_nat]
  have k2 := w_heap (h := h) (e := .inl (G.2.1 2, n1, .inl (va_cpy f g sj dj nj))) k
  have hsz : sj < 2 ^ 31 := by omega
  have hdz : dj < 2 ^ 31 := by omega
  have hnz : nj < 2 ^ 31 := by omega
  intro p l e R s m args below meth c E H locs cells slots lsA S
  obtain ⟨q0, hq0⟩ := x_at ha0 hf0
  obtain ⟨q1, hq1⟩ := x_at ha hf
  have hR : R = xm_R M := E.2.2.2.2.2.2.1
  subst hR
  refine va_copyi E.1.1 E.1.2.1 (by rw [E.1.2.2.1]; exact S.1.1.symm) E.1.2.2.2.1 (E.1.2.2.2.2 _ hX.1) (E.1.2.2.2.2 _ hX.2.1) (E.1.2.2.2.2 _ hX.2.2.1) (E.1.2.2.2.2 _ hX.2.2.2.1) E.2.2.2.2.2.2.2.2.1 S.2.1.1 S.2.1.2 S.2.2.1 q0 q1 2 2 (ty := .byte) hq0 hq1 rfl rfl rfl (nI_pos hsz) (nI_pos hdz) (nI_pos hnz) (by rw [nI_clamp hsz, nI_clamp hnz]; exact h4) (by rw [nI_clamp hdz, nI_clamp hnz]; exact h5) (fun _ _ => (hfit _).fit) hX.2.2.2.2.1 (by rw [hst]; exact hX.2.2.2.2.2) hd (fun H1 locs1 hP hD hS => ?_)
  rw [nI_clamp hsz, nI_clamp hdz, nI_clamp hnz, x_setw S.2.1.2 ha hf hq1] at hP hD
  exact k2 p l e _ s m args below meth c E H1 locs1 cells slots lsA ⟨S.1, ⟨hP, hD⟩, hS, S.2.2.2⟩
theorem i_copyT {idx w a a0 n0 n1 : Nat} {f g : Nat → Int32} {e1 e2 e3 : Int} (sj dj nj : Nat) (hs : e1 = (sj : Int)) (hdp : e2 = (dj : Int)) (hn : e3 = (nj : Int)) (hX : x_CP M idx w) (hst : (st.map fun v => v.category).sum = w) (hd : decode M.2.1 pc = .ok (.invokestatic idx, 3)) (hT : x_zz G (va_T .byte a0 n0 (fun j => .int (f j)))) (ha : a ∈ h.1) (hf : h.2 a = .inl (G.2.1 2, n1, .inl g)) (h4 : sj + nj ≤ n0) (h5 : dj + nj ≤ n1) (h6 : n0 < 2 ^ 31) (h7 : n1 < 2 ^ 31) (hfit : ∀ i, bok (f i))
    (k : ∀ h1 : xH, h1.1 = h.1 → h1.2 a = .inl (G.2.1 2, n1, .inl (va_cpy f g sj dj nj)) → (∀ q, q ≠ a → h1.2 q = h.2 q) → RR G M (pc + 3) ls st h1 kc ks Q) : RR G M pc ls (.int (iI e3) :: .int (iI e2) :: .ref a :: .int (iI e1) :: .ref a0 :: st) h kc ks Q := by
  subst hs; subst hdp; subst hn
  rw [iI_nat, iI_nat, iI_nat]
  have k2 := w_heap (h := h) (e := .inl (G.2.1 2, n1, .inl (va_cpy f g sj dj nj))) k
  have hsz : sj < 2 ^ 31 := by omega
  have hdz : dj < 2 ^ 31 := by omega
  have hnz : nj < 2 ^ 31 := by omega
  intro p l e R s m args below meth c E H locs cells slots lsA S
  obtain ⟨q1, hq1⟩ := x_at ha hf
  have hR : R = xm_R M := E.2.2.2.2.2.2.1
  subst hR
  refine t_copyb E.1.1 E.1.2.1 (by rw [E.1.2.2.1]; exact S.1.1.symm) E.1.2.2.2.1 (E.1.2.2.2.2 _ hX.1) (E.1.2.2.2.2 _ hX.2.1) (E.1.2.2.2.2 _ hX.2.2.1) (E.1.2.2.2.2 _ hX.2.2.2.1) E.2.2.2.2.2.2.2.2.1 S.2.1.1 S.2.1.2 S.2.2.1 (hT s E.2.2.2.2.2.2.2.2.2.1) q1 2 hq1 rfl (nI_pos hsz) (nI_pos hdz) (nI_pos hnz) (by rw [nI_clamp hsz, nI_clamp hnz]; exact h4) (by rw [nI_clamp hdz, nI_clamp hnz]; exact h5) (fun _ _ => (hfit _).fit) hX.2.2.2.2.1 (by rw [hst]; exact hX.2.2.2.2.2) hd (fun H1 locs1 hP hD hS => ?_)
  rw [nI_clamp hsz, nI_clamp hdz, nI_clamp hnz, x_setw S.2.1.2 ha hf hq1] at hP hD
  exact k2 p l e _ s m args below meth c E H1 locs1 cells slots lsA ⟨S.1, ⟨hP, hD⟩, hS, S.2.2.2⟩
theorem r_callO {idx n b : Nat} {As : List Value} {x : MethodName} {C owner : String} {b0 : ByteArray} {m0 : Nat} {r0 : Option FieldType} (hL : x_LB M M' n) (hw : GoodIn bg_L (va_wsO M.1.cls idx C owner x M'.1 (x_ws M'))) (h0 : Cond.code ⟨owner, x.name, x.desc⟩ b0 m0 r0 ∈ bg_L) (hdo : owner ≠ "java/lang/invoke/MethodHandle" ∧ owner ≠ "java/lang/invoke/VarHandle" ∧ (parseMethodDescriptor x.desc).map (fun d => d.parameters.length) = some n) (hd : decode M.2.1 pc = .ok (.invokevirtual idx, 3)) (hst : st = As.reverse ++ .ref b :: rest) (hn : As.length = n) (hrest : (rest.map fun v => v.category).sum ≤ 8) (hlen : (lg_sl (.ref b :: As)).length ≤ M'.2.2.1) (hrv : x_RV G h C b) (h1 : (xm_R M').cells ≤ kc) (h2 : (xm_R M').slots ≤ ks) (spec : CC G M' (.ref b :: As) h Qc)
    (kx : ∀ (E : String) (h' : xH), Qc (.inr E) h' → RX G M pc ls rest E h' (kc - (xm_R M').cells) (ks - (xm_R M').slots) Q)
    (kk : ∀ (v : Option Value) (h' : xH), Qc (.inl v) h' → RR G M (pc + 3) ls (v.toList ++ rest) h' (kc - (xm_R M').cells) (ks - (xm_R M').slots) Q) : RR G M pc ls st h kc ks Q := by
  intro p l e R s m args below meth c E H locs cells slots lsA S
  obtain ⟨hd1, hR1, hco, hini, hpl, hhh⟩ := hL
  refine x_back (a := (Value.ref b :: As).toArray) h1 h2 kx kk p l e R s m args below meth c E H locs cells slots lsA S ?_
  have hR : R = xm_R M := E.2.2.2.2.2.2.1
  have hc := S.2.2.2.1
  have hs := S.2.2.2.2
  subst hR
  exact vx_runU (As := As) (rest := rest) (b := b) (C := C) (owner := owner) (x := x) E.1 (x_met E.2.2.2.2.2.1 hpl hhh hlen spec) (va_cwO n E.1.2.2.2.2 hw rfl rfl rfl h0 hdo hR1) ⟨x_blind, hrv s H locs S.2.1 E.2.2.2.2.2.2.2.2.1 E.2.2.2.2.2.2.2.2.2.1 S.2.2.1, x_pc (.ref b :: As) E S⟩ rfl hn S.1.1 hst (lv_room hrest) hd ⟨by omega, by omega⟩
theorem r_callSU {idx n b : Nat} {As : List Value} (hL : x_LB M M' n) (hw : GoodIn bg_L (va_wsSU M.1.cls idx M'.1 (x_ws M'))) (hno : M'.1.name ≠ "<init>") (hd : decode M.2.1 pc = .ok (.invokespecial idx, 3)) (hst : st = As.reverse ++ .ref b :: rest) (hn : As.length = n) (hrest : (rest.map fun v => v.category).sum ≤ 8) (hlen : (lg_sl (.ref b :: As)).length ≤ M'.2.2.1) {ci N : Nat} {C : String} {T : u_T} {fs : List Value} (hb : b ∈ h.1) (hf : h.2 b = .inr (ci, fs)) (hc0 : vwCl[ci]? = some (C, T, N)) (h1 : (xm_R M').cells ≤ kc) (h2 : (xm_R M').slots ≤ ks) (spec : CC G M' (.ref b :: As) h Qc)
    (kx : ∀ (E : String) (h' : xH), Qc (.inr E) h' → RX G M pc ls rest E h' (kc - (xm_R M').cells) (ks - (xm_R M').slots) Q)
    (kk : ∀ (v : Option Value) (h' : xH), Qc (.inl v) h' → RR G M (pc + 3) ls (v.toList ++ rest) h' (kc - (xm_R M').cells) (ks - (xm_R M').slots) Q) : RR G M pc ls st h kc ks Q := by
  intro p l e R s m args below meth c E H locs cells slots lsA S
  obtain ⟨hd1, hR1, hco, hini, hpl, hhh⟩ := hL
  refine x_back (a := (Value.ref b :: As).toArray) h1 h2 kx kk p l e R s m args below meth c E H locs cells slots lsA S ?_
  have hR : R = xm_R M := E.2.2.2.2.2.2.1
  have hc := S.2.2.2.1
  have hs := S.2.2.2.2
  subst hR
  exact vx_runSU (As := As) (rest := rest) (b := b) (C := C) (E.2.2.2.2.2.2.2.2.1.1 ci _ hc0).2 E.1 (x_met E.2.2.2.2.2.1 hpl hhh hlen spec) (va_cwSU n E.1.2.2.2.2 hw rfl rfl rfl ⟨hno, hd1.2.2⟩ hR1) ⟨x_blind, x_rv hb hf hc0 s H locs S.2.1 E.2.2.2.2.2.2.2.2.1 E.2.2.2.2.2.2.2.2.2.1 S.2.2.1, x_pc (.ref b :: As) E S⟩ rfl hn S.1.1 hst (lv_room hrest) hd ⟨by omega, by omega⟩
/-- what a clone of a row of bytes asks of the machine -/
def GB (G : xG) : Prop := x_zz G (fun _ U _ => U.vm.findClass "[B" = some (G.2.1 2)) ∧ x_zz G (fun _ U _ => va_Nw (.castable "[B" "java/lang/Cloneable") U)
def x_CN (M : xM) (idx : Nat) (n : Nat) : Prop := Cond.methodLink M.1.cls idx ⟨"[B", "clone", "()Ljava/lang/Object;"⟩ ∈ bg_L ∧ Cond.sameMethod "[B" "java/lang/Object" "clone" "()Ljava/lang/Object;" ∈ bg_L ∧ Cond.native ⟨"java/lang/Object", "clone", "()Ljava/lang/Object;"⟩ ∈ bg_L ∧ Cond.instanceMethod ⟨"java/lang/Object", "clone", "()Ljava/lang/Object;"⟩ ∈ bg_L ∧ Cond.selects "[B" ⟨"[B", "clone", "()Ljava/lang/Object;"⟩ ⟨"java/lang/Object", "clone", "()Ljava/lang/Object;"⟩ ∈ bg_L ∧ 1 ≤ (xm_R M).frames ∧ n + 14 ≤ (xm_R M).locals
theorem i_clone {idx w a N : Nat} {g : Nat → Int32} (hB : GB G) (hX : x_CN M idx w) (hst : (st.map fun v => v.category).sum = w) (hd : decode M.2.1 pc = .ok (.invokevirtual idx, 3)) (ha : a ∈ h.1) (hf : h.2 a = .inl (G.2.1 2, N, .inl g)) (hfit : ∀ i, bok (g i)) (h1 : 1 ≤ kc) (h2 : N ≤ ks)
    (kk : ∀ (q : Nat) (h1 : xH), q ∉ h.1 → h1.1 = h.1 ++ [q] → h1.2 q = .inl (G.2.1 2, N, .inl g) → (∀ x, x ≠ q → h1.2 x = h.2 x) → RR G M (pc + 3) ls (.ref q :: st) h1 (kc - 1) (ks - N) Q) : RR G M pc ls (.ref a :: st) h kc ks Q := by
  have k2 : ∀ q : Nat, q ∉ h.1 → RR G M (pc + 3) ls (.ref q :: st) (h.1 ++ [q], va_up h.2 q (.inl (G.2.1 2, N, .inl g))) (kc - 1) (ks - N) Q := fun q hq => w_new (P := fun h1 => RR G M (pc + 3) ls (.ref q :: st) h1 (kc - 1) (ks - N) Q) hq (fun h1 e1 e2 e3 => kk q h1 hq e1 e2 e3)
  intro p l e R s m args below meth c E H locs cells slots lsA S
  have hc := S.2.2.2.1
  have hs := S.2.2.2.2
  obtain ⟨q0, hq0⟩ := x_at ha hf
  have hR : R = xm_R M := E.2.2.2.2.2.2.1
  subst hR
  have hs9 := E.2.2.2.2.2.2.2.2.2.1
  refine va_clone E.1.1 E.1.2.1 (by rw [E.1.2.2.1]; exact S.1.1.symm) E.1.2.2.2.1 (E.1.2.2.2.2 _ hX.1) (E.1.2.2.2.2 _ hX.2.1) (E.1.2.2.2.2 _ hX.2.2.1) (E.1.2.2.2.2 _ hX.2.2.2.1) (E.1.2.2.2.2 _ hX.2.2.2.2.1) (hB.2 s hs9) E.2.2.2.2.2.2.2.2.1 S.2.1.1 S.2.1.2 S.2.2.1 (fun q hq => Nat.le_trans E.2.2.2.2.2.2.2.1 hq) q0 2 (ty := .byte) (x := (N, .inl g)) hq0 rfl (hB.1 s hs9) (fun i v hv => ?_) hX.2.2.2.2.2.1 (by rw [hst]; exact hX.2.2.2.2.2.2) (by omega) (by show slots + N ≤ _; omega) hd (fun q H1 hK hP hD hS => ?_)
  · have hlt : i < N := by
      have := (Array.getElem?_eq_some_iff.mp hv).1
      have e : (vp_cell (G.2.1 2) (N, Sum.inl g)).slots.size = N := arrV_size _ _ _
      rw [e] at this; exact this
    have e2 : (vp_cell (G.2.1 2) (N, Sum.inl g)).slots[i]? = some (.int (g i)) := arrV_read _ _ hlt
    rw [e2] at hv
    cases hv
    exact (hfit i).fit
  · have hq := x_fresh hD
    rw [va_pl_push hq] at hP hD
    exact k2 q hq p l e _ s m args below meth c E H1 locs (cells + 1) (slots + N) lsA ⟨S.1, ⟨hP, hD⟩, hS, by show cells + 1 + (kc - 1) ≤ _; omega, by show slots + N + (ks - N) ≤ _; omega⟩
theorem i_castB {idx a N : Nat} {g : Nat → Int32} (hB : GB G) (hl : Cond.classLink M.1.cls idx "[B" ∈ bg_L) (hd : decode M.2.1 pc = .ok (.checkcast idx, 3)) (ha : a ∈ h.1) (hf : h.2 a = .inl (G.2.1 2, N, .inl g))
    (kk : RR G M (pc + 3) ls (.ref a :: st) h kc ks Q) : RR G M pc ls (.ref a :: st) h kc ks Q := rr_of kk fun _ _ _ _ s _ _ _ _ _ _ _ _ _ _ _ E S w => by
  obtain ⟨q0, hq⟩ := x_at ha hf
  exact va_castA E.1.1 E.1.2.1 E.1.2.2.2.1 (E.1.2.2.2.2 _ hl) S.2.1.1 q0 hq (hB.1 s E.2.2.2.2.2.2.2.2.2.1) hd w
/-! a call that returns, of what is inherited, overridden, or super's -/
theorem k_callU {idx n b : Nat} {As : List Value} {x : MethodName} {C : String} {st' : List Value} {P : xH → Prop} {w : Option Value} (hL : x_LB M M' n) (hw : GoodIn bg_L (va_wsU M.1.cls idx C M'.1.cls x M'.1 (x_ws M'))) (hyx : M'.1 = ⟨M'.1.cls, x.name, x.desc⟩) (hxd : x.desc = M'.1.desc) (hd : decode M.2.1 pc = .ok (.invokevirtual idx, 3)) (hst : st = As.reverse ++ .ref b :: rest) (hn : As.length = n) (hrest : (rest.map fun v => v.category).sum ≤ 8) (hlen : (lg_sl (.ref b :: As)).length ≤ M'.2.2.1) (hrv : x_RV G h C b) (h1 : (xm_R M').cells ≤ kc) (h2 : (xm_R M').slots ≤ ks) (spec : CC G M' (.ref b :: As) h (fun o h' => o = .inl w ∧ P h')) (hw2 : w.toList ++ rest = st') (kk : ∀ h', P h' → RR G M (pc + 3) ls st' h' (kc - (xm_R M').cells) (ks - (xm_R M').slots) Q) : RR G M pc ls st h kc ks Q := by
  refine r_callU hL hw hyx hxd hd hst hn hrest hlen hrv h1 h2 spec (fun E h' q => by cases q.1) (fun v h' q => ?_)
  obtain ⟨q1, q2⟩ := q
  cases q1
  rw [hw2]
  exact kk h' q2
theorem k_callO {idx n b : Nat} {As : List Value} {x : MethodName} {C owner : String} {b0 : ByteArray} {m0 : Nat} {r0 : Option FieldType} {st' : List Value} {P : xH → Prop} {w : Option Value} (hL : x_LB M M' n) (hw : GoodIn bg_L (va_wsO M.1.cls idx C owner x M'.1 (x_ws M'))) (h0 : Cond.code ⟨owner, x.name, x.desc⟩ b0 m0 r0 ∈ bg_L) (hdo : owner ≠ "java/lang/invoke/MethodHandle" ∧ owner ≠ "java/lang/invoke/VarHandle" ∧ (parseMethodDescriptor x.desc).map (fun d => d.parameters.length) = some n) (hd : decode M.2.1 pc = .ok (.invokevirtual idx, 3)) (hst : st = As.reverse ++ .ref b :: rest) (hn : As.length = n) (hrest : (rest.map fun v => v.category).sum ≤ 8) (hlen : (lg_sl (.ref b :: As)).length ≤ M'.2.2.1) (hrv : x_RV G h C b) (h1 : (xm_R M').cells ≤ kc) (h2 : (xm_R M').slots ≤ ks) (spec : CC G M' (.ref b :: As) h (fun o h' => o = .inl w ∧ P h')) (hw2 : w.toList ++ rest = st') (kk : ∀ h', P h' → RR G M (pc + 3) ls st' h' (kc - (xm_R M').cells) (ks - (xm_R M').slots) Q) : RR G M pc ls st h kc ks Q := by
  refine r_callO hL hw h0 hdo hd hst hn hrest hlen hrv h1 h2 spec (fun E h' q => by cases q.1) (fun v h' q => ?_)
  obtain ⟨q1, q2⟩ := q
  cases q1
  rw [hw2]
  exact kk h' q2
theorem k_callSU {idx n b : Nat} {As : List Value} {st' : List Value} {P : xH → Prop} {w : Option Value} (hL : x_LB M M' n) (hw : GoodIn bg_L (va_wsSU M.1.cls idx M'.1 (x_ws M'))) (hno : M'.1.name ≠ "<init>") (hd : decode M.2.1 pc = .ok (.invokespecial idx, 3)) (hst : st = As.reverse ++ .ref b :: rest) (hn : As.length = n) (hrest : (rest.map fun v => v.category).sum ≤ 8) (hlen : (lg_sl (.ref b :: As)).length ≤ M'.2.2.1) {ci N : Nat} {C : String} {T : u_T} {fs : List Value} (hb : b ∈ h.1) (hf : h.2 b = .inr (ci, fs)) (hc0 : vwCl[ci]? = some (C, T, N)) (h1 : (xm_R M').cells ≤ kc) (h2 : (xm_R M').slots ≤ ks) (spec : CC G M' (.ref b :: As) h (fun o h' => o = .inl w ∧ P h')) (hw2 : w.toList ++ rest = st') (kk : ∀ h', P h' → RR G M (pc + 3) ls st' h' (kc - (xm_R M').cells) (ks - (xm_R M').slots) Q) : RR G M pc ls st h kc ks Q := by
  refine r_callSU hL hw hno hd hst hn hrest hlen hb hf hc0 h1 h2 spec (fun E h' q => by cases q.1) (fun v h' q => ?_)
  obtain ⟨q1, q2⟩ := q
  cases q1
  rw [hw2]
  exact kk h' q2
end JROWS
theorem kn_J7_copyOf_9075b (n : Nat) (hn : n ≤ 4) : x_CN MJ7_copyOf_9075b 310 n := ⟨bg_in 1115 (by decide +kernel) rfl, bg_in 1116 (by decide +kernel) rfl, bg_in 1117 (by decide +kernel) rfl, bg_in 1118 (by decide +kernel) rfl, bg_in 1119 (by decide +kernel) rfl, Nat.le_of_ble_eq_true rfl, Nat.le_trans (Nat.add_le_add_right hn _) (by decide +kernel)⟩
theorem kn_J7_copyOfRange_39247 (n : Nat) (hn : n ≤ 4) : x_CN MJ7_copyOfRange_39247 310 n := ⟨bg_in 1115 (by decide +kernel) rfl, bg_in 1116 (by decide +kernel) rfl, bg_in 1117 (by decide +kernel) rfl, bg_in 1118 (by decide +kernel) rfl, bg_in 1119 (by decide +kernel) rfl, Nat.le_of_ble_eq_true rfl, Nat.le_trans (Nat.add_le_add_right hn _) (by decide +kernel)⟩
theorem kl_byB : Cond.classLink RJ7 311 "[B" ∈ bg_L := bg_in 1121 (by decide +kernel) rfl
