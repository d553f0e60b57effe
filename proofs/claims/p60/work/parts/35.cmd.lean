/-! ===== commands: constants, their tables ===== -/
section CMD
variable {G : xG} {M M' : xM} {h : xH} {pc : Nat} {ls : List (Nat × Value)} {st rest : List Value} {kc ks : Nat} {Q Qc : xR → xH → Prop}
theorem r_callU {idx n b : Nat} {As : List Value} {x : MethodName} {C : String} (hL : x_LB M M' n) (hw : GoodIn bg_L (va_wsU M.1.cls idx C M'.1.cls x M'.1 (x_ws M'))) (hyx : M'.1 = ⟨M'.1.cls, x.name, x.desc⟩) (hxd : x.desc = M'.1.desc) (hd : decode M.2.1 pc = .ok (.invokevirtual idx, 3)) (hst : st = As.reverse ++ .ref b :: rest) (hn : As.length = n) (hrest : (rest.map fun v => v.category).sum ≤ 8) (hlen : (lg_sl (.ref b :: As)).length ≤ M'.2.2.1) (hrv : x_RV G h C b) (h1 : (xm_R M').cells ≤ kc) (h2 : (xm_R M').slots ≤ ks) (spec : CC G M' (.ref b :: As) h Qc)
    (kx : ∀ (E : String) (h' : xH), Qc (.inr E) h' → RX G M pc ls rest E h' (kc - (xm_R M').cells) (ks - (xm_R M').slots) Q)
    (kk : ∀ (v : Option Value) (h' : xH), Qc (.inl v) h' → RR G M (pc + 3) ls (v.toList ++ rest) h' (kc - (xm_R M').cells) (ks - (xm_R M').slots) Q) : RR G M pc ls st h kc ks Q := by
  intro p l e R s m args below meth c E H locs cells slots lsA S
  obtain ⟨hd1, hR1, hco, hini, hpl, hhh⟩ := hL
  refine x_back (a := (Value.ref b :: As).toArray) h1 h2 kx kk p l e R s m args below meth c E H locs cells slots lsA S ?_
  have hR : R = xm_R M := E.2.2.2.2.2.2.1
  have hc := S.2.2.2.1
  have hs := S.2.2.2.2
  subst hR
  exact vx_runU (As := As) (rest := rest) (b := b) (C := C) (owner := M'.1.cls) (x := x) E.1 (x_met E.2.2.2.2.2.1 hpl hhh hlen spec) (va_cwU n E.1.2.2.2.2 hw rfl rfl rfl hyx ⟨hd1.1, hd1.2.1, by rw [hxd]; exact hd1.2.2⟩ hR1) ⟨x_blind, hrv s H locs S.2.1 E.2.2.2.2.2.2.2.2.1 E.2.2.2.2.2.2.2.2.2.1 S.2.2.1, x_pc (.ref b :: As) E S⟩ rfl hn S.1.1 hst (lv_room hrest) hd ⟨by omega, by omega⟩
theorem i_aastc {ar n t v : Nat} {C : String} {g : Nat → Option Nat} {e : Int} (ht : (x_tys G.2.1)[t]? = some (G.2.1 t, .object C)) (hO : x_zz G (va_O C v)) (k : Nat) (he : e = (k : Int)) (hd : decode M.2.1 pc = .ok (.aastore, 1)) (ha : ar ∈ h.1) (hf : h.2 ar = .inl (G.2.1 t, n, .inr (.inr (.inr (.inr g))))) (hk : k < n) (hn : n < 2 ^ 31) (kk : ∀ h1 : xH, h1.1 = h.1 → h1.2 ar = .inl (G.2.1 t, n, .inr (.inr (.inr (.inr (va_up g k (some v)))))) → (∀ q, q ≠ ar → h1.2 q = h.2 q) → RR G M (pc + 1) ls st h1 kc ks Q) : RR G M pc ls (.ref v :: .int (iI e) :: .ref ar :: st) h kc ks Q := rr_wr ha hf (w_heap kk) fun _ _ _ _ s _ _ _ _ _ _ _ _ _ _ _ q0 E hq hP hD hS w => by
  obtain ⟨h1, h2⟩ := x_in (i := iI e) (by rw [he, iI_nat]) hk hn
  obtain ⟨cell, c1, c2, c3, -⟩ := (hO s E.2.2.2.2.2.2.2.2.2.1).kept hS.2.1
  exact vb_astq E.1.1 E.1.2.1 E.2.2.2.2.2.2.2.2.1 hP hD hS q0 t hq ht ⟨cell, c1, c2, c3⟩ (fun comp c0 a b => by rw [a] at b; cases b; exact va_asg _ _) h1 hd (by rw [h2]; exact w)
theorem r_getsN {C n d host : String} {v : Value} {idx : Nat} (hZ : x_zz G (va_Z C n d v)) (hl : x_zz G (fun _ U _ => va_Nw (.fieldLinkNest M.1.cls idx C n d host) U)) (hd : decode M.2.1 pc = .ok (.getstatic idx, 3)) (k : RR G M (pc + 3) ls (v :: st) h kc ks Q) : RR G M pc ls st h kc ks Q := rr_of k fun _ _ _ _ s _ _ _ _ _ _ _ _ _ _ _ E S w => by
  exact va_getsN E.1.1 E.1.2.1 (hZ s E.2.2.2.2.2.2.2.2.2.1) S.2.2.1 E.1.2.2.2.1 (hl s E.2.2.2.2.2.2.2.2.2.1) (fun _ z => z) hd w
end CMD
def swV (j : Nat) : Int := if j < 8 then (j : Int) + 1 else 0
/-- the commands' words, the class's list of them, the table of the switch -/
def GC (G : xG) (K : xK) (_ : Nat → Nat) : Prop := GK G K ∧ True
