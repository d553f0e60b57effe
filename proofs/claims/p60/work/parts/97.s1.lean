/-! ===== the law's body: what holds between its calls ===== -/
theorem XB.hist {G : xG} {h : xH} {K : xK} {x : Nat} {a : XA} {S : XS} (hX : XB G h K x a S) : S.2.2.2.2.1.length ≤ 8 := by
  obtain ⟨-, -, -, -, -, -, -, -, ⟨g, bo, X, -, -, -, h8, -⟩, -⟩ := hX
  exact h8
def LS9 (G : xG) (h : xH) (K : xK) (x : Nat) (ad : XA) (S : XS) (H : Int) : Prop := XB G h K x ad S ∧ IV S ∧ EB S.2.2.1 ∧ S.2.2.1.1.2.2.2.1 ≤ H ∧ ∀ q ∈ fpX x ad, q ∈ h.1
def ROW (G : xG) (h : xH) (x : Nat) (ad : XA) (q : Nat) (B : AB) : Prop := ((q ∈ h.1 ∧ q ∉ fpX x ad) ∧ (AL B).length < 100000) ∧ ∃ g : Nat → Int32, h.2 q = .inl (G.2.1 0, (AL B).length, .inl g) ∧ ∀ k, k < (AL B).length → g k = iI ((AL B).getD k 0)
theorem ROW.fr {G : xG} {h h' : xH} {x : Nat} {ad : XA} {q : Nat} {B : AB} (hR : ROW G h x ad q B) (hF : FRp (fpX x ad) h h') : ROW G h' x ad q B := by
  obtain ⟨⟨⟨m, n⟩, l⟩, g, f, r⟩ := hR
  exact ⟨⟨⟨by rw [hF.1]; exact m, n⟩, l⟩, g, (hF.2 q n).trans f, r⟩
theorem LS9.mem {h h' : xH} {x : Nat} {ad : XA} (hm : ∀ q ∈ fpX x ad, q ∈ h.1) (hF : FRp (fpX x ad) h h') : ∀ q ∈ fpX x ad, q ∈ h'.1 := fun q hq => by rw [hF.1]; exact hm q hq
theorem LS9.le {G : xG} {h : xH} {K : xK} {x : Nat} {ad : XA} {S : XS} {H H' : Int} (hL : LS9 G h K x ad S H) (hh : H ≤ H') : LS9 G h K x ad S H' := ⟨hL.1, hL.2.1, hL.2.2.1, Int.le_trans hL.2.2.2.1 hh, hL.2.2.2.2⟩
theorem q_callS9 {G : xG} {M M' : xM} {pc : Nat} {ls : List (Nat × Value)} {st rest : List Value} {h : xH} {kc ks : Nat} {Q : xR → xH → Prop} {P : Nat → xH → Prop} {idx n : Nat} {As : List Value} {c1 c2 kc' ks' : Nat} (hL : x_LS M idx M' n) (hd : decode M.2.1 pc = .ok (.invokestatic idx, 3)) (hst : st = As.reverse ++ rest) (hn : As.length = n) (hrest : (rest.map fun v => v.category).sum ≤ 8) (hlen : (lg_sl As).length ≤ M'.2.2.1) (e1 : (xm_R M').cells = c1) (e2 : (xm_R M').slots = c2) (h1 : kc' + c1 ≤ kc) (h2 : ks' + c2 ≤ ks) (spec : CC G M' As h (qN P)) (kk : ∀ q h', P q h' → RR G M (pc + 3) ls (.ref q :: rest) h' kc' ks' Q) : RR G M pc ls st h kc ks Q :=
  q_callS hL hd hst hn hrest hlen (by omega) (by omega) spec (fun q h' p => rr_room (kk q h' p) (by omega) (by omega))
theorem AL_b {B : AB} (h6 : B.2.length ≤ 6) (h2 : ∀ s ∈ B.2, s.1.length ≤ 200) : (AL B).length < 100000 := by
  have h1 := AL_len B
  have h3 := sL_le h2
  omega
theorem k_all {G : xG} {K : xK} {sa : Nat → Nat} (hGC : GC G K sa) (hGT : GT G sa) (hGE : GE G) {h : xH} {x : Nat} {ad : XA} {S : XS} {H : Int} (hL : LS9 G h K x ad S H) : CC G ML_all [.ref x] h (qN (fun q h' => LS9 G h' K x ad S H ∧ ROW G h' x ad q S.2.2.1 ∧ ∀ q' B', ROW G h x ad q' B' → ROW G h' x ad q' B')) :=
  rr_mono (c_L_all hGC hGT hGE hL.1 hL.2.1.1 hL.2.2.2.2) (fun o h' z => by
    obtain ⟨q, e, g, hN, hg⟩ := z
    have hF : GRp [] h h' := GRp.new hN.1 hN.2.1 hN.2.2.2
    refine ⟨q, e, ⟨hL.1.gr hF (fun _ _ => List.not_mem_nil), hL.2.1, hL.2.2.1, hL.2.2.2.1, fun y hy => hF.1 y (hL.2.2.2.2 y hy)⟩, ⟨⟨⟨?_, fun z => hN.1 (hL.2.2.2.2 q z)⟩, AL_b hL.1.len.1 hL.1.len.2⟩, g, hN.2.2.1, hg⟩, fun q' B' hR => ?_⟩
    · rw [hN.2.1]; exact List.mem_append_right _ (List.mem_singleton.mpr rfl)
    · obtain ⟨⟨⟨m, n⟩, l⟩, g', f, r⟩ := hR
      exact ⟨⟨⟨hF.1 _ m, n⟩, l⟩, g', (hF.2 q' m List.not_mem_nil).trans f, r⟩)
theorem LS9.upd {G : xG} {h h' : xH} {K : xK} {x : Nat} {ad : XA} {S : XS} {H : Int} (hL : LS9 G h K x ad S H) (hH : H ≤ 9900) {v : Int32} {r : Option AB} (hr : actR S.2.2.1 v = r) (hX : XB G h' K x ad (updS S r)) (hF : FRp (fpX x ad) h h') : LS9 G h' K x ad (updS S r) (H + 10) := by
  cases r with
  | none => exact ⟨hX, hL.2.1, hL.2.2.1, by have := hL.2.2.2.1; show S.2.2.1.1.2.2.2.1 ≤ H + 10; omega, LS9.mem hL.2.2.2.2 hF⟩
  | some B' =>
    have h9 := hL.2.2.2.1
    have hl := hL.1.len
    have g := act_good hL.2.1.1.1 hL.2.1.2.1 hL.2.2.1 (by omega) (by have := hl.1; omega) (fun z hs => hl.2 _ (getD_memS (hasS_n hs).1)) v hr
    exact ⟨hX, hL.2.1.chg (inp := S.1) (e := S.2.1) hL.2.1.1.2.2.2 g.1 g.2.1, g.2.2.1, by have := g.2.2.2; show B'.1.2.2.2.1 ≤ H + 10; omega, LS9.mem hL.2.2.2.2 hF⟩
theorem k_act {G : xG} {K : xK} {sa : Nat → Nat} (hGC : GC G K sa) (hGT : GT G sa) (hGE : GE G) {h : xH} {x : Nat} {ad : XA} {S : XS} {H : Int} (hL : LS9 G h K x ad S H) (hH : H ≤ 9900) {v : Int32} : CC G ML_act [.ref x, .int v] h (fun o' h' => o' = .inl (some (.int (iI 1))) ∧ LS9 G h' K x ad (updS S (actR S.2.2.1 v)) (H + 10) ∧ ∀ q' B', ROW G h x ad q' B' → ROW G h' x ad q' B') :=
  rr_mono (c_L_act hGC hGT hGE hL.1 hL.2.1 hL.2.2.1 (by have := hL.2.2.2.1; omega)) (fun o h' z => ⟨z.1, hL.upd hH rfl z.2.1 z.2.2, fun q' B' hR => hR.fr z.2.2⟩)
theorem k_undo {G : xG} {K : xK} {sa : Nat → Nat} (hGC : GC G K sa) (hGT : GT G sa) (hGE : GE G) {h : xH} {x : Nat} {ad : XA} {S : XS} {H H' : Int} {B' : AB} (hL' : LS9 G h K x ad (updS S (some B')) H') (hI : IV S) (hE : EB S.2.2.1) (hH : S.2.2.1.1.2.2.2.1 ≤ H) (h8 : S.2.2.2.2.1.length < 8) : CC G MX11_undo [.ref x] h (fun o' h' => o' = .inl (some (.int (iI (S.2.2.2.2.1.length : Int)))) ∧ LS9 G h' K x ad S H ∧ ∀ q' B', ROW G h x ad q' B' → ROW G h' x ad q' B') := by
  have e1 : (updS S (some B')).2.2.2.2.1 = S.2.2.2.2.1 ++ [S.2.2.1] := by show remH _ _ = _; unfold remH; rw [if_pos h8]
  have e2 : (updS S (some B')).2.2.2.2.1.dropLast = S.2.2.2.2.1 := by rw [e1, List.dropLast_concat]
  have e3 : (updS S (some B')).2.2.2.2.1.length = S.2.2.2.2.1.length + 1 := by rw [e1, List.length_append]; rfl
  have e4 : (updS S (some B')).2.2.2.2.1.getD ((updS S (some B')).2.2.2.2.1.length - 1) dB = S.2.2.1 := by
    rw [e3, e1, Nat.add_sub_cancel, List.getD_eq_getElem?_getD, List.getElem?_append_right (Nat.le_refl _), Nat.sub_self]; rfl
  refine rr_mono (c_X11_undo_ok hGC hGT hGE hL'.1 hL'.2.1.1 (by omega)) (fun o h' z => ?_)
  obtain ⟨z1, z2, z3⟩ := z
  rw [e2] at z1 z2
  rw [e4] at z2
  exact ⟨z1, ⟨z2, hI, hE, hH, LS9.mem hL'.2.2.2.2 z3⟩, fun q' B' hR => hR.fr z3⟩
theorem k_save {G : xG} {K : xK} {sa : Nat → Nat} (hGC : GC G K sa) (hGT : GT G sa) (hGE : GE G) {h : xH} {x : Nat} {ad : XA} {S : XS} {H : Int} (hL : LS9 G h K x ad S H) : CC G MX11_saveSnapshot [.ref x] h (fun o' h' => o' = .inl none ∧ LS9 G h' K x ad (S.1, S.2.1, S.2.2.1, some S.2.2.1, S.2.2.2.2.1, S.2.2.2.2.2) H ∧ ∀ q' B', ROW G h x ad q' B' → ROW G h' x ad q' B') :=
  rr_mono (c_X11_saveSnapshot hGC hGT hGE hL.1 hL.2.1.1) (fun o h' z => ⟨z.1, ⟨z.2.1, hL.2.1.save, hL.2.2.1, hL.2.2.2.1, LS9.mem hL.2.2.2.2 z.2.2⟩, fun q' B' hR => hR.fr z.2.2⟩)
theorem k_rest {G : xG} {K : xK} {sa : Nat → Nat} (hGC : GC G K sa) (hGT : GT G sa) (hGE : GE G) {h : xH} {x : Nat} {ad : XA} {S : XS} {H H' : Int} (hL : LS9 G h K x ad S H) {B0 : AB} (hs : S.2.2.2.1 = some B0) (hE : EB B0) (hH : B0.1.2.2.2.1 ≤ H') : CC G MX11_restoreSnapshot [.ref x] h (fun o' h' => o' = .inl (some (.int (iI (B0.2.length : Int)))) ∧ LS9 G h' K x ad (S.1, S.2.1, B0, some B0, [], S.2.2.2.2.2) H' ∧ ∀ q' B', ROW G h x ad q' B' → ROW G h' x ad q' B') :=
  rr_mono (c_X11_restoreSnapshot_ok hGC hGT hGE hL.1 hL.2.1.1 hs) (fun o h' z => ⟨z.1, ⟨z.2.1, hL.2.1.rest hs, hE, hH, LS9.mem hL.2.2.2.2 z.2.2⟩, fun q' B' hR => hR.fr z.2.2⟩)
theorem k_alike {G : xG} {h : xH} {x : Nat} {ad : XA} {q q' : Nat} {B : AB} (h1 : ROW G h x ad q B) (h2 : ROW G h x ad q' B) : CC G ML_alike [.ref q, .ref q'] h (qI 1 h) := by
  obtain ⟨⟨⟨m1, -⟩, l1⟩, g1, f1, r1⟩ := h1
  obtain ⟨⟨⟨m2, -⟩, l2⟩, g2, f2, r2⟩ := h2
  exact c_L_alike m1 f1 m2 f2 l1 (fun k hk => (r1 k hk).trans (r2 k hk).symm)
theorem upd_snap {S : XS} {r : Option AB} : (updS S r).2.2.2.1 = S.2.2.2.1 := by cases r <;> rfl
theorem upd_none (S : XS) : updS S none = S := rfl
theorem upd_len {S : XS} {B' : AB} (h8 : S.2.2.2.2.1.length ≤ 8) : ((updS S (some B')).2.2.2.2.1.length : Int) = if S.2.2.2.2.1.length < 8 then (S.2.2.2.2.1.length : Int) + 1 else 8 := by
  show ((remH S.2.2.2.2.1 S.2.2.1).length : Int) = _
  unfold remH
  rw [List.length_append]
  split
  · push_cast; rfl
  · rw [List.length_drop]; show ((S.2.2.2.2.1.length - 1 + 1 : Nat) : Int) = 8; omega
