/-! ===== the reference: its whole state ===== -/
def OWS (G : xG) (h : xH) (ow : Nat) (sa : Nat → Nat) : Prop := ow ∈ h.1 ∧ ∃ g : Nat → Option Nat, h.2 ow = .inl (G.2.1 7, 9, .inr (.inr (.inr (.inr g)))) ∧ ∀ k, k < 9 → g k = some (sa (4 + k))
def NDa (a : MA) : Prop := a.1 ≠ a.2.1 ∧ a.1 ≠ a.2.2.1 ∧ a.1 ≠ a.2.2.2.1 ∧ a.2.1 ≠ a.2.2.1 ∧ a.2.1 ≠ a.2.2.2.1 ∧ a.2.2.1 ≠ a.2.2.2.1
def DSa (m : Nat) (a : MA) : Prop := m ≠ a.1 ∧ m ≠ a.2.1 ∧ m ≠ a.2.2.1 ∧ m ≠ a.2.2.2.1 ∧ m ≠ a.2.2.2.2.1 ∧ m ≠ a.2.2.2.2.2.1 ∧ m ≠ a.2.2.2.2.2.2.1 ∧ m ≠ a.2.2.2.2.2.2.2.1 ∧ m ≠ a.2.2.2.2.2.2.2.2 ∧ a.1 ≠ a.2.1 ∧ a.1 ≠ a.2.2.1 ∧ a.1 ≠ a.2.2.2.1 ∧ a.1 ≠ a.2.2.2.2.1 ∧ a.1 ≠ a.2.2.2.2.2.1 ∧ a.1 ≠ a.2.2.2.2.2.2.1 ∧ a.1 ≠ a.2.2.2.2.2.2.2.1 ∧ a.1 ≠ a.2.2.2.2.2.2.2.2 ∧ a.2.1 ≠ a.2.2.1 ∧ a.2.1 ≠ a.2.2.2.1 ∧ a.2.1 ≠ a.2.2.2.2.1 ∧ a.2.1 ≠ a.2.2.2.2.2.1 ∧ a.2.1 ≠ a.2.2.2.2.2.2.1 ∧ a.2.1 ≠ a.2.2.2.2.2.2.2.1 ∧ a.2.1 ≠ a.2.2.2.2.2.2.2.2 ∧ a.2.2.1 ≠ a.2.2.2.1 ∧ a.2.2.1 ≠ a.2.2.2.2.1 ∧ a.2.2.1 ≠ a.2.2.2.2.2.1 ∧ a.2.2.1 ≠ a.2.2.2.2.2.2.1 ∧ a.2.2.1 ≠ a.2.2.2.2.2.2.2.1 ∧ a.2.2.1 ≠ a.2.2.2.2.2.2.2.2 ∧ a.2.2.2.1 ≠ a.2.2.2.2.1 ∧ a.2.2.2.1 ≠ a.2.2.2.2.2.1 ∧ a.2.2.2.1 ≠ a.2.2.2.2.2.2.1 ∧ a.2.2.2.1 ≠ a.2.2.2.2.2.2.2.1 ∧ a.2.2.2.1 ≠ a.2.2.2.2.2.2.2.2 ∧ a.2.2.2.2.1 ≠ a.2.2.2.2.2.1 ∧ a.2.2.2.2.1 ≠ a.2.2.2.2.2.2.1 ∧ a.2.2.2.2.1 ≠ a.2.2.2.2.2.2.2.1 ∧ a.2.2.2.2.1 ≠ a.2.2.2.2.2.2.2.2 ∧ a.2.2.2.2.2.1 ≠ a.2.2.2.2.2.2.1 ∧ a.2.2.2.2.2.1 ≠ a.2.2.2.2.2.2.2.1 ∧ a.2.2.2.2.2.1 ≠ a.2.2.2.2.2.2.2.2 ∧ a.2.2.2.2.2.2.1 ≠ a.2.2.2.2.2.2.2.1 ∧ a.2.2.2.2.2.2.1 ≠ a.2.2.2.2.2.2.2.2 ∧ a.2.2.2.2.2.2.2.1 ≠ a.2.2.2.2.2.2.2.2
def MBf (a : MA) (r : MR) (S : XS) : Prop := r.1 = a.1 ∧ r.2.1 = (S.2.2.2.2.1.length : Int) ∧ r.2.2.2.1 = S.2.1.1 ∧ r.2.2.2.2.2.2.2.2.1 = S.2.2.2.1.isSome ∧ r.2.2.2.2.2.2.2.2.2.1 = (S.2.2.2.2.2.length : Int) ∧ r.2.2.2.2.2.2.2.2.2.2.1 = (S.1.length : Int) ∧ r.2.2.2.2.2.2.2.2.2.2.2.2.2.2.2.2.2.1 = S.2.1.2
def MBa (G : xG) (h : xH) (sa : Nat → Nat) (a : MA) (S : XS) (kb : Option AB) : Prop :=
  (∃ g, AR G h a.1 1456 g ∧ RWf g 0 S.2.2.1) ∧ (∃ g, AR G h a.2.1 1456 g) ∧ (∃ g, AR G h a.2.2.1 1456 g ∧ ∀ B', kb = some B' → RWf g 0 B') ∧ (∃ g, AR G h a.2.2.2.1 1456 g ∧ ∀ B', S.2.2.2.1 = some B' → RWf g 0 B') ∧
  (∃ g, AR G h a.2.2.2.2.1 11648 g ∧ S.2.2.2.2.1.length ≤ 8 ∧ ∀ k, k < S.2.2.2.2.1.length → RWf g (1456 * k) (S.2.2.2.2.1.getD k dB)) ∧ (∃ g, AR G h a.2.2.2.2.2.1 1300 g ∧ S.2.2.2.2.2.length ≤ 1300 ∧ ∀ k, k < S.2.2.2.2.2.length → g k = iI (S.2.2.2.2.2.getD k 0)) ∧ INP G h a.2.2.2.2.2.2.1 S.1 ∧ (∃ g, AR G h a.2.2.2.2.2.2.2.1 60 g) ∧ OWS G h a.2.2.2.2.2.2.2.2 sa
def MBr (G : xG) (h : xH) (sa : Nat → Nat) (m : Nat) (a : MA) (r : MR) (S : XS) (kb : Option AB) : Prop := MO G h m a r ∧ MBf a r S ∧ MBa G h sa a S kb ∧ NDa a
def MB (G : xG) (h : xH) (sa : Nat → Nat) (m : Nat) (a : MA) (S : XS) (c : Int) : Prop := ∃ r : MR, r.2.2.1 = c ∧ MBr G h sa m a r S none
def fpM (m : Nat) (a : MA) : List Nat := [m, a.1, a.2.1, a.2.2.1, a.2.2.2.1, a.2.2.2.2.1, a.2.2.2.2.2.1, a.2.2.2.2.2.2.1, a.2.2.2.2.2.2.2.1]
theorem MBr.ds {G : xG} {h : xH} {sa : Nat → Nat} {m : Nat} {a : MA} {r : MR} {S : XS} {kb : Option AB} (hB : MBr G h sa m a r S kb) : DSa m a := by
  obtain ⟨hM, hf, ⟨⟨gn, hn, hnW⟩, ⟨gd, hd⟩, ⟨gk, hk, hkW⟩, ⟨gs, hs, hsW⟩, ⟨gh, hh, hhl, hhW⟩, ⟨go, ho, hol, hoW⟩, hI, ⟨gq, hod⟩, how⟩, hND⟩ := id hB
  obtain ⟨gi, hI1, hI2, hI3, hI4, hI5⟩ := id hI
  obtain ⟨ow1, gw, ow2, ow3⟩ := id how
  exact ⟨ne_oi hM.2 hn.2, ne_oi hM.2 hd.2, ne_oi hM.2 hk.2, ne_oi hM.2 hs.2, ne_oi hM.2 hh.2, ne_oi hM.2 ho.2, ne_oi hM.2 hI2, ne_oi hM.2 hod.2, ne_oi hM.2 ow2, hND.1, hND.2.1, hND.2.2.1, ne_sz hn.2 hh.2 (by decide), ne_sz hn.2 ho.2 (by decide), ne_sz hn.2 hI2 (by decide), ne_sz hn.2 hod.2 (by decide), (ne_qi ow2 hn.2).symm, hND.2.2.2.1, hND.2.2.2.2.1, ne_sz hd.2 hh.2 (by decide), ne_sz hd.2 ho.2 (by decide), ne_sz hd.2 hI2 (by decide), ne_sz hd.2 hod.2 (by decide), (ne_qi ow2 hd.2).symm, hND.2.2.2.2.2, ne_sz hk.2 hh.2 (by decide), ne_sz hk.2 ho.2 (by decide), ne_sz hk.2 hI2 (by decide), ne_sz hk.2 hod.2 (by decide), (ne_qi ow2 hk.2).symm, ne_sz hs.2 hh.2 (by decide), ne_sz hs.2 ho.2 (by decide), ne_sz hs.2 hI2 (by decide), ne_sz hs.2 hod.2 (by decide), (ne_qi ow2 hs.2).symm, ne_sz hh.2 ho.2 (by decide), ne_sz hh.2 hI2 (by decide), ne_sz hh.2 hod.2 (by decide), (ne_qi ow2 hh.2).symm, ne_sz ho.2 hI2 (by decide), ne_sz ho.2 hod.2 (by decide), (ne_qi ow2 ho.2).symm, ne_sz hI2 hod.2 (by decide), (ne_qi ow2 hI2).symm, (ne_qi ow2 hod.2).symm⟩
theorem nm1 {q x : Nat} (h : q ≠ x) : q ∉ [x] := by simpa using h
theorem nm2 {q x y : Nat} (h : q ≠ x) (h2 : q ≠ y) : q ∉ [x, y] := by simp [h, h2]
theorem nm3 {q x y z : Nat} (h : q ≠ x) (h2 : q ≠ y) (h3 : q ≠ z) : q ∉ [x, y, z] := by simp [h, h2, h3]
theorem MBr.fpm {m : Nat} {a : MA} {fp : List Nat} {h h' : xH} (hF : FRp fp h h') (hs : ∀ q ∈ fp, q ∈ fpM m a) : FRp (fpM m a) h h' := hF.mono hs
theorem MBf.k {a : MA} {r r' : MR} {S : XS} (h : MBf a r S) (k : RK r r') : MBf a r' S := by
  obtain ⟨h1, h2, h3, h4, h5, h6, h7⟩ := h
  obtain ⟨k1, k2, k3, k4, k5, k6, k7, -⟩ := k
  exact ⟨k1.trans h1, k2.trans h2, k3.trans h3, k4.trans h4, k5.trans h5, k6.trans h6, k7.trans h7⟩
theorem MBr.obj {G : xG} {h h' : xH} {sa : Nat → Nat} {m : Nat} {a : MA} {r : MR} {S : XS} {kb : Option AB} (hB : MBr G h sa m a r S kb) {r' : MR} (hM' : MO G h' m a r') (hK : RK r r') (hF : FRp [m] h h') : MBr G h' sa m a r' S kb := by
  obtain ⟨hM, hf, ⟨⟨gn, hn, hnW⟩, ⟨gd, hd⟩, ⟨gk, hk, hkW⟩, ⟨gs, hs, hsW⟩, ⟨gh, hh, hhl, hhW⟩, ⟨go, ho, hol, hoW⟩, hI, ⟨gq, hod⟩, how⟩, hND⟩ := id hB
  obtain ⟨gi, hI1, hI2, hI3, hI4, hI5⟩ := id hI
  obtain ⟨ow1, gw, ow2, ow3⟩ := id how
  have hds : DSa m a := hB.ds
  exact ⟨hM', hf.k hK, ⟨⟨gn, hn.fr hF (nm1 (hds.1).symm), hnW⟩, ⟨gd, hd.fr hF (nm1 (hds.2.1).symm)⟩, ⟨gk, hk.fr hF (nm1 (hds.2.2.1).symm), hkW⟩, ⟨gs, hs.fr hF (nm1 (hds.2.2.2.1).symm), hsW⟩, ⟨gh, hh.fr hF (nm1 (hds.2.2.2.2.1).symm), hhl, hhW⟩, ⟨go, ho.fr hF (nm1 (hds.2.2.2.2.2.1).symm), hol, hoW⟩, hI.fr hF (nm1 (hds.2.2.2.2.2.2.1).symm), ⟨gq, hod.fr hF (nm1 (hds.2.2.2.2.2.2.2.1).symm)⟩, ⟨by rw [hF.1]; exact ow1, gw, (hF.2 _ (nm1 (hds.2.2.2.2.2.2.2.2.1).symm)).trans ow2, ow3⟩⟩, hND⟩
theorem MBr.row {G : xG} {h h' : xH} {sa : Nat → Nat} {m : Nat} {a : MA} {r : MR} {S : XS} {kb : Option AB} (hB : MBr G h sa m a r S kb) {r' : MR} (hM' : MO G h' m a r') (hK : RK r r') {g' : Nat → Int32} (hR' : AR G h' r.1 1456 g') {B' : AB} (hW : RWf g' 0 B') (hF : FRp [m, r.1] h h') : MBr G h' sa m a r' (S.1, S.2.1, B', S.2.2.2) kb := by
  obtain ⟨hM, hf, ⟨⟨gn, hn, hnW⟩, ⟨gd, hd⟩, ⟨gk, hk, hkW⟩, ⟨gs, hs, hsW⟩, ⟨gh, hh, hhl, hhW⟩, ⟨go, ho, hol, hoW⟩, hI, ⟨gq, hod⟩, how⟩, hND⟩ := id hB
  obtain ⟨gi, hI1, hI2, hI3, hI4, hI5⟩ := id hI
  obtain ⟨ow1, gw, ow2, ow3⟩ := id how
  have hds : DSa m a := hB.ds
  rw [hf.1] at hR' hF
  exact ⟨hM', (hf.k hK : MBf a r' S), ⟨⟨g', hR', hW⟩, ⟨gd, hd.fr hF (nm2 (hds.2.1).symm (hds.2.2.2.2.2.2.2.2.2.1).symm)⟩, ⟨gk, hk.fr hF (nm2 (hds.2.2.1).symm (hds.2.2.2.2.2.2.2.2.2.2.1).symm), hkW⟩, ⟨gs, hs.fr hF (nm2 (hds.2.2.2.1).symm (hds.2.2.2.2.2.2.2.2.2.2.2.1).symm), hsW⟩, ⟨gh, hh.fr hF (nm2 (hds.2.2.2.2.1).symm (hds.2.2.2.2.2.2.2.2.2.2.2.2.1).symm), hhl, hhW⟩, ⟨go, ho.fr hF (nm2 (hds.2.2.2.2.2.1).symm (hds.2.2.2.2.2.2.2.2.2.2.2.2.2.1).symm), hol, hoW⟩, hI.fr hF (nm2 (hds.2.2.2.2.2.2.1).symm (hds.2.2.2.2.2.2.2.2.2.2.2.2.2.2.1).symm), ⟨gq, hod.fr hF (nm2 (hds.2.2.2.2.2.2.2.1).symm (hds.2.2.2.2.2.2.2.2.2.2.2.2.2.2.2.1).symm)⟩, ⟨by rw [hF.1]; exact ow1, gw, (hF.2 _ (nm2 (hds.2.2.2.2.2.2.2.2.1).symm (hds.2.2.2.2.2.2.2.2.2.2.2.2.2.2.2.2.1).symm)).trans ow2, ow3⟩⟩, hND⟩
theorem MBr.none {G : xG} {h : xH} {sa : Nat → Nat} {m : Nat} {a : MA} {r : MR} {S : XS} {kb : Option AB} (hB : MBr G h sa m a r S kb) : MBr G h sa m a r S none := by
  obtain ⟨hM, hf, ⟨⟨gn, hn, hnW⟩, ⟨gd, hd⟩, ⟨gk, hk, hkW⟩, ⟨gs, hs, hsW⟩, ⟨gh, hh, hhl, hhW⟩, ⟨go, ho, hol, hoW⟩, hI, ⟨gq, hod⟩, how⟩, hND⟩ := id hB
  obtain ⟨gi, hI1, hI2, hI3, hI4, hI5⟩ := id hI
  obtain ⟨ow1, gw, ow2, ow3⟩ := id how
  exact ⟨hM, hf, ⟨⟨gn, hn, hnW⟩, ⟨gd, hd⟩, ⟨gk, hk, fun _ z => by cases z⟩, ⟨gs, hs, hsW⟩, ⟨gh, hh, hhl, hhW⟩, ⟨go, ho, hol, hoW⟩, hI, ⟨gq, hod⟩, how⟩, hND⟩
theorem MB.mk {G : xG} {h : xH} {sa : Nat → Nat} {m : Nat} {a : MA} {r : MR} {S : XS} {kb : Option AB} {c : Int} (hB : MBr G h sa m a r S kb) (hc : r.2.2.1 = c) : MB G h sa m a S c := ⟨r, hc, hB.none⟩
theorem MBr.now {G : xG} {h : xH} {sa : Nat → Nat} {m : Nat} {a : MA} {r : MR} {S : XS} {kb : Option AB} (hB : MBr G h sa m a r S kb) : ∃ g, AR G h r.1 1456 g ∧ RWf g 0 S.2.2.1 := by
  obtain ⟨hM, hf, ⟨⟨gn, hn, hnW⟩, ⟨gd, hd⟩, ⟨gk, hk, hkW⟩, ⟨gs, hs, hsW⟩, ⟨gh, hh, hhl, hhW⟩, ⟨go, ho, hol, hoW⟩, hI, ⟨gq, hod⟩, how⟩, hND⟩ := id hB
  obtain ⟨gi, hI1, hI2, hI3, hI4, hI5⟩ := id hI
  obtain ⟨ow1, gw, ow2, ow3⟩ := id how
  exact ⟨gn, by rw [hf.1]; exact hn, hnW⟩
theorem fpm_m {m : Nat} {a : MA} {h h' : xH} (hF : FRp [m] h h') : FRp (fpM m a) h h' := hF.mono (by simp [fpM])
theorem fpm_r {m : Nat} {a : MA} {q : Nat} {h h' : xH} (hF : FRp [m, q] h h') (e : q = a.1) : FRp (fpM m a) h h' := hF.mono (by simp [fpM, e])
theorem fpm_y {m : Nat} {a : MA} {h h' : xH} (hF : FRp [m, a.2.2.2.2.1] h h') : FRp (fpM m a) h h' := hF.mono (by simp [fpM])
theorem fpm_k {m : Nat} {a : MA} {h h' : xH} (hF : FRp [a.2.2.1] h h') : FRp (fpM m a) h h' := hF.mono (by simp [fpM])
theorem fpm_n {m : Nat} {a : MA} {h h' : xH} (hF : FRp [m, a.1] h h') : FRp (fpM m a) h h' := hF.mono (by simp [fpM])
theorem RWf.mv {g g' : Nat → Int32} {o o' : Nat} {B : AB} (h : RWf g o B) (e : ∀ k, k < 1456 → g' (o' + k) = g (o + k)) : RWf g' o' B := by
  obtain ⟨s6, h6⟩ := h.2
  refine ⟨h.1.mv e, s6, h6.mv (fun k hk => ?_)⟩
  have z := e (1249 + k) (by omega)
  rw [← Nat.add_assoc, ← Nat.add_assoc] at z
  exact z
theorem b_X12_keep0 {G : xG} {h : xH} {sa : Nat → Nat} {m : Nat} {a : MA} {r : MR} {S : XS} {kb : Option AB} (hB : MBr G h sa m a r S kb) : CC G MX12_keep [.ref m] h (fun o h' => o = .inl none ∧ MBr G h' sa m a r S (some S.2.2.1) ∧ FRp [a.2.2.1] h h') := by
  obtain ⟨hM, hf, ⟨⟨gn, hn, hnW⟩, ⟨gd, hd⟩, ⟨gk, hk, hkW⟩, ⟨gs, hs, hsW⟩, ⟨gh, hh, hhl, hhW⟩, ⟨go, ho, hol, hoW⟩, hI, ⟨gq, hod⟩, how⟩, hND⟩ := id hB
  obtain ⟨gi, hI1, hI2, hI3, hI4, hI5⟩ := id hI
  obtain ⟨ow1, gw, ow2, ow3⟩ := id how
  have hds : DSa m a := hB.ds
  refine cc_mono (c_X12_keep hM hn hk) (fun o h' q => ?_)
  obtain ⟨q1, q2, q3, hF⟩ := q
  exact ⟨q1, ⟨q2, hf, ⟨⟨gn, hn.fr hF (nm1 (hds.2.2.2.2.2.2.2.2.2.2.1)), hnW⟩, ⟨gd, hd.fr hF (nm1 (hds.2.2.2.2.2.2.2.2.2.2.2.2.2.2.2.2.2.1))⟩, ⟨_, q3, fun B9 z => by cases z; exact hnW.mv (fun k hk => cpy_in hk)⟩, ⟨gs, hs.fr hF (nm1 (hds.2.2.2.2.2.2.2.2.2.2.2.2.2.2.2.2.2.2.2.2.2.2.2.2.1).symm), hsW⟩, ⟨gh, hh.fr hF (nm1 (hds.2.2.2.2.2.2.2.2.2.2.2.2.2.2.2.2.2.2.2.2.2.2.2.2.2.1).symm), hhl, hhW⟩, ⟨go, ho.fr hF (nm1 (hds.2.2.2.2.2.2.2.2.2.2.2.2.2.2.2.2.2.2.2.2.2.2.2.2.2.2.1).symm), hol, hoW⟩, hI.fr hF (nm1 (hds.2.2.2.2.2.2.2.2.2.2.2.2.2.2.2.2.2.2.2.2.2.2.2.2.2.2.2.1).symm), ⟨gq, hod.fr hF (nm1 (hds.2.2.2.2.2.2.2.2.2.2.2.2.2.2.2.2.2.2.2.2.2.2.2.2.2.2.2.2.1).symm)⟩, ⟨by rw [hF.1]; exact ow1, gw, (hF.2 _ (nm1 (hds.2.2.2.2.2.2.2.2.2.2.2.2.2.2.2.2.2.2.2.2.2.2.2.2.2.2.2.2.2.1).symm)).trans ow2, ow3⟩⟩, hND⟩, hF⟩
theorem b_X12_keep {G : xG} {h : xH} {sa : Nat → Nat} {m : Nat} {a : MA} {r : MR} {S : XS} {kb : Option AB} (hB : MBr G h sa m a r S kb) : CC G MX12_keep [.ref m] h (fun o h' => o = .inl none ∧ MBr G h' sa m a r S (some S.2.2.1) ∧ FRp (fpM m a) h h') := cc_mono (b_X12_keep0 hB) (fun o h' q => ⟨q.1, q.2.1, fpm_k q.2.2⟩)
theorem remH_lt {Hs : List AB} {B : AB} (h : Hs.length < 8) : remH Hs B = Hs ++ [B] := by unfold remH; rw [if_pos h]
theorem remH_8 {Hs : List AB} {B : AB} (h : Hs.length = 8) : remH Hs B = Hs.drop 1 ++ [B] := by unfold remH; rw [if_neg (by omega)]
theorem b_X12_record0 {G : xG} {h : xH} {sa : Nat → Nat} {m : Nat} {a : MA} {r : MR} {S : XS} {B0 : AB} (hB : MBr G h sa m a r S (some B0)) : CC G MX12_record [.ref m] h (fun o h' => o = .inl none ∧ (∃ v, MBr G h' sa m a (r_un r v) (S.1, S.2.1, S.2.2.1, S.2.2.2.1, remH S.2.2.2.2.1 B0, S.2.2.2.2.2) none) ∧ FRp [m, a.2.2.2.2.1] h h') := by
  obtain ⟨hM, hf, ⟨⟨gn, hn, hnW⟩, ⟨gd, hd⟩, ⟨gk, hk, hkW⟩, ⟨gs, hs, hsW⟩, ⟨gh, hh, hhl, hhW⟩, ⟨go, ho, hol, hoW⟩, hI, ⟨gq, hod⟩, how⟩, hND⟩ := id hB
  obtain ⟨gi, hI1, hI2, hI3, hI4, hI5⟩ := id hI
  obtain ⟨ow1, gw, ow2, ow3⟩ := id how
  have hds : DSa m a := hB.ds
  obtain ⟨f1, f2, f3, f4, f5, f6, f7⟩ := hf
  have hk0 := hkW B0 rfl
  by_cases c : S.2.2.2.2.1.length < 8
  · refine cc_mono (c_X12_record_lt hM hh hk c f2) (fun o h' q => ?_)
    obtain ⟨q1, g', q2, q3, q4, q5, hF⟩ := q
    refine ⟨q1, ⟨_, q2, ⟨f1, ?_, f3, f4, f5, f6, f7⟩, ⟨⟨gn, hn.fr hF (nm2 (hds.1).symm (hds.2.2.2.2.2.2.2.2.2.2.2.2.1)), hnW⟩, ⟨gd, hd.fr hF (nm2 (hds.2.1).symm (hds.2.2.2.2.2.2.2.2.2.2.2.2.2.2.2.2.2.2.2.1))⟩, ⟨gk, hk.fr hF (nm2 (hds.2.2.1).symm (hds.2.2.2.2.2.2.2.2.2.2.2.2.2.2.2.2.2.2.2.2.2.2.2.2.2.1)), fun _ z => by cases z⟩, ⟨gs, hs.fr hF (nm2 (hds.2.2.2.1).symm (hds.2.2.2.2.2.2.2.2.2.2.2.2.2.2.2.2.2.2.2.2.2.2.2.2.2.2.2.2.2.2.1)), hsW⟩, ⟨g', q3, ?_, ?_⟩, ⟨go, ho.fr hF (nm2 (hds.2.2.2.2.2.1).symm (hds.2.2.2.2.2.2.2.2.2.2.2.2.2.2.2.2.2.2.2.2.2.2.2.2.2.2.2.2.2.2.2.2.2.2.2.1).symm), hol, hoW⟩, hI.fr hF (nm2 (hds.2.2.2.2.2.2.1).symm (hds.2.2.2.2.2.2.2.2.2.2.2.2.2.2.2.2.2.2.2.2.2.2.2.2.2.2.2.2.2.2.2.2.2.2.2.2.1).symm), ⟨gq, hod.fr hF (nm2 (hds.2.2.2.2.2.2.2.1).symm (hds.2.2.2.2.2.2.2.2.2.2.2.2.2.2.2.2.2.2.2.2.2.2.2.2.2.2.2.2.2.2.2.2.2.2.2.2.2.1).symm)⟩, ⟨by rw [hF.1]; exact ow1, gw, (hF.2 _ (nm2 (hds.2.2.2.2.2.2.2.2.1).symm (hds.2.2.2.2.2.2.2.2.2.2.2.2.2.2.2.2.2.2.2.2.2.2.2.2.2.2.2.2.2.2.2.2.2.2.2.2.2.2.1).symm)).trans ow2, ow3⟩⟩, hND⟩, hF⟩
    · show (S.2.2.2.2.1.length : Int) + 1 = ((remH S.2.2.2.2.1 B0).length : Int)
      rw [remH_lt c]; simp
    · show (remH S.2.2.2.2.1 B0).length ≤ 8
      rw [remH_lt c]; simp; omega
    · intro k hk9
      have hk9 : k < (remH S.2.2.2.2.1 B0).length := hk9
      show RWf g' (1456 * k) ((remH S.2.2.2.2.1 B0).getD k dB)
      rw [remH_lt c] at hk9 ⊢
      have hk9 : k < S.2.2.2.2.1.length + 1 := by simpa using hk9
      by_cases d : k = S.2.2.2.2.1.length
      · subst d
        rw [show (S.2.2.2.2.1 ++ [B0]).getD S.2.2.2.2.1.length dB = B0 by simp]
        exact hk0.mv (fun q hq => (q5 q hq).trans (congrArg gk (by omega)))
      · rw [show (S.2.2.2.2.1 ++ [B0]).getD k dB = S.2.2.2.2.1.getD k dB by simp [List.getElem?_append_left (show k < S.2.2.2.2.1.length by omega)]]
        exact (hhW k (by omega)).mv (fun q hq => q4 k (by omega) q hq)
  · have c8 : S.2.2.2.2.1.length = 8 := by omega
    refine cc_mono (c_X12_record_8 hM hh hk (by rw [f2, c8]; rfl)) (fun o h' q => ?_)
    obtain ⟨q1, g', q2, q3, q4, q5, hF⟩ := q
    have hl8 : (remH S.2.2.2.2.1 B0).length = 8 := by rw [remH_8 c8]; simp [c8]
    refine ⟨q1, ⟨_, q2, ⟨f1, ?_, f3, f4, f5, f6, f7⟩, ⟨⟨gn, hn.fr hF (nm2 (hds.1).symm (hds.2.2.2.2.2.2.2.2.2.2.2.2.1)), hnW⟩, ⟨gd, hd.fr hF (nm2 (hds.2.1).symm (hds.2.2.2.2.2.2.2.2.2.2.2.2.2.2.2.2.2.2.2.1))⟩, ⟨gk, hk.fr hF (nm2 (hds.2.2.1).symm (hds.2.2.2.2.2.2.2.2.2.2.2.2.2.2.2.2.2.2.2.2.2.2.2.2.2.1)), fun _ z => by cases z⟩, ⟨gs, hs.fr hF (nm2 (hds.2.2.2.1).symm (hds.2.2.2.2.2.2.2.2.2.2.2.2.2.2.2.2.2.2.2.2.2.2.2.2.2.2.2.2.2.2.1)), hsW⟩, ⟨g', q3, ?_, ?_⟩, ⟨go, ho.fr hF (nm2 (hds.2.2.2.2.2.1).symm (hds.2.2.2.2.2.2.2.2.2.2.2.2.2.2.2.2.2.2.2.2.2.2.2.2.2.2.2.2.2.2.2.2.2.2.2.1).symm), hol, hoW⟩, hI.fr hF (nm2 (hds.2.2.2.2.2.2.1).symm (hds.2.2.2.2.2.2.2.2.2.2.2.2.2.2.2.2.2.2.2.2.2.2.2.2.2.2.2.2.2.2.2.2.2.2.2.2.1).symm), ⟨gq, hod.fr hF (nm2 (hds.2.2.2.2.2.2.2.1).symm (hds.2.2.2.2.2.2.2.2.2.2.2.2.2.2.2.2.2.2.2.2.2.2.2.2.2.2.2.2.2.2.2.2.2.2.2.2.2.1).symm)⟩, ⟨by rw [hF.1]; exact ow1, gw, (hF.2 _ (nm2 (hds.2.2.2.2.2.2.2.2.1).symm (hds.2.2.2.2.2.2.2.2.2.2.2.2.2.2.2.2.2.2.2.2.2.2.2.2.2.2.2.2.2.2.2.2.2.2.2.2.2.2.1).symm)).trans ow2, ow3⟩⟩, hND⟩, hF⟩
    · show (8 : Int) = ((remH S.2.2.2.2.1 B0).length : Int)
      rw [hl8]; rfl
    · show (remH S.2.2.2.2.1 B0).length ≤ 8
      omega
    · intro k hk9
      have hk9 : k < (remH S.2.2.2.2.1 B0).length := hk9
      show RWf g' (1456 * k) ((remH S.2.2.2.2.1 B0).getD k dB)
      rw [hl8] at hk9
      rw [remH_8 c8]
      by_cases d : k = 7
      · subst d
        rw [show (S.2.2.2.2.1.drop 1 ++ [B0]).getD 7 dB = B0 by simp [List.getElem?_append, c8]]
        exact hk0.mv (fun q hq => (q5 q hq).trans (congrArg gk (by omega)))
      · rw [show (S.2.2.2.2.1.drop 1 ++ [B0]).getD k dB = S.2.2.2.2.1.getD (k + 1) dB by simp [List.getElem?_append, c8, show k < 7 by omega, Nat.add_comm]; rw [List.getElem?_eq_getElem (show k + 1 < S.2.2.2.2.1.length by omega)]; rfl]
        exact (hhW (k + 1) (by omega)).mv (fun q hq => q4 k (by omega) q hq)
theorem b_X12_record {G : xG} {h : xH} {sa : Nat → Nat} {m : Nat} {a : MA} {r : MR} {S : XS} {B0 : AB} (hB : MBr G h sa m a r S (some B0)) : CC G MX12_record [.ref m] h (fun o h' => o = .inl none ∧ (∃ v, MBr G h' sa m a (r_un r v) (S.1, S.2.1, S.2.2.1, S.2.2.2.1, remH S.2.2.2.2.1 B0, S.2.2.2.2.2) none) ∧ FRp (fpM m a) h h') := cc_mono (b_X12_record0 hB) (fun o h' q => ⟨q.1, q.2.1, fpm_y q.2.2⟩)
