/-! ===== the script ===== -/
abbrev CM : Type := Nat × Int × Int
def dC : CM := (0, 0, 0)
def SCR (G : xG) (h : xH) (K : xK) (o a b c : Nat) (cs : List CM) : Prop := ∃ (g : Nat → Option Nat) (f s : Nat → Int32), (o ∈ h.1 ∧ a ∈ h.1 ∧ b ∈ h.1 ∧ c ∈ h.1) ∧ b ≠ c ∧ h.2 o = .inr (4, [.ref a, .ref b, .ref c, .int (iI (cs.length : Int))]) ∧ h.2 a = .inl (G.2.1 6, 20, .inr (.inr (.inr (.inr g)))) ∧ h.2 b = .inl (G.2.1 0, 20, .inl f) ∧ h.2 c = .inl (G.2.1 0, 20, .inl s) ∧ cs.length ≤ 20
  ∧ ∀ i, i < cs.length → g i = some (K.2.2.1 (cs.getD i dC).1) ∧ f i = iI (cs.getD i dC).2.1 ∧ s i = iI (cs.getD i dC).2.2 ∧ (cs.getD i dC).1 < 9 ∧ in32 (cs.getD i dC).2.1 ∧ in32 (cs.getD i dC).2.2
theorem SCR.fr {G : xG} {h h' : xH} {K : xK} {o a b c : Nat} {fp : List Nat} {cs : List CM} (hS : SCR G h K o a b c cs) (hF : FRp fp h h') (h1 : o ∉ fp) (h2 : a ∉ fp) (h3 : b ∉ fp) (h4 : c ∉ fp) : SCR G h' K o a b c cs := by
  obtain ⟨g, f, s, ⟨m1, m2, m3, m4⟩, nn, f1, f2, f3, f4, r⟩ := hS
  exact ⟨g, f, s, ⟨by rw [hF.1]; exact m1, by rw [hF.1]; exact m2, by rw [hF.1]; exact m3, by rw [hF.1]; exact m4⟩, nn, (hF.2 o h1).trans f1, (hF.2 a h2).trans f2, (hF.2 b h3).trans f3, (hF.2 c h4).trans f4, r⟩
theorem drop_c {cs : List CM} {i : Nat} (h : i < cs.length) : cs.drop i = cs.getD i dC :: cs.drop (i + 1) := by
  rw [List.drop_eq_getElem_cons h]; simp [h]
theorem ne_qi {h : xH} {o a : Nat} {k1 k2 : ClassId} {n m : Nat} {x : Nat → Option Nat} {y : Nat → Int32} (h1 : h.2 o = .inl (k1, n, .inr (.inr (.inr (.inr x))))) (h2 : h.2 a = .inl (k2, m, .inl y)) : o ≠ a := by
  intro e; rw [e, h2] at h1; cases h1
theorem rCmd_lt {k : Nat} {B : AB} {a b : Int} : rCmd k B a b < 4 := by
  have e : ∀ (c : Bool) (x y : Nat), x < 4 → y < 4 → (if c = true then x else y) < 4 := fun c x y h1 h2 => by split <;> assumption
  have e2 : ∀ (c : Prop) [Decidable c] (x y : Nat), x < 4 → y < 4 → (if c then x else y) < 4 := fun c _ x y h1 h2 => by split <;> assumption
  match k with
  | 0 => unfold rCmd rFold; exact e _ _ _ (e _ _ _ (e2 _ _ _ (by decide) (by decide)) (by decide)) (by decide)
  | 1 => unfold rCmd rRoll rRollS; exact e _ _ _ (e _ _ _ (e _ _ _ (by decide) (e2 _ _ _ (by decide) (by decide))) (by decide)) (by decide)
  | 2 => unfold rCmd rDust rDustS; exact e _ _ _ (e _ _ _ (by decide) (e _ _ _ (by decide) (e2 _ _ _ (by decide) (by decide)))) (by decide)
  | 3 => unfold rCmd rSeal rSealS; exact e _ _ _ (e _ _ _ (by decide) (e _ _ _ (by decide) (by decide))) (by decide)
  | 4 => unfold rCmd rCool rCoolS; exact e _ _ _ (e _ _ _ (by decide) (e2 _ _ _ (by decide) (by decide))) (by decide)
  | 5 => unfold rCmd rTake rTakeS; exact e _ _ _ (e _ _ _ (by decide) (by decide)) (by decide)
  | 6 => unfold rCmd rHours; exact e2 _ _ _ (by decide) (e2 _ _ _ (by decide) (e2 _ _ _ (by decide) (by decide)))
  | 7 => unfold rCmd rCut rCutS; exact e _ _ _ (e _ _ _ (by decide) (e2 _ _ _ (by decide) (by decide))) (by decide)
  | n + 8 => unfold rCmd rStack rStackS; exact e _ _ _ (e _ _ _ (e2 _ _ _ (by decide) (e _ _ _ (by decide) (e _ _ _ (by decide) (e2 _ _ _ (by decide) (e2 _ _ _ (by decide) (by decide)))))) (by decide)) (by decide)
theorem rCmd_inj {G : xG} {K : xK} (hG : GK G K) {k : Nat} {B : AB} {a b : Int} (h : K.1 (rCmd k B a b) = K.1 0) : rCmd k B a b = 0 := hG.2.1.2 _ _ rCmd_lt (by decide) h
