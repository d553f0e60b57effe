/-! ===== the parser: a script ===== -/
def cLo (k : Nat) : Int := if k = 6 then 1 else 0
def cHi (k : Nat) : Int := if k = 6 then 24 else 5
def cTwo (k : Nat) : Bool := decide (k = 0) || (decide (k = 1) || decide (k = 8))
def cLo2 (k : Nat) : Int := if k ≤ 1 then 2 else 0
def cHi2 (k : Nat) : Int := if k ≤ 1 then 4 else if k = 8 then 5 else 0
theorem k9 {k : Nat} (h : k < 9) : k = 0 ∨ k = 1 ∨ k = 2 ∨ k = 3 ∨ k = 4 ∨ k = 5 ∨ k = 6 ∨ k = 7 ∨ k = 8 := by omega
theorem c_rng {k : Nat} (h : k < 9) : (0 ≤ cLo k ∧ cLo k ≤ 1000) ∧ (0 ≤ cHi k ∧ cHi k ≤ 1000) ∧ (0 ≤ cLo2 k ∧ cLo2 k ≤ 1000) ∧ (0 ≤ cHi2 k ∧ cHi2 k ≤ 1000) := by
  rcases k9 h with e | e | e | e | e | e | e | e | e <;> subst e <;> decide
def cw (T : List Int) (p k : Nat) : Bool := isW T (tokAt T p) (txS (4 + k))
def fndF (T : List Int) (p : Nat) : Nat → Nat → Int
  | 0, _ => -1
  | f + 1, k => if cw T p k then (k : Int) else fndF T p f (k + 1)
def fndC (T : List Int) (p : Nat) : Int := fndF T p 9 0
theorem fndF_b (T : List Int) (p : Nat) : ∀ f k, fndF T p f k = -1 ∨ ((k : Int) ≤ fndF T p f k ∧ fndF T p f k < k + f) := by
  intro f
  induction f with
  | zero => intro k; exact Or.inl rfl
  | succ f ih =>
    intro k
    unfold fndF
    split
    · exact Or.inr ⟨Int.le_refl _, by omega⟩
    · rcases ih (k + 1) with h | h
      · exact Or.inl h
      · exact Or.inr ⟨by omega, by omega⟩
theorem fndC_b (T : List Int) (p : Nat) : fndC T p = -1 ∨ (0 ≤ fndC T p ∧ fndC T p < 9) := by
  rcases fndF_b T p 9 0 with h | h
  · exact Or.inl h
  · exact Or.inr ⟨by have := h.1; unfold fndC; omega, by have := h.2; unfold fndC; omega⟩
def sSec (T : List Int) (k p : Nat) : PR Int := if cTwo k then sNum T p (cLo2 k) (cHi2 k) else .inr (0, p)
def sCmd (T : List Int) (p : Nat) : PR CM := if fndC T p < 0 then sErr T p 1 else (match sNum T (tokAt T p).2.2 (cLo (fndC T p).toNat) (cHi (fndC T p).toNat) with | .inl e => .inl e | .inr a => (match sSec T (fndC T p).toNat a.2 with | .inl e => .inl e | .inr b => (match sSemi T b.2 with | .inl e => .inl e | .inr c => .inr (((fndC T p).toNat, a.1, b.1), c.2))))
def sFinC (T : List Int) (p : Nat) : PR (List CM) := if (tokAt T p).1 = 4 then .inr ([], p) else sErr T p (if 0 ≤ fndC T p then 3 else 1)
def sCmds (T : List Int) : Nat → Nat → PR (List CM)
  | 0, p => sFinC T p
  | f + 1, p => if (tokAt T p).1 = 4 then sFinC T p else (match sCmd T p with | .inl e => .inl e | .inr a => (match sCmds T f a.2 with | .inl e => .inl e | .inr b => .inr (a.1 :: b.1, b.2)))
def sScript (T : List Int) : PR (List CM) := sCmds T 20 0
theorem sNum_r {T : List Int} {p : Nat} {lo hi a : Int} {q : Nat} (h : sNum T p lo hi = .inr (a, q)) (hlo : 0 ≤ lo) (hhi : hi ≤ 1000) : in32 a := by
  obtain ⟨h1, h2, -⟩ := sNum_t h
  unfold in32; omega
def PSc (G : xG) (K : xK) (so ca cb cc : Nat) : xH → Prop := fun h => ∃ cs, SCR G h K so ca cb cc cs
theorem SCRfr2 {G : xG} {h h' : xH} {K : xK} {o to I so ca cb cc : Nat} {cs : List CM} (hS : SCR G h K so ca cb cc cs) (hF : FRp [o, to] h h') (hds : ∀ q ∈ [so, ca, cb, cc], q ≠ o ∧ q ≠ to ∧ q ≠ I) : SCR G h' K so ca cb cc cs := by
  have k : ∀ q ∈ [so, ca, cb, cc], q ∉ [o, to] := fun q hq z => by
    rcases List.mem_cons.mp z with z | z
    · exact (hds q hq).1 z
    · exact (hds q hq).2.1 (List.mem_singleton.mp z)
  exact hS.fr hF (k _ (by simp)) (k _ (by simp)) (k _ (by simp)) (k _ (by simp))
theorem PARfr2 {G : xG} {h h' : xH} {K : xK} {o to I so ca cb cc : Nat} {T : List Int} {t : Nat × Nat × Nat} {c off num : Int} (hP : PAR G h K o to I T t c off num) (hF : FRp [so, ca, cb, cc] h h') (hds : ∀ q ∈ [so, ca, cb, cc], q ≠ o ∧ q ≠ to ∧ q ≠ I) : PAR G h' K o to I T t c off num :=
  hP.fr hF (fun z => (hds _ z).1 rfl) (fun z => (hds _ z).2.1 rfl)
theorem notin_ot {o to I so ca cb cc : Nat} (h : I ∉ [o, to]) (hds : ∀ q ∈ [so, ca, cb, cc], q ≠ o ∧ q ≠ to ∧ q ≠ I) : I ∉ [o, to] ++ [so, ca, cb, cc] := by
  intro z
  rcases List.mem_append.mp z with z | z
  · exact h z
  · exact (hds I z).2.2 rfl
