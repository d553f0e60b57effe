/-! ===== what the statics hold; the bench ===== -/
def x_zz (G : xG) (P : (Nat → Prop) → State → Heap → Prop) : Prop := ∀ s : State, G.2.2.1 (x_A G) s s.heap → P (x_A G) s s.heap
theorem r_gets {G : xG} {M : xM} {h : xH} {pc : Nat} {ls : List (Nat × Value)} {st : List Value} {kc ks : Nat} {Q : xR → xH → Prop} {C n d : String} {v : Value} {idx : Nat} (hZ : x_zz G (va_Z C n d v)) (hl : Cond.fieldLink M.1.cls idx C n d ∈ bg_L) (hd : decode M.2.1 pc = .ok (.getstatic idx, 3)) (k : RR G M (pc + 3) ls (v :: st) h kc ks Q) : RR G M pc ls st h kc ks Q := rr_of k fun _ _ _ _ s _ _ _ _ _ _ _ _ _ _ _ E S w => by
  exact va_gets E.1.1 E.1.2.1 (hZ s E.2.2.2.2.2.2.2.2.2.1) S.2.2.1 E.1.2.2.2.1 (E.1.2.2.2.2 _ hl) (fun _ z => z) hd w
abbrev xK : Type := (Nat → Nat) × (Nat → Nat) × (Nat → Nat) × Nat × Nat
abbrev nmR : List String := ["NONE", "NO_SHEET", "BAD_ARGUMENT", "BAD_STATE"]
abbrev nmT : List String := ["WORD", "NUMBER", "SEMICOLON", "INVALID", "END"]
abbrev nmC : List String := ["FOLD", "ROLL", "DUST", "SEAL", "COOL", "TAKE_OUT", "WAIT", "CUT", "STACK"]
abbrev enC : List (String × String × String × List Int32) := [("PastryBench$Command", "firstLow", "I", [0, 0, 0, 0, 0, 0, 1, 0, 0]), ("PastryBench$Command", "firstHigh", "I", [5, 5, 5, 5, 5, 5, 24, 5, 5]), ("PastryBench$Command", "hasSecond", "Z", [1, 1, 0, 0, 0, 0, 0, 0, 1]), ("PastryBench$Command", "secondLow", "I", [2, 2, 0, 0, 0, 0, 0, 0, 0]), ("PastryBench$Command", "secondHigh", "I", [4, 4, 0, 0, 0, 0, 0, 0, 5]), ("java/lang/Enum", "ordinal", "I", [0, 1, 2, 3, 4, 5, 6, 7, 8])]
/-- what the statics tell: the links between nest mates, the constants of the enums -/
def GK (G : xG) (K : xK) : Prop := GD G ∧ (x_zz G (va_En "PastryBench$Refusal" "LPastryBench$Refusal;" nmR [] K.1) ∧ ∀ i j, i < 4 → j < 4 → K.1 i = K.1 j → i = j) ∧ (x_zz G (va_En "PastryBench$TokenKind" "LPastryBench$TokenKind;" nmT [] K.2.1) ∧ ∀ i j, i < 5 → j < 5 → K.2.1 i = K.2.1 j → i = j) ∧ True
theorem gk_D {G : xG} {K : xK} (h : GK G K) : GD G := h.1
theorem gk_R {G : xG} {K : xK} (h : GK G K) (i : Nat) (hi : i < 4) : x_zz G (va_Z "PastryBench$Refusal" (nmR.getD i "") "LPastryBench$Refusal;" (.ref (K.1 i))) := fun s hs => ((h.2.1.1 s hs).1 i hi).1
theorem gk_T {G : xG} {K : xK} (h : GK G K) (i : Nat) (hi : i < 5) : x_zz G (va_Z "PastryBench$TokenKind" (nmT.getD i "") "LPastryBench$TokenKind;" (.ref (K.2.1 i))) := fun s hs => ((h.2.2.1.1 s hs).1 i hi).1
/-! the bench -/
abbrev TR : Type := Nat × Nat × Nat
/-- room, melting, flour, hours, escaped, broken; sheets -/
abbrev AB : Type := (Int × Int × Int × Int × Int × Int) × List AS
def dS : AS := ([], 0, 0, 0, false, false, false)
abbrev bf (A : Nat) (B : AB) : List Value := [.ref A, .int (iI (B.2.length : Int)), .int (iI B.1.1), .int (iI B.1.2.1), .int (iI B.1.2.2.1), .int (iI B.1.2.2.2.1), .int (iI B.1.2.2.2.2.1), .int (iI B.1.2.2.2.2.2)]
def TRin (fp : List Nat) (x : TR) : Prop := x.1 ∈ fp ∧ x.2.1 ∈ fp ∧ x.2.2 ∈ fp
def SHt (G : xG) (h : xH) (x : TR) (s : AS) : Prop := SH G h x.1 x.2.1 x.2.2 s
def DJ3 (x y : TR) : Prop := DJ x.1 x.2.1 x.2.2 y.1 y.2.1 y.2.2
def BNo (G : xG) (h : xH) (o A : Nat) (fp : List Nat) (B : AB) (g : Nat → Option Nat) (bs : Nat → TR) (F : Nat → AS) : Prop :=
  (o ∈ h.1 ∧ A ∈ h.1) ∧ h.2 o = .inr (0, bf A B) ∧ h.2 A = .inl (G.2.1 4, 6, .inr (.inr (.inr (.inr g)))) ∧ B.2.length ≤ 6 ∧ (∀ i, i < B.2.length → F i = B.2.getD i dS)
  ∧ (∀ i, i < 6 → g i = some (bs i).1 ∧ SHt G h (bs i) (F i)) ∧ (∀ i j, i < 6 → j < 6 → i ≠ j → DJ3 (bs i) (bs j)) ∧ (o ∈ fp ∧ A ∈ fp ∧ ∀ i, i < 6 → TRin fp (bs i))
def BN (G : xG) (h : xH) (o A : Nat) (fp : List Nat) (B : AB) : Prop := ∃ g bs F, BNo G h o A fp B g bs F
/-- a bench as it is between two calls -/
def WB (B : AB) : Prop := (∀ s ∈ B.2, WS s) ∧ (0 ≤ B.1.1 ∧ B.1.1 ≤ 40) ∧ (5 ≤ B.1.2.1 ∧ B.1.2.1 ≤ 35) ∧ (0 ≤ B.1.2.2.1 ∧ B.1.2.2.1 ≤ 999) ∧ (0 ≤ B.1.2.2.2.1 ∧ B.1.2.2.2.1 ≤ 9999)
def FRp (fp : List Nat) (h h' : xH) : Prop := h'.1 = h.1 ∧ ∀ q, q ∉ fp → h'.2 q = h.2 q
theorem FRp.rf {fp : List Nat} {h : xH} : FRp fp h h := ⟨rfl, fun _ _ => rfl⟩
theorem FRp.tr {fp : List Nat} {h h1 h2 : xH} (x : FRp fp h h1) (y : FRp fp h1 h2) : FRp fp h h2 := ⟨y.1.trans x.1, fun q hq => (y.2 q hq).trans (x.2 q hq)⟩
theorem FRp.w {fp : List Nat} {h h' : xH} {o : Nat} (ho : o ∈ fp) (e0 : h'.1 = h.1) (e2 : ∀ q, q ≠ o → h'.2 q = h.2 q) : FRp fp h h' := ⟨e0, fun q hq => e2 q (fun z => hq (by rw [z]; exact ho))⟩
def FR4 (o a t b : Nat) (h h' : xH) : Prop := h'.1 = h.1 ∧ ∀ q, q ≠ o → q ≠ a → q ≠ t → q ≠ b → h'.2 q = h.2 q
theorem FR4.rf {o a t b : Nat} {h : xH} : FR4 o a t b h h := ⟨rfl, fun _ _ _ _ _ => rfl⟩
theorem FR4.tr {o a t b : Nat} {h h1 h2 : xH} (x : FR4 o a t b h h1) (y : FR4 o a t b h1 h2) : FR4 o a t b h h2 := ⟨y.1.trans x.1, fun q q0 q1 q2 q3 => (y.2 q q0 q1 q2 q3).trans (x.2 q q0 q1 q2 q3)⟩
theorem FR4.of {o a t b : Nat} {h h' : xH} (x : FR a t b h h') : FR4 o a t b h h' := ⟨x.1, fun q _ q1 q2 q3 => x.2 q q1 q2 q3⟩
theorem FR4.wo {o a t b : Nat} {h h' : xH} (e0 : h'.1 = h.1) (e2 : ∀ q, q ≠ o → h'.2 q = h.2 q) : FR4 o a t b h h' := ⟨e0, fun q q0 _ _ _ => e2 q q0⟩
theorem FR4.wa {o a t b : Nat} {h h' : xH} (e0 : h'.1 = h.1) (e2 : ∀ q, q ≠ a → h'.2 q = h.2 q) : FR4 o a t b h h' := ⟨e0, fun q _ q0 _ _ => e2 q q0⟩
theorem ne_oo {h : xH} {o a c1 c2 : Nat} {x y : List Value} (h1 : h.2 o = .inr (c1, x)) (h2 : h.2 a = .inr (c2, y)) (hc : c1 ≠ c2) : o ≠ a := by
  intro e; rw [e, h2] at h1; exact hc (Prod.mk.inj (Sum.inr.inj h1)).1.symm
theorem ne_oi {h : xH} {o a c1 : Nat} {x : List Value} {y} (h1 : h.2 o = .inr (c1, x)) (h2 : h.2 a = .inl y) : o ≠ a := by
  intro e; rw [e, h2] at h1; cases h1
theorem ne_sz {h : xH} {o a n m : Nat} {k1 k2 : ClassId} {x y} (h1 : h.2 o = .inl (k1, n, x)) (h2 : h.2 a = .inl (k2, m, y)) (hc : n ≠ m) : o ≠ a := by
  intro e; rw [e, h2] at h1; exact hc (Prod.mk.inj (Prod.mk.inj (Sum.inl.inj h1)).2).1.symm
theorem getD_eqS {l : List AS} {i : Nat} (h : i < l.length) : l.getD i dS = l[i] := by simp [h]
theorem getD_memS {l : List AS} {i : Nat} (h : i < l.length) : l.getD i dS ∈ l := by rw [getD_eqS h]; exact List.getElem_mem h
theorem take_sS {l : List AS} {i : Nat} (h : i < l.length) : l.take (i + 1) = l.take i ++ [l.getD i dS] := by
  rw [List.take_succ_eq_append_getElem h, getD_eqS h]
theorem take_allS (l : List AS) : l.take l.length = l := List.take_length
def cnt (f : AS → Bool) (L : List AS) : Int := ((L.filter f).length : Int)
theorem cnt_t {f : AS → Bool} {L : List AS} {i : Nat} (h : i < L.length) (e : f (L.getD i dS) = true) : cnt f (L.take (i + 1)) = cnt f (L.take i) + 1 := by rw [take_sS h]; generalize L.getD i dS = x at e ⊢; simp [cnt, List.filter_append, e]
theorem cnt_f {f : AS → Bool} {L : List AS} {i : Nat} (h : i < L.length) (e : f (L.getD i dS) = false) : cnt f (L.take (i + 1)) = cnt f (L.take i) := by rw [take_sS h]; generalize L.getD i dS = x at e ⊢; simp [cnt, List.filter_append, e]
theorem cnt_b (f : AS → Bool) (L : List AS) : 0 ≤ cnt f L ∧ cnt f L ≤ L.length := by
  unfold cnt
  have := List.length_filter_le f L
  omega
def bst (f : AS → Int) (L : List AS) : Nat → Nat
  | 0 => 0
  | n + 1 => if f (L.getD (bst f L n) dS) < f (L.getD n dS) then n else bst f L n
theorem bst_lt (f : AS → Int) (L : List AS) (n : Nat) : bst f L n = 0 ∨ bst f L n < n := by
  induction n with
  | zero => exact Or.inl rfl
  | succ n ih => unfold bst; split <;> omega
theorem bst_1 (f : AS → Int) (L : List AS) : bst f L 1 = 0 := by simp [bst]
theorem bst_t {f : AS → Int} {L : List AS} {n : Nat} (h : f (L.getD (bst f L n) dS) < f (L.getD n dS)) : bst f L (n + 1) = n := by rw [bst, if_pos h]
theorem bst_f {f : AS → Int} {L : List AS} {n : Nat} (h : f (L.getD n dS) ≤ f (L.getD (bst f L n) dS)) : bst f L (n + 1) = bst f L n := by rw [bst, if_neg (by omega)]
/-- the place where a number is greatest; -1 without sheets -/
def grt (f : AS → Int) (L : List AS) : Int := if L.length = 0 then -1 else (bst f L L.length : Int)
def hasS (B : AB) (z : Int) : Bool := decide (0 ≤ z) && decide (z < (B.2.length : Int))
theorem hasS_t {B : AB} {z : Int} (h : hasS B z = true) : 0 ≤ z ∧ z < (B.2.length : Int) := by simpa [hasS] using h
def sAt (B : AB) (z : Int) : AS := B.2.getD z.toNat dS
def updA (F : Nat → AS) (i : Nat) (s : AS) (k : Nat) : AS := if k = i then s else F k
theorem updA_eq (F : Nat → AS) (i : Nat) (s : AS) : updA F i s i = s := if_pos rfl
theorem updA_ne (F : Nat → AS) {i k : Nat} (s : AS) (h : k ≠ i) : updA F i s k = F k := if_neg h
theorem BNo.mk4o {G : xG} {h h' : xH} {o A : Nat} {fp : List Nat} {B B' : AB} {g : Nat → Option Nat} {bs : Nat → TR} {F : Nat → AS} (hB : BNo G h o A fp B g bs F) {i : Nat} (hi : i < 6) {a t b : Nat} (hbs : bs i = (a, t, b)) {s' : AS} (hF : FR4 o a t b h h') (hS : SH G h' a t b s') (ho : h'.2 o = .inr (0, bf A B')) (hl : B'.2.length ≤ 6) (hF' : ∀ k, k < B'.2.length → updA F i s' k = B'.2.getD k dS) : BNo G h' o A fp B' g bs (updA F i s') ∧ FRp fp h h' := by
  obtain ⟨⟨mO, mA⟩, fO, fA, hL6, hLF, hK, hD, hfp⟩ := hB
  have hSi := (hK i hi).2
  rw [hbs] at hSi
  have hT := hfp.2.2 i hi
  rw [hbs] at hT
  obtain ⟨gt, gb, -, -, fa, ft, fb, -⟩ := hSi
  refine ⟨⟨⟨by rw [hF.1]; exact mO, by rw [hF.1]; exact mA⟩, ho, ?_, hl, hF', ?_, hD, hfp⟩, hF.1, ?_⟩
  · exact (hF.2 A (ne_oi fO fA).symm (ne_oi fa fA).symm (ne_sz fA ft (by decide)) (ne_sz fA fb (by decide))).trans fA
  · intro k hk
    refine ⟨(hK k hk).1, ?_⟩
    by_cases e : k = i
    · rw [e, updA_eq, hbs]; exact hS
    · rw [updA_ne _ _ e]
      have hd := hD i k hi hk (Ne.symm e)
      rw [hbs] at hd
      obtain ⟨gt2, gb2, m2, n2, fa2, ft2, fb2, r2⟩ := (hK k hk).2
      refine ⟨gt2, gb2, ⟨by rw [hF.1]; exact m2.1, by rw [hF.1]; exact m2.2.1, by rw [hF.1]; exact m2.2.2⟩, n2, ?_, ?_, ?_, r2⟩
      · exact (hF.2 _ (ne_oo fO fa2 (by decide)).symm hd.1.1.symm hd.2.1.1.symm hd.2.2.1.symm).trans fa2
      · exact (hF.2 _ (ne_oi fO ft2).symm hd.1.2.1.symm hd.2.1.2.1.symm hd.2.2.2.1.symm).trans ft2
      · exact (hF.2 _ (ne_oi fO fb2).symm hd.1.2.2.symm hd.2.1.2.2.symm hd.2.2.2.2.symm).trans fb2
  · intro q hq
    exact hF.2 q (fun z => hq (z ▸ hfp.1)) (fun z => hq (z ▸ hT.1)) (fun z => hq (z ▸ hT.2.1)) (fun z => hq (z ▸ hT.2.2))
theorem BNo.mk4 {G : xG} {h h' : xH} {o A : Nat} {fp : List Nat} {B B' : AB} {g : Nat → Option Nat} {bs : Nat → TR} {F : Nat → AS} (hB : BNo G h o A fp B g bs F) {i : Nat} (hi : i < 6) {a t b : Nat} (hbs : bs i = (a, t, b)) {s' : AS} (hF : FR4 o a t b h h') (hS : SH G h' a t b s') (ho : h'.2 o = .inr (0, bf A B')) (hl : B'.2.length ≤ 6) (hF' : ∀ k, k < B'.2.length → updA F i s' k = B'.2.getD k dS) : BN G h' o A fp B' ∧ FRp fp h h' :=
  ⟨⟨g, bs, _, (hB.mk4o hi hbs hF hS ho hl hF').1⟩, (hB.mk4o hi hbs hF hS ho hl hF').2⟩
theorem set_getDS {Ls : List AS} {i : Nat} {F : Nat → AS} {s' : AS} (hLF : ∀ i, i < Ls.length → F i = Ls.getD i dS) (hi : i < Ls.length) : ∀ k, k < (Ls.set i s').length → updA F i s' k = (Ls.set i s').getD k dS := by
  intro k hk
  rw [List.length_set] at hk
  by_cases e : k = i
  · rw [e, updA_eq]; simp [hi]
  · rw [updA_ne _ _ e, hLF k hk]; simp [List.getElem?_set, Ne.symm e]
theorem BNo.hdo {G : xG} {h h' : xH} {o A : Nat} {fp : List Nat} {B B' : AB} {g : Nat → Option Nat} {bs : Nat → TR} {F : Nat → AS} (hB : BNo G h o A fp B g bs F) (e0 : h'.1 = h.1) (e2 : ∀ q, q ≠ o → h'.2 q = h.2 q) (ho : h'.2 o = .inr (0, bf A B')) (hl : B'.2.length ≤ 6) (hF' : ∀ k, k < B'.2.length → F k = B'.2.getD k dS) : BNo G h' o A fp B' g bs F ∧ FRp fp h h' := by
  obtain ⟨⟨mO, mA⟩, fO, fA, hL6, hLF, hK, hD, hfp⟩ := hB
  refine ⟨⟨⟨by rw [e0]; exact mO, by rw [e0]; exact mA⟩, ho, (e2 A (ne_oi fO fA).symm).trans fA, hl, hF', ?_, hD, hfp⟩, FRp.w hfp.1 e0 e2⟩
  intro k hk
  obtain ⟨k1, gt2, gb2, m2, n2, fa2, ft2, fb2, r2⟩ := hK k hk
  exact ⟨k1, gt2, gb2, ⟨by rw [e0]; exact m2.1, by rw [e0]; exact m2.2.1, by rw [e0]; exact m2.2.2⟩, n2, (e2 _ (ne_oo fO fa2 (by decide)).symm).trans fa2, (e2 _ (ne_oi fO ft2).symm).trans ft2, (e2 _ (ne_oi fO fb2).symm).trans fb2, r2⟩
theorem BNo.hd {G : xG} {h h' : xH} {o A : Nat} {fp : List Nat} {B B' : AB} {g : Nat → Option Nat} {bs : Nat → TR} {F : Nat → AS} (hB : BNo G h o A fp B g bs F) (e0 : h'.1 = h.1) (e2 : ∀ q, q ≠ o → h'.2 q = h.2 q) (ho : h'.2 o = .inr (0, bf A B')) (hl : B'.2.length ≤ 6) (hF' : ∀ k, k < B'.2.length → F k = B'.2.getD k dS) : BN G h' o A fp B' ∧ FRp fp h h' :=
  ⟨⟨g, bs, F, (hB.hdo e0 e2 ho hl hF').1⟩, (hB.hdo e0 e2 ho hl hF').2⟩
theorem WB.set {hd : Int × Int × Int × Int × Int × Int} {Ls : List AS} {i : Nat} {s : AS} (h : WB (hd, Ls)) (hs : WS s) : WB (hd, Ls.set i s) := ⟨fun x hx => by
  rcases List.mem_or_eq_of_mem_set hx with z | z
  · exact h.1 x z
  · rw [z]; exact hs, h.2⟩
theorem BN.fr {G : xG} {h h' : xH} {o A : Nat} {fp fp' : List Nat} {B : AB} (hB : BN G h o A fp B) (hF : FRp fp' h h') (hd : ∀ q ∈ fp, q ∉ fp') : BN G h' o A fp B := by
  obtain ⟨g, bs, F, ⟨mO, mA⟩, fO, fA, hL6, hLF, hK, hD, hfp⟩ := hB
  refine ⟨g, bs, F, ⟨by rw [hF.1]; exact mO, by rw [hF.1]; exact mA⟩, (hF.2 o (hd o hfp.1)).trans fO, (hF.2 A (hd A hfp.2.1)).trans fA, hL6, hLF, ?_, hD, hfp⟩
  intro k hk
  obtain ⟨k1, gt2, gb2, m2, n2, fa2, ft2, fb2, r2⟩ := hK k hk
  obtain ⟨t1, t2, t3⟩ := hfp.2.2 k hk
  exact ⟨k1, gt2, gb2, ⟨by rw [hF.1]; exact m2.1, by rw [hF.1]; exact m2.2.1, by rw [hF.1]; exact m2.2.2⟩, n2, (hF.2 _ (hd _ t1)).trans fa2, (hF.2 _ (hd _ t2)).trans ft2, (hF.2 _ (hd _ t3)).trans fb2, r2⟩
